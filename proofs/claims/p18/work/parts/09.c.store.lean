set_option maxHeartbeats 4000000 in
set_option maxRecDepth 100000 in
theorem c_S_newerOf (l : Launch) (dC : Nat → ClassId) (dI : Nat → Nat → Nat) (ad cd : Nat → Nat) (w wr fl : Nat → Int32) (pw sc : Int32) (lw rot vb : Nat → Int32) (rec tk : Int32) (live row : Nat → Int32) (cur ser dur wo : Int32) (bts : Nat → Int32) (us : Int32) (act : Nat → Int32) (rd rs : Int32) (kn : Int32) (pa : Nat) (hkn : PG 32 kn) (hp : pa < 32) : Met l y_S_newerOf w_S_newerOf ({ frames := 1, cells := 0, slots := 0, locals := 22 }) (xR (dC, dI) vwCl (xt cd) (xw ad cd w wr fl pw sc lw rot vb rec tk live row cur ser dur wo bts us act rd rs) [.ref (ad 1), .int kn, .int (nI pa)]) (vp_Si (fun r => r = kn ∨ r = nI pa)) 0 0 (fun _ => False) := by
  refine Met.ofW (cc := b_S_newerOf) (maxL := 4) (ret := (some (.int))) (by decide) rfl ?_
  intro P e s m args below meth c0 s₁ B hml hv
  obtain ⟨rfl, hP, hK, hN⟩ := hv
  have hx := B.exec
  have hb := B.bytes
  have hr := B.returns
  have hts := atoms_spec (ws := w_S_newerOf) B.pre
  have hown : s.vm.findClass R_S = some m.cls := findClass_of_methodNamed B.named
  have hlocks := B.notSynchronized
  have hl := lv_entry ([.ref (ad 1), .int kn, .int (nI pa)]) (n := 4) (Nat.le_of_ble_eq_true rfl)
  rw [lg_entry_eq]
  generalize (lg_sl ([.ref (ad 1), .int kn, .int (nI pa)]) ++ List.replicate (4 - (lg_sl ([.ref (ad 1), .int kn, .int (nI pa)])).length) Slot.unset).toArray = ls at hl ⊢
  have hl : lv_has ls 4 [(0, .ref (ad 1)), (1, .int kn), (2, .int (nI pa))] := hl
  rcases hkn with rfl | ⟨q, hhq, rfl⟩
  ·
    refine lv_iload_n hx hb d_S_newerOf_0 rfl (lv_at hl 1 rfl) ?_
    refine lv_iconst (v := (-1)) hx hb d_S_newerOf_1 (by decide) ?_
    refine lv_icmp_eq (tgt := 26) hx hb d_S_newerOf_2 (by decide) (fun c2 => ?_) (fun c2 => ?_)
    ·
      refine lv_iconst (v := nI 1) hx hb d_S_newerOf_26 (by decide) ?_
      refine lv_goto (tgt := 31) hx hb d_S_newerOf_27 (by decide) ?_
      refine lv_istore_n hx hb d_S_newerOf_31 rfl hl (by decide) rfl (fun ls hl => ?_)
      have hl : lv_has ls 4 [(3, .int (nI 1)), (0, .ref (ad 1)), (1, .int (-1)), (2, .int (nI pa))] := hl
      refine lv_iload_n hx hb d_S_newerOf_32 rfl (lv_at hl 0 rfl) ?_
      refine lv_if_eq (tgt := 40) hx hb d_S_newerOf_33 (by decide) (fun c33 => ?_) (fun c33 => ?_)
      ·
        exact absurd c33 (by decide)
      ·
        refine lv_iload_n hx hb d_S_newerOf_36 rfl (lv_at hl 3 rfl) ?_
        refine lv_goto (tgt := 41) hx hb d_S_newerOf_37 (by decide) ?_
        exact W.iret (v := nI pa) hx hb hr (fun t ht hW => ⟨nI pa, rfl, by first | exact Or.inl rfl | exact Or.inr rfl, ht⟩) (fun q hq => by cases hq) d_S_newerOf_41
    ·
      exact absurd c2 (by decide)
  ·
    refine lv_iload_n hx hb d_S_newerOf_0 rfl (lv_at hl 1 rfl) ?_
    refine lv_iconst (v := (-1)) hx hb d_S_newerOf_1 (by decide) ?_
    refine lv_icmp_eq (tgt := 26) hx hb d_S_newerOf_2 (by decide) (fun c2 => ?_) (fun c2 => ?_)
    ·
      exact absurd c2 (nm_ne (by omega) (by decide))
    ·
      refine lv_aload_n hx hb d_S_newerOf_5 rfl (lv_at hl 0 rfl) ?_
      refine va_get (D := (dC, dI)) (ci := 3) (v := .ref (ad 2)) (C := R_S) (T := F_S) (N := 7) hx hb hts (fun w h => List.mem_cons_of_mem _ (in_S w h)) hown hK hP 1 rfl rfl 0 (by decide) (hts (.fieldLink R_S 12 R_S "chip" "LWeighRecorder$Chip;") (List.mem_cons_of_mem _ t_52)) (fun _ h9 => h9) rfl d_S_newerOf_6 ?_
      refine lv_iload_n hx hb d_S_newerOf_9 rfl (lv_at hl 2 rfl) ?_
      refine lv_iconst (v := nI 1) hx hb d_S_newerOf_10 (by decide) ?_
      refine vp_callSi (va_runV (C := R_C) (As := [.int (nI pa), .int (nI 1)]) (rest := []) ⟨hx, hb, hml, hown, hts⟩ (c_C_read l dC dI ad cd w wr fl pw sc lw rot vb rec tk live row cur ser dur wo bts us act rd rs pa 1 (by first | omega | rfl | assumption | decide) (by first | omega | rfl | assumption | decide)) (cwV 2 hts (g_V t_173 t_165 t_166 t_3 t_167) rfl rfl rfl (by decide +kernel) ⟨by decide, by decide⟩) (xR_v hP hK hN 2 rfl rfl) rfl rfl hl.1 rfl (lv_room (Nat.le_of_ble_eq_true rfl)) d_S_newerOf_11 ⟨Nat.le_refl _, Nat.le_refl _⟩).run (fun r11 q11 => ?_)
      have q11 := q11.symm
      subst q11
      refine lv_aload_n hx hb d_S_newerOf_14 rfl (lv_at hl 0 rfl) ?_
      refine va_get (D := (dC, dI)) (ci := 3) (v := .ref (ad 2)) (C := R_S) (T := F_S) (N := 7) hx hb hts (fun w h => List.mem_cons_of_mem _ (in_S w h)) hown hK hP 1 rfl rfl 0 (by decide) (hts (.fieldLink R_S 12 R_S "chip" "LWeighRecorder$Chip;") (List.mem_cons_of_mem _ t_52)) (fun _ h9 => h9) rfl d_S_newerOf_15 ?_
      refine lv_iload_n hx hb d_S_newerOf_18 rfl (lv_at hl 1 rfl) ?_
      refine lv_iconst (v := nI 1) hx hb d_S_newerOf_19 (by decide) ?_
      refine vp_callSi (va_runV (C := R_C) (As := [.int (nI q), .int (nI 1)]) (rest := [.int (w (16 * pa + 1))]) ⟨hx, hb, hml, hown, hts⟩ (c_C_read l dC dI ad cd w wr fl pw sc lw rot vb rec tk live row cur ser dur wo bts us act rd rs q 1 (by first | omega | rfl | assumption | decide) (by first | omega | rfl | assumption | decide)) (cwV 2 hts (g_V t_173 t_165 t_166 t_3 t_167) rfl rfl rfl (by decide +kernel) ⟨by decide, by decide⟩) (xR_v hP hK hN 2 rfl rfl) rfl rfl hl.1 rfl (lv_room (Nat.le_of_ble_eq_true rfl)) d_S_newerOf_20 ⟨Nat.le_refl _, Nat.le_refl _⟩).run (fun r20 q20 => ?_)
      have q20 := q20.symm
      subst q20
      refine lv_icmp_le (tgt := 30) hx hb d_S_newerOf_23 (by decide) (fun c23 => ?_) (fun c23 => ?_)
      ·
        refine lv_iconst (v := nI 0) hx hb d_S_newerOf_30 (by decide) ?_
        refine lv_istore_n hx hb d_S_newerOf_31 rfl hl (by decide) rfl (fun ls hl => ?_)
        have hl : lv_has ls 4 [(3, .int (nI 0)), (0, .ref (ad 1)), (1, .int (nI q)), (2, .int (nI pa))] := hl
        refine lv_iload_n hx hb d_S_newerOf_32 rfl (lv_at hl 0 rfl) ?_
        refine lv_if_eq (tgt := 40) hx hb d_S_newerOf_33 (by decide) (fun c33 => ?_) (fun c33 => ?_)
        ·
          refine lv_iload_n hx hb d_S_newerOf_40 rfl (lv_at hl 2 rfl) ?_
          exact W.iret (v := nI q) hx hb hr (fun t ht hW => ⟨nI q, rfl, by first | exact Or.inl rfl | exact Or.inr rfl, ht⟩) (fun q hq => by cases hq) d_S_newerOf_41
        ·
          exact absurd c33 (by decide)
      ·
        refine lv_iconst (v := nI 1) hx hb d_S_newerOf_26 (by decide) ?_
        refine lv_goto (tgt := 31) hx hb d_S_newerOf_27 (by decide) ?_
        refine lv_istore_n hx hb d_S_newerOf_31 rfl hl (by decide) rfl (fun ls hl => ?_)
        have hl : lv_has ls 4 [(3, .int (nI 1)), (0, .ref (ad 1)), (1, .int (nI q)), (2, .int (nI pa))] := hl
        refine lv_iload_n hx hb d_S_newerOf_32 rfl (lv_at hl 0 rfl) ?_
        refine lv_if_eq (tgt := 40) hx hb d_S_newerOf_33 (by decide) (fun c33 => ?_) (fun c33 => ?_)
        ·
          exact absurd c33 (by decide)
        ·
          refine lv_iload_n hx hb d_S_newerOf_36 rfl (lv_at hl 3 rfl) ?_
          refine lv_goto (tgt := 41) hx hb d_S_newerOf_37 (by decide) ?_
          exact W.iret (v := nI pa) hx hb hr (fun t ht hW => ⟨nI pa, rfl, by first | exact Or.inl rfl | exact Or.inr rfl, ht⟩) (fun q hq => by cases hq) d_S_newerOf_41
set_option maxHeartbeats 4000000 in
set_option maxRecDepth 100000 in
theorem c_S_findNewestPages (l : Launch) (dC : Nat → ClassId) (dI : Nat → Nat → Nat) (ad cd : Nat → Nat) (sz : Nat) (w wr fl : Nat → Int32) (pw sc : Int32) (lw rot vb : Nat → Int32) (rec tk : Int32) (live row : Nat → Int32) (cur ser dur wo : Int32) (bts : Nat → Int32) (us : Int32) (act : Nat → Int32) (rd rs : Int32)  : Met l y_S_findNewestPages w_S_findNewestPages ({ frames := 2, cells := 0, slots := 0, locals := 46 }) (xP (dC, dI) vwCl (xt cd) (xw ad cd w wr fl pw sc lw rot vb rec tk live row cur ser dur wo bts us act rd rs) sz [.ref (ad 1)]) (va_Qi (fun r (u : (Nat → Nat → Int32) × (Nat → Int32) × (Nat → Nat)) => RTP w r ∧ ∀ i, i < 16 → RTP w ((u.1 0) i)) (fun (u : (Nat → Nat → Int32) × (Nat → Int32) × (Nat → Nat)) (t : State) => xB (dC, dI) vwCl (xt cd) (xA 15 ad sz) (xw ad cd w wr fl pw sc lw rot vb rec tk (u.1 0) row cur ser dur wo bts us act rd rs) t) (xA 15 ad sz)) 0 0 (xA 15 ad sz) := by
  refine Met.ofW (cc := b_S_findNewestPages) (maxL := 4) (ret := (some (.int))) (by decide) rfl ?_
  intro P e s m args below meth c0 s₁ B hml hv
  obtain ⟨rfl, hsz, hP, hK, hD0, hN⟩ := hv
  have hx := B.exec
  have hb := B.bytes
  have hr := B.returns
  have hts := atoms_spec (ws := w_S_findNewestPages) B.pre
  have hown : s.vm.findClass R_S = some m.cls := findClass_of_methodNamed B.named
  have hlocks := B.notSynchronized
  subst hsz
  have hD := xw_D (sz := s.heap.size) hD0
  have hS : va_S (xA 15 ad s.heap.size) s.heap s.heap [] := va_S.rf
  have hA : ∀ q : Nat, s.heap.size ≤ q → (xA 15 ad s.heap.size) q := fun q h => Or.inr h
  have hl := lv_entry ([.ref (ad 1)]) (n := 4) (Nat.le_of_ble_eq_true rfl)
  rw [lg_entry_eq]
  generalize (lg_sl ([.ref (ad 1)]) ++ List.replicate (4 - (lg_sl ([.ref (ad 1)])).length) Slot.unset).toArray = ls at hl ⊢
  have hl : lv_has ls 4 [(0, .ref (ad 1))] := hl
  refine lv_iconst (v := nI 0) hx hb d_S_findNewestPages_0 (by decide) ?_
  refine lv_istore_n hx hb d_S_findNewestPages_1 rfl hl (by decide) rfl (fun ls hl => ?_)
  have hl : lv_has ls 4 [(1, .int (nI 0)), (0, .ref (ad 1))] := hl
  have lp2 : ∀ (n : Nat) (k : Nat) (lv : Nat → Int32) (H : Heap) (locs : List Loc) (ls : Array Slot), (16 - k) < n → (k ≤ 16) → (∀ i, i < k → lv i = -1) → lv_has ls 4 [(0, .ref (ad 1)), (1, .int (nI k))] → va_P (dC, dI) vwCl (xw ad cd w wr fl pw sc lw rot vb rec tk lv row cur ser dur wo bts us act rd rs) H → va_D (xA 15 ad s.heap.size) (xw ad cd w wr fl pw sc lw rot vb rec tk lv row cur ser dur wo bts us act rd rs) → va_S (xA 15 ad s.heap.size) s.heap H locs → W P l e (headSpec w_S_findNewestPages ({ frames := 2, cells := 0, slots := 0, locals := 46 })).room s m (([.ref (ad 1)] : List Value).toArray) below meth c0 H locs 0 0 (MQ below (va_Qi (fun r (u : (Nat → Nat → Int32) × (Nat → Int32) × (Nat → Nat)) => RTP w r ∧ ∀ i, i < 16 → RTP w ((u.1 0) i)) (fun (u : (Nat → Nat → Int32) × (Nat → Int32) × (Nat → Nat)) (t : State) => xB (dC, dI) vwCl (xt cd) (xA 15 ad s.heap.size) (xw ad cd w wr fl pw sc lw rot vb rec tk (u.1 0) row cur ser dur wo bts us act rd rs) t) (xA 15 ad s.heap.size)) (([.ref (ad 1)] : List Value).toArray) s 0 0 (xA 15 ad s.heap.size)) (F0 m 2 ls []) := by
    intro n
    induction n with
    | zero => intro k lv H locs ls hm; intros; omega
    | succ n ih2 =>
      intro k lv H locs ls hm hk hf hl hP hD hS
      refine lv_iload_n hx hb d_S_findNewestPages_2 rfl (lv_at hl 1 rfl) ?_
      refine lv_bipush (v := nI 16) hx hb d_S_findNewestPages_3 (by decide) ?_
      refine lv_icmp_ge (tgt := 21) hx hb d_S_findNewestPages_5 (by decide) (fun c5 => ?_) (fun c5 => ?_)
      ·
        have c5 := cd_ge_t (by omega) (by omega) c5
        refine lv_iconst (v := (-1)) hx hb d_S_findNewestPages_21 (by decide) ?_
        refine lv_istore_n hx hb d_S_findNewestPages_22 rfl hl (by decide) rfl (fun ls hl => ?_)
        have hl : lv_has ls 4 [(1, .int (-1)), (0, .ref (ad 1))] := hl
        refine lv_iconst (v := nI 0) hx hb d_S_findNewestPages_23 (by decide) ?_
        refine lv_istore_n hx hb d_S_findNewestPages_24 rfl hl (by decide) rfl (fun ls hl => ?_)
        have hl : lv_has ls 4 [(2, .int (nI 0)), (1, .int (-1)), (0, .ref (ad 1))] := hl
        have lp25 : ∀ (n : Nat) (k : Nat) (nv : Int32) (lv : Nat → Int32) (H : Heap) (locs : List Loc) (ls : Array Slot), (32 - k) < n → (k ≤ 32) → (RTP w nv) → (∀ i, i < 16 → RTP w (lv i)) → lv_has ls 4 [(0, .ref (ad 1)), (1, .int nv), (2, .int (nI k))] → va_P (dC, dI) vwCl (xw ad cd w wr fl pw sc lw rot vb rec tk lv row cur ser dur wo bts us act rd rs) H → va_D (xA 15 ad s.heap.size) (xw ad cd w wr fl pw sc lw rot vb rec tk lv row cur ser dur wo bts us act rd rs) → va_S (xA 15 ad s.heap.size) s.heap H locs → W P l e (headSpec w_S_findNewestPages ({ frames := 2, cells := 0, slots := 0, locals := 46 })).room s m (([.ref (ad 1)] : List Value).toArray) below meth c0 H locs 0 0 (MQ below (va_Qi (fun r (u : (Nat → Nat → Int32) × (Nat → Int32) × (Nat → Nat)) => RTP w r ∧ ∀ i, i < 16 → RTP w ((u.1 0) i)) (fun (u : (Nat → Nat → Int32) × (Nat → Int32) × (Nat → Nat)) (t : State) => xB (dC, dI) vwCl (xt cd) (xA 15 ad s.heap.size) (xw ad cd w wr fl pw sc lw rot vb rec tk (u.1 0) row cur ser dur wo bts us act rd rs) t) (xA 15 ad s.heap.size)) (([.ref (ad 1)] : List Value).toArray) s 0 0 (xA 15 ad s.heap.size)) (F0 m 25 ls []) := by
          intro n
          induction n with
          | zero => intro k nv lv H locs ls hm; intros; omega
          | succ n ih25 =>
            intro k nv lv H locs ls hm hk hnv hf hl hP hD hS
            refine lv_iload_n hx hb d_S_findNewestPages_25 rfl (lv_at hl 2 rfl) ?_
            refine lv_bipush (v := nI 32) hx hb d_S_findNewestPages_26 (by decide) ?_
            refine lv_icmp_ge (tgt := 84) hx hb d_S_findNewestPages_28 (by decide) (fun c28 => ?_) (fun c28 => ?_)
            ·
              have c28 := cd_ge_t (by omega) (by omega) c28
              refine lv_iload_n hx hb d_S_findNewestPages_84 rfl (lv_at hl 1 rfl) ?_
              exact W.iret (v := nv) hx hb hr (fun t ht hW => ⟨⟨nv, (fun i => [lv].getD i (fun _ => 0), fun i => [].getD i 0, fun i => [].getD i 0), rfl, ⟨hnv, hf⟩, ⟨by rw [ht]; exact hP, va_K.moved hW.alike hK, hD⟩⟩, hS.F ht⟩) hS.2.2 d_S_findNewestPages_85
            ·
              have c28 := cd_ge_f (by omega) (by omega) c28
              refine lv_aload_n hx hb d_S_findNewestPages_31 rfl (lv_at hl 0 rfl) ?_
              refine va_get (D := (dC, dI)) (ci := 3) (v := .ref (ad 2)) (C := R_S) (T := F_S) (N := 7) hx hb hts (fun w h => List.mem_cons_of_mem _ (in_S w h)) hown hK hP 1 rfl rfl 0 (by decide) (hts (.fieldLink R_S 12 R_S "chip" "LWeighRecorder$Chip;") (List.mem_cons_of_mem _ t_52)) (fun _ h9 => h9) rfl d_S_findNewestPages_32 ?_
              refine lv_iload_n hx hb d_S_findNewestPages_35 rfl (lv_at hl 2 rfl) ?_
              refine vp_callSi (va_runV (C := R_C) (As := [.int (nI k)]) (rest := []) ⟨hx, hb, hml, hown, hts⟩ (c_C_isRight l dC dI ad cd w wr fl pw sc lw rot vb rec tk lv row cur ser dur wo bts us act rd rs k (by first | omega | rfl | assumption | decide)) (cwV 1 hts (g_V t_160 t_161 t_162 t_3 t_163) rfl rfl rfl (by decide +kernel) ⟨by decide, by decide⟩) (xR_v hP hK hN 2 rfl rfl) rfl rfl hl.1 rfl (lv_room (Nat.le_of_ble_eq_true rfl)) d_S_findNewestPages_36 ⟨Nat.le_refl _, Nat.le_refl _⟩).run (fun r36 q36 => ?_)
              rcases q36 with ⟨rfl, hrt36⟩ | rfl
              ·
                refine lv_if_eq (tgt := 78) hx hb d_S_findNewestPages_39 (by decide) (fun c39 => ?_) (fun c39 => ?_)
                ·
                  exact absurd c39 (by decide)
                ·
                  refine lv_aload_n hx hb d_S_findNewestPages_42 rfl (lv_at hl 0 rfl) ?_
                  refine va_get (D := (dC, dI)) (ci := 3) (v := .ref (ad 2)) (C := R_S) (T := F_S) (N := 7) hx hb hts (fun w h => List.mem_cons_of_mem _ (in_S w h)) hown hK hP 1 rfl rfl 0 (by decide) (hts (.fieldLink R_S 12 R_S "chip" "LWeighRecorder$Chip;") (List.mem_cons_of_mem _ t_52)) (fun _ h9 => h9) rfl d_S_findNewestPages_43 ?_
                  refine lv_iload_n hx hb d_S_findNewestPages_46 rfl (lv_at hl 2 rfl) ?_
                  refine lv_iconst (v := nI 0) hx hb d_S_findNewestPages_47 (by decide) ?_
                  refine vp_callSi (va_runV (C := R_C) (As := [.int (nI k), .int (nI 0)]) (rest := []) ⟨hx, hb, hml, hown, hts⟩ (c_C_read l dC dI ad cd w wr fl pw sc lw rot vb rec tk lv row cur ser dur wo bts us act rd rs k 0 (by first | omega | rfl | assumption | decide) (by first | omega | rfl | assumption | decide)) (cwV 2 hts (g_V t_173 t_165 t_166 t_3 t_167) rfl rfl rfl (by decide +kernel) ⟨by decide, by decide⟩) (xR_v hP hK hN 2 rfl rfl) rfl rfl hl.1 rfl (lv_room (Nat.le_of_ble_eq_true rfl)) d_S_findNewestPages_48 ⟨Nat.le_refl _, Nat.le_refl _⟩).run (fun r48 q48 => ?_)
                  have q48 := q48.symm
                  subst q48
                  obtain ⟨h, hh, h4, eh⟩ := id hrt36
                  refine tp_i (y := nI h) (eh) ?_
                  refine lv_iconst (v := nI 4) hx hb d_S_findNewestPages_51 (by decide) ?_
                  refine lv_idiv hx hb d_S_findNewestPages_52 (by decide) ?_
                  refine tp_i (y := nI (h / 4)) (pk_div (by omega) (by omega) (by omega)) ?_
                  refine lv_istore_n hx hb d_S_findNewestPages_53 rfl hl (by decide) rfl (fun ls hl => ?_)
                  have hl : lv_has ls 4 [(3, .int (nI (h / 4))), (0, .ref (ad 1)), (1, .int nv), (2, .int (nI k))] := hl
                  refine lv_aload_n hx hb d_S_findNewestPages_54 rfl (lv_at hl 1 rfl) ?_
                  refine va_get (D := (dC, dI)) (ci := 3) (v := .ref (ad 6)) (C := R_S) (T := F_S) (N := 7) hx hb hts (fun w h => List.mem_cons_of_mem _ (in_S w h)) hown hK hP 1 rfl rfl 1 (by decide) (hts (.fieldLink R_S 18 R_S "livePages" "[I") (List.mem_cons_of_mem _ t_53)) (fun _ h9 => h9) rfl d_S_findNewestPages_55 ?_
                  refine lv_iload_n hx hb d_S_findNewestPages_58 rfl (lv_at hl 0 rfl) ?_
                  refine lv_aload_n hx hb d_S_findNewestPages_59 rfl (lv_at hl 1 rfl) ?_
                  refine lv_aload_n hx hb d_S_findNewestPages_60 rfl (lv_at hl 1 rfl) ?_
                  refine va_get (D := (dC, dI)) (ci := 3) (v := .ref (ad 6)) (C := R_S) (T := F_S) (N := 7) hx hb hts (fun w h => List.mem_cons_of_mem _ (in_S w h)) hown hK hP 1 rfl rfl 1 (by decide) (hts (.fieldLink R_S 18 R_S "livePages" "[I") (List.mem_cons_of_mem _ t_53)) (fun _ h9 => h9) rfl d_S_findNewestPages_61 ?_
                  refine lv_iload_n hx hb d_S_findNewestPages_64 rfl (lv_at hl 0 rfl) ?_
                  refine va_iald hx hb hK hP 6 1 rfl rfl (vp_in_nI (by omega) (by decide)) d_S_findNewestPages_65 ?_
                  refine tp_i (y := lv (h / 4)) (by rw [nI_clamp (by omega)]) ?_
                  refine lv_iload_n hx hb d_S_findNewestPages_66 rfl (lv_at hl 3 rfl) ?_
                  refine vp_callSi (va_runV (C := R_S) (As := [.int (lv (h / 4)), .int (nI k)]) (rest := [.int (nI (h / 4)), .ref (ad 6)]) ⟨hx, hb, hml, hown, hts⟩ (c_S_newerOf l dC dI ad cd w wr fl pw sc lw rot vb rec tk lv row cur ser dur wo bts us act rd rs (lv (h / 4)) k ((hf _ (by omega)).pg) (by first | omega | rfl | assumption | decide)) (cwV 2 hts (g_V t_174 t_176 s_2 t_2 t_177) rfl rfl rfl (by decide +kernel) ⟨by decide, by decide⟩) (xR_v hP hK hN 1 rfl rfl) rfl rfl hl.1 rfl (lv_room (Nat.le_of_ble_eq_true rfl)) d_S_findNewestPages_67 ⟨Nat.le_refl _, Nat.le_refl _⟩).run (fun r67 q67 => ?_)
                  have hk67 := q67
                  refine va_iast hx hb hK hP hD hS 6 1 rfl rfl (vp_in_nI (by omega) (by decide)) d_S_findNewestPages_70 (fun H locs hP hD hS => ?_)
                  rw [nI_clamp (by omega)] at hP hD
                  have hP : va_P (dC, dI) vwCl (xw ad cd w wr fl pw sc lw rot vb rec tk (upd lv (h / 4) r67) row cur ser dur wo bts us act rd rs) H := hP
                  have hD : va_D (xA 15 ad s.heap.size) (xw ad cd w wr fl pw sc lw rot vb rec tk (upd lv (h / 4) r67) row cur ser dur wo bts us act rd rs) := hD
                  refine lv_aload_n hx hb d_S_findNewestPages_71 rfl (lv_at hl 1 rfl) ?_
                  refine lv_iload_n hx hb d_S_findNewestPages_72 rfl (lv_at hl 2 rfl) ?_
                  refine lv_iload_n hx hb d_S_findNewestPages_73 rfl (lv_at hl 3 rfl) ?_
                  refine vp_callSi (va_runV (C := R_S) (As := [.int nv, .int (nI k)]) (rest := []) ⟨hx, hb, hml, hown, hts⟩ (c_S_newerOf l dC dI ad cd w wr fl pw sc lw rot vb rec tk (upd lv (h / 4) r67) row cur ser dur wo bts us act rd rs nv k (hnv.pg) (by first | omega | rfl | assumption | decide)) (cwV 2 hts (g_V t_174 t_176 s_2 t_2 t_177) rfl rfl rfl (by decide +kernel) ⟨by decide, by decide⟩) (xR_v hP hK hN 1 rfl rfl) rfl rfl hl.1 rfl (lv_room (Nat.le_of_ble_eq_true rfl)) d_S_findNewestPages_74 ⟨Nat.le_refl _, Nat.le_refl _⟩).run (fun r74 q74 => ?_)
                  have hk74 := q74
                  refine lv_istore_n hx hb d_S_findNewestPages_77 rfl hl (by decide) rfl (fun ls hl => ?_)
                  have hl : lv_has ls 4 [(1, .int r74), (3, .int (nI (h / 4))), (0, .ref (ad 1)), (2, .int (nI k))] := hl
                  refine lv_iinc (k := 3) (v := nI (k + 1)) hx hb d_S_findNewestPages_78 hl rfl (nI_1 _) (by decide) rfl (fun ls hl => ?_)
                  have hl : lv_has ls 4 [(2, .int (nI (k + 1))), (1, .int r74), (3, .int (nI (h / 4))), (0, .ref (ad 1))] := hl
                  refine lv_goto (tgt := 25) hx hb d_S_findNewestPages_81 (by decide) ?_
                  exact ih25 (k + 1) r74 (upd lv (h / 4) r67) H locs ls (by omega) (by omega) (rtp_new hk74 hnv (by omega) hrt36) (RTP_upd hf (rtp_new hk67 (hf _ (by omega)) (by omega) hrt36)) (lv_sub hl [3, 1, 0] rfl) hP hD hS
              ·
                refine lv_if_eq (tgt := 78) hx hb d_S_findNewestPages_39 (by decide) (fun c39 => ?_) (fun c39 => ?_)
                ·
                  refine lv_iinc (k := 2) (v := nI (k + 1)) hx hb d_S_findNewestPages_78 hl rfl (nI_1 _) (by decide) rfl (fun ls hl => ?_)
                  have hl : lv_has ls 4 [(2, .int (nI (k + 1))), (0, .ref (ad 1)), (1, .int nv)] := hl
                  refine lv_goto (tgt := 25) hx hb d_S_findNewestPages_81 (by decide) ?_
                  exact ih25 (k + 1) nv lv H locs ls (by omega) (by omega) hnv hf (lv_sub hl [1, 2, 0] rfl) hP hD hS
                ·
                  exact absurd c39 (by decide)
        exact lp25 _ 0 (-1) lv H locs ls (Nat.lt_succ_self _) (by omega) (Or.inl rfl) (fun i hi => Or.inl (hf i (by omega))) (lv_sub hl [2, 1, 0] rfl) hP hD hS
      ·
        have c5 := cd_ge_f (by omega) (by omega) c5
        refine lv_aload_n hx hb d_S_findNewestPages_8 rfl (lv_at hl 0 rfl) ?_
        refine va_get (D := (dC, dI)) (ci := 3) (v := .ref (ad 6)) (C := R_S) (T := F_S) (N := 7) hx hb hts (fun w h => List.mem_cons_of_mem _ (in_S w h)) hown hK hP 1 rfl rfl 1 (by decide) (hts (.fieldLink R_S 18 R_S "livePages" "[I") (List.mem_cons_of_mem _ t_53)) (fun _ h9 => h9) rfl d_S_findNewestPages_9 ?_
        refine lv_iload_n hx hb d_S_findNewestPages_12 rfl (lv_at hl 1 rfl) ?_
        refine lv_iconst (v := (-1)) hx hb d_S_findNewestPages_13 (by decide) ?_
        refine va_iast hx hb hK hP hD hS 6 1 rfl rfl (vp_in_nI (by omega) (by decide)) d_S_findNewestPages_14 (fun H locs hP hD hS => ?_)
        rw [nI_clamp (by omega)] at hP hD
        have hP : va_P (dC, dI) vwCl (xw ad cd w wr fl pw sc lw rot vb rec tk (upd lv k (-1)) row cur ser dur wo bts us act rd rs) H := hP
        have hD : va_D (xA 15 ad s.heap.size) (xw ad cd w wr fl pw sc lw rot vb rec tk (upd lv k (-1)) row cur ser dur wo bts us act rd rs) := hD
        refine lv_iinc (k := 1) (v := nI (k + 1)) hx hb d_S_findNewestPages_15 hl rfl (nI_1 _) (by decide) rfl (fun ls hl => ?_)
        have hl : lv_has ls 4 [(1, .int (nI (k + 1))), (0, .ref (ad 1))] := hl
        refine lv_goto (tgt := 2) hx hb d_S_findNewestPages_18 (by decide) ?_
        exact ih2 (k + 1) (upd lv k (-1)) H locs ls (by omega) (by omega) (upd_lt hf) (lv_sub hl [1, 0] rfl) hP hD hS
  exact lp2 _ 0 live s.heap [] ls (Nat.lt_succ_self _) (by omega) (fun i hi => absurd hi (Nat.not_lt_zero i)) (lv_sub hl [1, 0] rfl) hP hD hS
set_option maxHeartbeats 4000000 in
set_option maxRecDepth 100000 in
theorem c_S_readLeaf (l : Launch) (dC : Nat → ClassId) (dI : Nat → Nat → Nat) (ad cd : Nat → Nat) (sz : Nat) (w wr fl : Nat → Int32) (pw sc : Int32) (lw rot vb : Nat → Int32) (rec tk : Int32) (live row : Nat → Int32) (cur ser dur wo : Int32) (bts : Nat → Int32) (us : Int32) (act : Nat → Int32) (rd rs : Int32) (rn : Nat) (tn : Nat) (pa : Nat) (hp : pa < 32) (hrtp : RT w pa) (hrt : tn ≤ rn) (hr48 : rn ≤ 48) (hrot : ∀ i, i < 48 → IX 48 (rot i)) : Met l y_S_readLeaf w_S_readLeaf ({ frames := 3, cells := 0, slots := 0, locals := 69 }) (xP (dC, dI) vwCl (xt cd) (xw ad cd w wr fl pw sc lw rot vb (nI rn) (nI tn) live row cur ser dur wo bts us act rd rs) sz [.ref (ad 1), .ref (ad 3), .int (nI pa)]) (va_Qi (fun r (u : (Nat → Nat → Int32) × (Nat → Int32) × (Nat → Nat)) => (u.2.2 1) ≤ (u.2.2 0) ∧ (u.2.2 0) ≤ 48 ∧ ∀ i, i < 48 → IX 48 ((u.1 1) i)) (fun (u : (Nat → Nat → Int32) × (Nat → Int32) × (Nat → Nat)) (t : State) => xB (dC, dI) vwCl (xt cd) (xA 15 ad sz) (xw ad cd w wr fl pw sc (u.1 0) (u.1 1) (u.1 2) (nI (u.2.2 0)) (nI (u.2.2 1)) live row cur ser dur wo bts us act rd rs) t) (xA 15 ad sz)) 0 0 (xA 15 ad sz) := by
  refine Met.ofW (cc := b_S_readLeaf) (maxL := 6) (ret := (some (.int))) (by decide) rfl ?_
  intro P e s m args below meth c0 s₁ B hml hv
  obtain ⟨rfl, hsz, hP, hK, hD0, hN⟩ := hv
  have hx := B.exec
  have hb := B.bytes
  have hr := B.returns
  have hts := atoms_spec (ws := w_S_readLeaf) B.pre
  have hown : s.vm.findClass R_S = some m.cls := findClass_of_methodNamed B.named
  have hlocks := B.notSynchronized
  subst hsz
  have hD := xw_D (sz := s.heap.size) hD0
  have hS : va_S (xA 15 ad s.heap.size) s.heap s.heap [] := va_S.rf
  have hA : ∀ q : Nat, s.heap.size ≤ q → (xA 15 ad s.heap.size) q := fun q h => Or.inr h
  have hl := lv_entry ([.ref (ad 1), .ref (ad 3), .int (nI pa)]) (n := 6) (Nat.le_of_ble_eq_true rfl)
  rw [lg_entry_eq]
  generalize (lg_sl ([.ref (ad 1), .ref (ad 3), .int (nI pa)]) ++ List.replicate (6 - (lg_sl ([.ref (ad 1), .ref (ad 3), .int (nI pa)])).length) Slot.unset).toArray = ls at hl ⊢
  have hl : lv_has ls 6 [(0, .ref (ad 1)), (1, .ref (ad 3)), (2, .int (nI pa))] := hl
  refine lv_aload_n hx hb d_S_readLeaf_0 rfl (lv_at hl 0 rfl) ?_
  refine va_get (D := (dC, dI)) (ci := 3) (v := .ref (ad 2)) (C := R_S) (T := F_S) (N := 7) hx hb hts (fun w h => List.mem_cons_of_mem _ (in_S w h)) hown hK hP 1 rfl rfl 0 (by decide) (hts (.fieldLink R_S 12 R_S "chip" "LWeighRecorder$Chip;") (List.mem_cons_of_mem _ t_52)) (fun _ h9 => h9) rfl d_S_readLeaf_1 ?_
  refine lv_iload_n hx hb d_S_readLeaf_4 rfl (lv_at hl 2 rfl) ?_
  refine lv_iconst (v := nI 0) hx hb d_S_readLeaf_5 (by decide) ?_
  refine vp_callSi (va_runV (C := R_C) (As := [.int (nI pa), .int (nI 0)]) (rest := []) ⟨hx, hb, hml, hown, hts⟩ (c_C_read l dC dI ad cd w wr fl pw sc lw rot vb (nI rn) (nI tn) live row cur ser dur wo bts us act rd rs pa 0 (by first | omega | rfl | assumption | decide) (by first | omega | rfl | assumption | decide)) (cwV 2 hts (g_V t_173 t_165 t_166 t_3 t_167) rfl rfl rfl (by decide +kernel) ⟨by decide, by decide⟩) (xR_v hP hK hN 2 rfl rfl) rfl rfl hl.1 rfl (lv_room (Nat.le_of_ble_eq_true rfl)) d_S_readLeaf_6 ⟨Nat.le_refl _, Nat.le_refl _⟩).run (fun r6 q6 => ?_)
  have q6 := q6.symm
  subst q6
  obtain ⟨h, hh, h4, eh⟩ := hrtp
  refine tp_i (y := nI h) (eh) ?_
  refine lv_iconst (v := nI 4) hx hb d_S_readLeaf_9 (by decide) ?_
  refine lv_irem hx hb d_S_readLeaf_10 (by decide) ?_
  refine tp_i (y := nI (h % 4)) (pk_rem (by omega) (by omega) (by omega)) ?_
  refine lv_istore_n hx hb d_S_readLeaf_11 rfl hl (by decide) rfl (fun ls hl => ?_)
  have hl : lv_has ls 6 [(3, .int (nI (h % 4))), (0, .ref (ad 1)), (1, .ref (ad 3)), (2, .int (nI pa))] := hl
  refine lv_iconst (v := nI 0) hx hb d_S_readLeaf_12 (by decide) ?_
  refine lv_istore hx hb d_S_readLeaf_13 hl (by decide) rfl (fun ls hl => ?_)
  have hl : lv_has ls 6 [(4, .int (nI 0)), (3, .int (nI (h % 4))), (0, .ref (ad 1)), (1, .ref (ad 3)), (2, .int (nI pa))] := hl
  have lp15 : ∀ (n : Nat) (k : Nat) (lv : Nat → Int32) (ov : Nat → Int32) (bv : Nat → Int32) (rv : Nat) (tv : Nat) (H : Heap) (locs : List Loc) (ls : Array Slot), (h % 4 - k) < n → (k ≤ h % 4) → (tv ≤ rv) → (rv ≤ 48) → (∀ i, i < 48 → IX 48 (ov i)) → lv_has ls 6 [(0, .ref (ad 1)), (1, .ref (ad 3)), (2, .int (nI pa)), (3, .int (nI (h % 4))), (4, .int (nI k))] → va_P (dC, dI) vwCl (xw ad cd w wr fl pw sc lv ov bv (nI rv) (nI tv) live row cur ser dur wo bts us act rd rs) H → va_D (xA 15 ad s.heap.size) (xw ad cd w wr fl pw sc lv ov bv (nI rv) (nI tv) live row cur ser dur wo bts us act rd rs) → va_S (xA 15 ad s.heap.size) s.heap H locs → W P l e (headSpec w_S_readLeaf ({ frames := 3, cells := 0, slots := 0, locals := 69 })).room s m (([.ref (ad 1), .ref (ad 3), .int (nI pa)] : List Value).toArray) below meth c0 H locs 0 0 (MQ below (va_Qi (fun r (u : (Nat → Nat → Int32) × (Nat → Int32) × (Nat → Nat)) => (u.2.2 1) ≤ (u.2.2 0) ∧ (u.2.2 0) ≤ 48 ∧ ∀ i, i < 48 → IX 48 ((u.1 1) i)) (fun (u : (Nat → Nat → Int32) × (Nat → Int32) × (Nat → Nat)) (t : State) => xB (dC, dI) vwCl (xt cd) (xA 15 ad s.heap.size) (xw ad cd w wr fl pw sc (u.1 0) (u.1 1) (u.1 2) (nI (u.2.2 0)) (nI (u.2.2 1)) live row cur ser dur wo bts us act rd rs) t) (xA 15 ad s.heap.size)) (([.ref (ad 1), .ref (ad 3), .int (nI pa)] : List Value).toArray) s 0 0 (xA 15 ad s.heap.size)) (F0 m 15 ls []) := by
    intro n
    induction n with
    | zero => intro k lv ov bv rv tv H locs ls hm; intros; omega
    | succ n ih15 =>
      intro k lv ov bv rv tv H locs ls hm hk hrt hr48 hrot hl hP hD hS
      refine lv_iload hx hb d_S_readLeaf_15 (lv_at hl 4 rfl) ?_
      refine lv_iload_n hx hb d_S_readLeaf_17 rfl (lv_at hl 3 rfl) ?_
      refine lv_icmp_ge (tgt := 85) hx hb d_S_readLeaf_18 (by decide) (fun c18 => ?_) (fun c18 => ?_)
      ·
        have c18 := cd_ge_t (by omega) (by omega) c18
        refine lv_iload_n hx hb d_S_readLeaf_85 rfl (lv_at hl 3 rfl) ?_
        exact W.iret (v := nI (h % 4)) hx hb hr (fun t ht hW => ⟨⟨nI (h % 4), (fun i => [lv, ov, bv].getD i (fun _ => 0), fun i => [].getD i 0, fun i => [rv, tv].getD i 0), rfl, ⟨hrt, hr48, hrot⟩, ⟨by rw [ht]; exact hP, va_K.moved hW.alike hK, hD⟩⟩, hS.F ht⟩) hS.2.2 d_S_readLeaf_86
      ·
        have c18 := cd_ge_f (by omega) (by omega) c18
        refine lv_iconst (v := nI 2) hx hb d_S_readLeaf_21 (by decide) ?_
        refine lv_iload hx hb d_S_readLeaf_22 (lv_at hl 4 rfl) ?_
        refine lv_iconst (v := nI 4) hx hb d_S_readLeaf_24 (by decide) ?_
        refine lv_imul hx hb d_S_readLeaf_25 ?_
        refine tp_i (y := nI (k * 4)) (pk_mul _ _) ?_
        refine lv_iadd hx hb d_S_readLeaf_26 ?_
        refine tp_i (y := nI (2 + (k * 4))) (nI_add _ _) ?_
        refine lv_istore hx hb d_S_readLeaf_27 hl (by decide) rfl (fun ls hl => ?_)
        have hl : lv_has ls 6 [(5, .int (nI (2 + (k * 4)))), (0, .ref (ad 1)), (1, .ref (ad 3)), (2, .int (nI pa)), (3, .int (nI (h % 4))), (4, .int (nI k))] := hl
        refine lv_aload_n hx hb d_S_readLeaf_29 rfl (lv_at hl 2 rfl) ?_
        refine lv_aload_n hx hb d_S_readLeaf_30 rfl (lv_at hl 1 rfl) ?_
        refine va_get (D := (dC, dI)) (ci := 3) (v := .ref (ad 2)) (C := R_S) (T := F_S) (N := 7) hx hb hts (fun w h => List.mem_cons_of_mem _ (in_S w h)) hown hK hP 1 rfl rfl 0 (by decide) (hts (.fieldLink R_S 12 R_S "chip" "LWeighRecorder$Chip;") (List.mem_cons_of_mem _ t_52)) (fun _ h9 => h9) rfl d_S_readLeaf_31 ?_
        refine lv_iload_n hx hb d_S_readLeaf_34 rfl (lv_at hl 3 rfl) ?_
        refine lv_iload hx hb d_S_readLeaf_35 (lv_at hl 0 rfl) ?_
        refine vp_callSi (va_runV (C := R_C) (As := [.int (nI pa), .int (nI (2 + (k * 4)))]) (rest := [.ref (ad 3)]) ⟨hx, hb, hml, hown, hts⟩ (c_C_read l dC dI ad cd w wr fl pw sc lv ov bv (nI rv) (nI tv) live row cur ser dur wo bts us act rd rs pa (2 + (k * 4)) (by first | omega | rfl | assumption | decide) (by first | omega | rfl | assumption | decide)) (cwV 2 hts (g_V t_173 t_165 t_166 t_3 t_167) rfl rfl rfl (by decide +kernel) ⟨by decide, by decide⟩) (xR_v hP hK hN 2 rfl rfl) rfl rfl hl.1 rfl (lv_room (Nat.le_of_ble_eq_true rfl)) d_S_readLeaf_37 ⟨Nat.le_refl _, Nat.le_refl _⟩).run (fun r37 q37 => ?_)
        have q37 := q37.symm
        subst q37
        refine lv_aload_n hx hb d_S_readLeaf_40 rfl (lv_at hl 1 rfl) ?_
        refine va_get (D := (dC, dI)) (ci := 3) (v := .ref (ad 2)) (C := R_S) (T := F_S) (N := 7) hx hb hts (fun w h => List.mem_cons_of_mem _ (in_S w h)) hown hK hP 1 rfl rfl 0 (by decide) (hts (.fieldLink R_S 12 R_S "chip" "LWeighRecorder$Chip;") (List.mem_cons_of_mem _ t_52)) (fun _ h9 => h9) rfl d_S_readLeaf_41 ?_
        refine lv_iload_n hx hb d_S_readLeaf_44 rfl (lv_at hl 3 rfl) ?_
        refine lv_iload hx hb d_S_readLeaf_45 (lv_at hl 0 rfl) ?_
        refine lv_iconst (v := nI 1) hx hb d_S_readLeaf_47 (by decide) ?_
        refine lv_iadd hx hb d_S_readLeaf_48 ?_
        refine tp_i (y := nI ((2 + (k * 4)) + 1)) (nI_add _ _) ?_
        refine vp_callSi (va_runV (C := R_C) (As := [.int (nI pa), .int (nI ((2 + (k * 4)) + 1))]) (rest := [.int (w (16 * pa + (2 + (k * 4)))), .ref (ad 3)]) ⟨hx, hb, hml, hown, hts⟩ (c_C_read l dC dI ad cd w wr fl pw sc lv ov bv (nI rv) (nI tv) live row cur ser dur wo bts us act rd rs pa ((2 + (k * 4)) + 1) (by first | omega | rfl | assumption | decide) (by first | omega | rfl | assumption | decide)) (cwV 2 hts (g_V t_173 t_165 t_166 t_3 t_167) rfl rfl rfl (by decide +kernel) ⟨by decide, by decide⟩) (xR_v hP hK hN 2 rfl rfl) rfl rfl hl.1 rfl (lv_room (Nat.le_of_ble_eq_true rfl)) d_S_readLeaf_49 ⟨Nat.le_refl _, Nat.le_refl _⟩).run (fun r49 q49 => ?_)
        have q49 := q49.symm
        subst q49
        refine lv_aload_n hx hb d_S_readLeaf_52 rfl (lv_at hl 1 rfl) ?_
        refine va_get (D := (dC, dI)) (ci := 3) (v := .ref (ad 2)) (C := R_S) (T := F_S) (N := 7) hx hb hts (fun w h => List.mem_cons_of_mem _ (in_S w h)) hown hK hP 1 rfl rfl 0 (by decide) (hts (.fieldLink R_S 12 R_S "chip" "LWeighRecorder$Chip;") (List.mem_cons_of_mem _ t_52)) (fun _ h9 => h9) rfl d_S_readLeaf_53 ?_
        refine lv_iload_n hx hb d_S_readLeaf_56 rfl (lv_at hl 3 rfl) ?_
        refine lv_iload hx hb d_S_readLeaf_57 (lv_at hl 0 rfl) ?_
        refine lv_iconst (v := nI 2) hx hb d_S_readLeaf_59 (by decide) ?_
        refine lv_iadd hx hb d_S_readLeaf_60 ?_
        refine tp_i (y := nI ((2 + (k * 4)) + 2)) (nI_add _ _) ?_
        refine vp_callSi (va_runV (C := R_C) (As := [.int (nI pa), .int (nI ((2 + (k * 4)) + 2))]) (rest := [.int (w (16 * pa + ((2 + (k * 4)) + 1))), .int (w (16 * pa + (2 + (k * 4)))), .ref (ad 3)]) ⟨hx, hb, hml, hown, hts⟩ (c_C_read l dC dI ad cd w wr fl pw sc lv ov bv (nI rv) (nI tv) live row cur ser dur wo bts us act rd rs pa ((2 + (k * 4)) + 2) (by first | omega | rfl | assumption | decide) (by first | omega | rfl | assumption | decide)) (cwV 2 hts (g_V t_173 t_165 t_166 t_3 t_167) rfl rfl rfl (by decide +kernel) ⟨by decide, by decide⟩) (xR_v hP hK hN 2 rfl rfl) rfl rfl hl.1 rfl (lv_room (Nat.le_of_ble_eq_true rfl)) d_S_readLeaf_61 ⟨Nat.le_refl _, Nat.le_refl _⟩).run (fun r61 q61 => ?_)
        have q61 := q61.symm
        subst q61
        refine lv_aload_n hx hb d_S_readLeaf_64 rfl (lv_at hl 1 rfl) ?_
        refine va_get (D := (dC, dI)) (ci := 3) (v := .ref (ad 2)) (C := R_S) (T := F_S) (N := 7) hx hb hts (fun w h => List.mem_cons_of_mem _ (in_S w h)) hown hK hP 1 rfl rfl 0 (by decide) (hts (.fieldLink R_S 12 R_S "chip" "LWeighRecorder$Chip;") (List.mem_cons_of_mem _ t_52)) (fun _ h9 => h9) rfl d_S_readLeaf_65 ?_
        refine lv_iload_n hx hb d_S_readLeaf_68 rfl (lv_at hl 3 rfl) ?_
        refine lv_iload hx hb d_S_readLeaf_69 (lv_at hl 0 rfl) ?_
        refine lv_iconst (v := nI 3) hx hb d_S_readLeaf_71 (by decide) ?_
        refine lv_iadd hx hb d_S_readLeaf_72 ?_
        refine tp_i (y := nI ((2 + (k * 4)) + 3)) (nI_add _ _) ?_
        refine vp_callSi (va_runV (C := R_C) (As := [.int (nI pa), .int (nI ((2 + (k * 4)) + 3))]) (rest := [.int (w (16 * pa + ((2 + (k * 4)) + 2))), .int (w (16 * pa + ((2 + (k * 4)) + 1))), .int (w (16 * pa + (2 + (k * 4)))), .ref (ad 3)]) ⟨hx, hb, hml, hown, hts⟩ (c_C_read l dC dI ad cd w wr fl pw sc lv ov bv (nI rv) (nI tv) live row cur ser dur wo bts us act rd rs pa ((2 + (k * 4)) + 3) (by first | omega | rfl | assumption | decide) (by first | omega | rfl | assumption | decide)) (cwV 2 hts (g_V t_173 t_165 t_166 t_3 t_167) rfl rfl rfl (by decide +kernel) ⟨by decide, by decide⟩) (xR_v hP hK hN 2 rfl rfl) rfl rfl hl.1 rfl (lv_room (Nat.le_of_ble_eq_true rfl)) d_S_readLeaf_73 ⟨Nat.le_refl _, Nat.le_refl _⟩).run (fun r73 q73 => ?_)
        have q73 := q73.symm
        subst q73
        have hSz := hS.1
        refine va_callv (va_runV (C := R_G) (As := [.int (w (16 * pa + (2 + (k * 4)))), .int (w (16 * pa + ((2 + (k * 4)) + 1))), .int (w (16 * pa + ((2 + (k * 4)) + 2))), .int (w (16 * pa + ((2 + (k * 4)) + 3)))]) (rest := []) ⟨hx, hb, hml, hown, hts⟩ (c_G_addLinked l dC dI ad cd H.size w wr fl pw sc lv ov bv (nI rv) (nI tv) live row cur ser dur wo bts us act rd rs rv tv (w (16 * pa + (2 + (k * 4)))) (w (16 * pa + ((2 + (k * 4)) + 1))) (w (16 * pa + ((2 + (k * 4)) + 2))) (w (16 * pa + ((2 + (k * 4)) + 3))) (by first | omega | rfl | assumption | decide) (by first | omega | rfl | assumption | decide) (by first | omega | rfl | assumption | decide)) (cwV 4 hts (g_V t_186 t_187 t_188 t_4 t_189) rfl rfl rfl (by decide +kernel) ⟨by decide, by decide⟩) (xP_v hP hK hD hN 3 rfl rfl) rfl rfl hl.1 rfl (lv_room (Nat.le_of_ble_eq_true rfl)) d_S_readLeaf_76 ⟨Nat.le_refl _, Nat.le_refl _⟩) hS (fun q _ h => xA_up hS.1 q h) (fun q h => xA_up hS.1 q h) (fun u76 t H1 locs1 ht hvm q76 hB hz1 hk1 hS => ?_)
        obtain ⟨hP1, hK1, hD1⟩ := hB
        rw [ht] at hP1
        have hD : va_D (xA 15 ad s.heap.size) (xw ad cd w wr fl pw sc (u76.1 0) (u76.1 1) (u76.1 2) (nI (u76.2.2 0)) (nI (u76.2.2 1)) live row cur ser dur wo bts us act rd rs) := hD1.weaken (fun _ q _ h => xA_up hSz _ h)
        have hP : va_P (dC, dI) vwCl (xw ad cd w wr fl pw sc (u76.1 0) (u76.1 1) (u76.1 2) (nI (u76.2.2 0)) (nI (u76.2.2 1)) live row cur ser dur wo bts us act rd rs) H1 := hP1
        generalize H1 = H at hP hS ⊢
        generalize locs1 = locs at hS ⊢
        obtain ⟨hrt, hr48, hrot⟩ := q76
        refine lv_iinc (k := 5) (v := nI (k + 1)) hx hb d_S_readLeaf_79 hl rfl (nI_1 _) (by decide) rfl (fun ls hl => ?_)
        have hl : lv_has ls 6 [(4, .int (nI (k + 1))), (5, .int (nI (2 + (k * 4)))), (0, .ref (ad 1)), (1, .ref (ad 3)), (2, .int (nI pa)), (3, .int (nI (h % 4)))] := hl
        refine lv_goto (tgt := 15) hx hb d_S_readLeaf_82 (by decide) ?_
        exact ih15 (k + 1) (u76.1 0) (u76.1 1) (u76.1 2) (u76.2.2 0) (u76.2.2 1) H locs ls (by omega) (by omega) hrt hr48 hrot (lv_sub hl [2, 3, 4, 5, 0] rfl) hP hD hS
  exact lp15 _ 0 lw rot vb rn tn s.heap [] ls (Nat.lt_succ_self _) (by omega) hrt hr48 hrot (lv_sub hl [2, 3, 4, 1, 0] rfl) hP hD hS
set_option maxHeartbeats 4000000 in
set_option maxRecDepth 100000 in
theorem c_S_restore (l : Launch) (dC : Nat → ClassId) (dI : Nat → Nat → Nat) (ad cd : Nat → Nat) (sz : Nat) (w wr fl : Nat → Int32) (pw sc : Int32) (lw rot vb : Nat → Int32) (rec tk : Int32) (live row : Nat → Int32) (cur ser dur wo : Int32) (bts : Nat → Int32) (us : Int32) (act : Nat → Int32) (rd rs : Int32)  (hrot : ∀ i, i < 48 → IX 48 (rot i)) : Met l y_S_restore w_S_restore ({ frames := 4, cells := 0, slots := 0, locals := 94 }) (xP (dC, dI) vwCl (xt cd) (xw ad cd w wr fl pw sc lw rot vb rec tk live row cur ser dur wo bts us act rd rs) sz [.ref (ad 1), .ref (ad 3)]) (va_Qv (fun (u : (Nat → Nat → Int32) × (Nat → Int32) × (Nat → Nat)) => (∀ i, i < 16 → PG 32 ((u.1 0) i)) ∧ PG 8 (u.2.1 0) ∧ B01 (u.2.1 2) ∧ (u.2.2 1) ≤ (u.2.2 0) ∧ (u.2.2 0) ≤ 48 ∧ ∀ i, i < 48 → IX 48 ((u.1 2) i)) (fun (u : (Nat → Nat → Int32) × (Nat → Int32) × (Nat → Nat)) (t : State) => xB (dC, dI) vwCl (xt cd) (xA 15 ad sz) (xw ad cd w wr fl pw sc (u.1 1) (u.1 2) (u.1 3) (nI (u.2.2 0)) (nI (u.2.2 1)) (u.1 0) row (u.2.1 0) (u.2.1 1) (u.2.1 3) (u.2.1 2) bts us act rd rs) t) (xA 15 ad sz)) 0 0 (xA 15 ad sz) := by
  refine Met.ofW (cc := b_S_restore) (maxL := 5) (ret := none) (by decide) rfl ?_
  intro P e s m args below meth c0 s₁ B hml hv
  obtain ⟨rfl, hsz, hP, hK, hD0, hN⟩ := hv
  have hx := B.exec
  have hb := B.bytes
  have hr := B.returns
  have hts := atoms_spec (ws := w_S_restore) B.pre
  have hown : s.vm.findClass R_S = some m.cls := findClass_of_methodNamed B.named
  have hlocks := B.notSynchronized
  subst hsz
  have hD := xw_D (sz := s.heap.size) hD0
  have hS : va_S (xA 15 ad s.heap.size) s.heap s.heap [] := va_S.rf
  have hA : ∀ q : Nat, s.heap.size ≤ q → (xA 15 ad s.heap.size) q := fun q h => Or.inr h
  have hl := lv_entry ([.ref (ad 1), .ref (ad 3)]) (n := 5) (Nat.le_of_ble_eq_true rfl)
  rw [lg_entry_eq]
  generalize (lg_sl ([.ref (ad 1), .ref (ad 3)]) ++ List.replicate (5 - (lg_sl ([.ref (ad 1), .ref (ad 3)])).length) Slot.unset).toArray = ls at hl ⊢
  have hl : lv_has ls 5 [(0, .ref (ad 1)), (1, .ref (ad 3))] := hl
  refine lv_aload_n hx hb d_S_restore_0 rfl (lv_at hl 0 rfl) ?_
  have hSz := hS.1
  refine va_calli (va_runV (C := R_S) (As := []) (rest := []) ⟨hx, hb, hml, hown, hts⟩ (c_S_findNewestPages l dC dI ad cd s.heap.size w wr fl pw sc lw rot vb rec tk live row cur ser dur wo bts us act rd rs  ) (cwV 0 hts (g_V t_156 t_158 s_1 t_2 t_159) rfl rfl rfl (by decide +kernel) ⟨by decide, by decide⟩) (xP_v hP hK hD hN 1 rfl rfl) rfl rfl hl.1 rfl (lv_room (Nat.le_of_ble_eq_true rfl)) d_S_restore_1 ⟨Nat.le_refl _, Nat.le_refl _⟩) hS (fun q _ h => xA_up hS.1 q h) (fun q h => xA_up hS.1 q h) (fun r1 u1 t H1 locs1 ht hvm q1 hB hz1 hk1 hS => ?_)
  obtain ⟨hP1, hK1, hD1⟩ := hB
  rw [ht] at hP1
  have hD : va_D (xA 15 ad s.heap.size) (xw ad cd w wr fl pw sc lw rot vb rec tk (u1.1 0) row cur ser dur wo bts us act rd rs) := hD1.weaken (fun _ q _ h => xA_up hSz _ h)
  have hP : va_P (dC, dI) vwCl (xw ad cd w wr fl pw sc lw rot vb rec tk (u1.1 0) row cur ser dur wo bts us act rd rs) H1 := hP1
  generalize H1 = H at hP hS ⊢
  generalize locs1 = locs at hS ⊢
  rcases q1 with ⟨rfl | ⟨p1, hp1, rfl, hrt1⟩, hf⟩
  ·
    refine lv_istore_n hx hb d_S_restore_4 rfl hl (by decide) rfl (fun ls hl => ?_)
    have hl : lv_has ls 5 [(2, .int (-1)), (0, .ref (ad 1)), (1, .ref (ad 3))] := hl
    refine lv_aload_n hx hb d_S_restore_5 rfl (lv_at hl 1 rfl) ?_
    refine lv_iload_n hx hb d_S_restore_6 rfl (lv_at hl 0 rfl) ?_
    refine lv_iconst (v := (-1)) hx hb d_S_restore_7 (by decide) ?_
    refine lv_icmp_ne (tgt := 15) hx hb d_S_restore_8 (by decide) (fun c8 => ?_) (fun c8 => ?_)
    ·
      exact absurd c8 (by decide)
    ·
      refine lv_iconst (v := (-1)) hx hb d_S_restore_11 (by decide) ?_
      refine lv_goto (tgt := 18) hx hb d_S_restore_12 (by decide) ?_
      refine va_put (D := (dC, dI)) (ci := 3) (v := .int (-1)) (ty := .int) (C := R_S) (T := F_S) (N := 7) hx hb hts (fun w h => List.mem_cons_of_mem _ (in_S w h)) t_S ok_S nm_S hown hK hP hD hS 1 rfl rfl 3 (by decide) (hts (.fieldLink R_S 25 R_S "cursor" "I") (List.mem_cons_of_mem _ t_55)) (fun _ h9 => h9) rfl (by decide +kernel) rfl rfl (Nat.le_of_ble_eq_true rfl) d_S_restore_18 (fun H locs hP hD hS => ?_)
      have hP : va_P (dC, dI) vwCl (xw ad cd w wr fl pw sc lw rot vb rec tk (u1.1 0) row (-1) ser dur wo bts us act rd rs) H := hP
      have hD : va_D (xA 15 ad s.heap.size) (xw ad cd w wr fl pw sc lw rot vb rec tk (u1.1 0) row (-1) ser dur wo bts us act rd rs) := hD
      refine lv_aload_n hx hb d_S_restore_21 rfl (lv_at hl 1 rfl) ?_
      refine lv_iload_n hx hb d_S_restore_22 rfl (lv_at hl 0 rfl) ?_
      refine lv_iconst (v := (-1)) hx hb d_S_restore_23 (by decide) ?_
      refine lv_icmp_ne (tgt := 31) hx hb d_S_restore_24 (by decide) (fun c24 => ?_) (fun c24 => ?_)
      ·
        exact absurd c24 (by decide)
      ·
        refine lv_iconst (v := nI 0) hx hb d_S_restore_27 (by decide) ?_
        refine lv_goto (tgt := 40) hx hb d_S_restore_28 (by decide) ?_
        refine va_put (D := (dC, dI)) (ci := 3) (v := .int (nI 0)) (ty := .int) (C := R_S) (T := F_S) (N := 7) hx hb hts (fun w h => List.mem_cons_of_mem _ (in_S w h)) t_S ok_S nm_S hown hK hP hD hS 1 rfl rfl 4 (by decide) (hts (.fieldLink R_S 29 R_S "serial" "I") (List.mem_cons_of_mem _ t_56)) (fun _ h9 => h9) rfl (by decide +kernel) rfl rfl (Nat.le_of_ble_eq_true rfl) d_S_restore_40 (fun H locs hP hD hS => ?_)
        have hP : va_P (dC, dI) vwCl (xw ad cd w wr fl pw sc lw rot vb rec tk (u1.1 0) row (-1) (nI 0) dur wo bts us act rd rs) H := hP
        have hD : va_D (xA 15 ad s.heap.size) (xw ad cd w wr fl pw sc lw rot vb rec tk (u1.1 0) row (-1) (nI 0) dur wo bts us act rd rs) := hD
        refine lv_aload_n hx hb d_S_restore_43 rfl (lv_at hl 1 rfl) ?_
        refine lv_iconst (v := nI 0) hx hb d_S_restore_44 (by decide) ?_
        refine va_put (D := (dC, dI)) (ci := 3) (v := .int (nI 0)) (ty := .boolean) (C := R_S) (T := F_S) (N := 7) hx hb hts (fun w h => List.mem_cons_of_mem _ (in_S w h)) t_S ok_S nm_S hown hK hP hD hS 1 rfl rfl 6 (by decide) (hts (.fieldLink R_S 35 R_S "wornOut" "Z") (List.mem_cons_of_mem _ t_58)) (fun _ h9 => h9) rfl (by decide +kernel) (by first | rfl | decide | assumption) rfl (Nat.le_of_ble_eq_true rfl) d_S_restore_45 (fun H locs hP hD hS => ?_)
        have hP : va_P (dC, dI) vwCl (xw ad cd w wr fl pw sc lw rot vb rec tk (u1.1 0) row (-1) (nI 0) dur (nI 0) bts us act rd rs) H := hP
        have hD : va_D (xA 15 ad s.heap.size) (xw ad cd w wr fl pw sc lw rot vb rec tk (u1.1 0) row (-1) (nI 0) dur (nI 0) bts us act rd rs) := hD
        refine lv_aload_n hx hb d_S_restore_48 rfl (lv_at hl 2 rfl) ?_
        have hSz := hS.1
        refine va_callv (va_runV (C := R_G) (As := []) (rest := []) ⟨hx, hb, hml, hown, hts⟩ (c_G_empty l dC dI ad cd H.size w wr fl pw sc lw rot vb rec tk (u1.1 0) row (-1) (nI 0) dur (nI 0) bts us act rd rs  ) (cwV 0 hts (g_V t_178 t_179 t_180 t_4 t_181) rfl rfl rfl (by decide +kernel) ⟨by decide, by decide⟩) (xP_v hP hK hD hN 3 rfl rfl) rfl rfl hl.1 rfl (lv_room (Nat.le_of_ble_eq_true rfl)) d_S_restore_49 ⟨Nat.le_refl _, Nat.le_refl _⟩) hS (fun q _ h => xA_up hS.1 q h) (fun q h => xA_up hS.1 q h) (fun u49 t H1 locs1 ht hvm q49 hB hz1 hk1 hS => ?_)
        obtain ⟨hP1, hK1, hD1⟩ := hB
        rw [ht] at hP1
        have hD : va_D (xA 15 ad s.heap.size) (xw ad cd w wr fl pw sc lw rot vb (nI (u49.2.2 0)) (nI (u49.2.2 1)) (u1.1 0) row (-1) (nI 0) dur (nI 0) bts us act rd rs) := hD1.weaken (fun _ q _ h => xA_up hSz _ h)
        have hP : va_P (dC, dI) vwCl (xw ad cd w wr fl pw sc lw rot vb (nI (u49.2.2 0)) (nI (u49.2.2 1)) (u1.1 0) row (-1) (nI 0) dur (nI 0) bts us act rd rs) H1 := hP1
        generalize H1 = H at hP hS ⊢
        generalize locs1 = locs at hS ⊢
        obtain ⟨hrec49, htk49⟩ := q49
        refine lv_iconst (v := nI 1) hx hb d_S_restore_52 (by decide) ?_
        refine lv_istore_n hx hb d_S_restore_53 rfl hl (by decide) rfl (fun ls hl => ?_)
        have hl : lv_has ls 5 [(3, .int (nI 1)), (2, .int (-1)), (0, .ref (ad 1)), (1, .ref (ad 3))] := hl
        refine lv_iconst (v := nI 0) hx hb d_S_restore_54 (by decide) ?_
        refine lv_istore hx hb d_S_restore_55 hl (by decide) rfl (fun ls hl => ?_)
        have hl : lv_has ls 5 [(4, .int (nI 0)), (3, .int (nI 1)), (2, .int (-1)), (0, .ref (ad 1)), (1, .ref (ad 3))] := hl
        have lp57 : ∀ (n : Nat) (k : Nat) (gv : Int32) (lv : Nat → Int32) (gw_ : Nat → Int32) (ov : Nat → Int32) (bv : Nat → Int32) (rv : Nat) (tv : Nat) (H : Heap) (locs : List Loc) (ls : Array Slot), (16 - k) < n → (k ≤ 16) → (∀ i, i < 16 → RTP w (lv i)) → (tv ≤ rv) → (rv ≤ 48) → (∀ i, i < 48 → IX 48 (ov i)) → lv_has ls 5 [(0, .ref (ad 1)), (1, .ref (ad 3)), (3, .int gv), (4, .int (nI k))] → va_P (dC, dI) vwCl (xw ad cd w wr fl pw sc gw_ ov bv (nI rv) (nI tv) lv row (-1) (nI 0) dur (nI 0) bts us act rd rs) H → va_D (xA 15 ad s.heap.size) (xw ad cd w wr fl pw sc gw_ ov bv (nI rv) (nI tv) lv row (-1) (nI 0) dur (nI 0) bts us act rd rs) → va_S (xA 15 ad s.heap.size) s.heap H locs → W P l e (headSpec w_S_restore ({ frames := 4, cells := 0, slots := 0, locals := 94 })).room s m (([.ref (ad 1), .ref (ad 3)] : List Value).toArray) below meth c0 H locs 0 0 (MQ below (va_Qv (fun (u : (Nat → Nat → Int32) × (Nat → Int32) × (Nat → Nat)) => (∀ i, i < 16 → PG 32 ((u.1 0) i)) ∧ PG 8 (u.2.1 0) ∧ B01 (u.2.1 2) ∧ (u.2.2 1) ≤ (u.2.2 0) ∧ (u.2.2 0) ≤ 48 ∧ ∀ i, i < 48 → IX 48 ((u.1 2) i)) (fun (u : (Nat → Nat → Int32) × (Nat → Int32) × (Nat → Nat)) (t : State) => xB (dC, dI) vwCl (xt cd) (xA 15 ad s.heap.size) (xw ad cd w wr fl pw sc (u.1 1) (u.1 2) (u.1 3) (nI (u.2.2 0)) (nI (u.2.2 1)) (u.1 0) row (u.2.1 0) (u.2.1 1) (u.2.1 3) (u.2.1 2) bts us act rd rs) t) (xA 15 ad s.heap.size)) (([.ref (ad 1), .ref (ad 3)] : List Value).toArray) s 0 0 (xA 15 ad s.heap.size)) (F0 m 57 ls []) := by
          intro n
          induction n with
          | zero => intro k gv lv gw_ ov bv rv tv H locs ls hm; intros; omega
          | succ n ih57 =>
            intro k gv lv gw_ ov bv rv tv H locs ls hm hk hf hrt hr48 hrot hl hP hD hS
            refine lv_iload hx hb d_S_restore_57 (lv_at hl 3 rfl) ?_
            refine lv_bipush (v := nI 16) hx hb d_S_restore_59 (by decide) ?_
            refine lv_icmp_ge (tgt := 128) hx hb d_S_restore_61 (by decide) (fun c61 => ?_) (fun c61 => ?_)
            ·
              have c61 := cd_ge_t (by omega) (by omega) c61
              refine lv_aload_n hx hb d_S_restore_128 rfl (lv_at hl 0 rfl) ?_
              refine lv_aload_n hx hb d_S_restore_129 rfl (lv_at hl 1 rfl) ?_
              refine vp_callSi (va_runV (C := R_G) (As := []) (rest := [.ref (ad 1)]) ⟨hx, hb, hml, hown, hts⟩ (c_G_recordCount l dC dI ad cd w wr fl pw sc gw_ ov bv (nI rv) (nI tv) lv row (-1) (nI 0) dur (nI 0) bts us act rd rs rv ) (cwV 0 hts (g_V t_209 t_210 t_211 t_4 t_212) rfl rfl rfl (by decide +kernel) ⟨by decide, by decide⟩) (xR_v hP hK hN 3 rfl rfl) rfl rfl hl.1 rfl (lv_room (Nat.le_of_ble_eq_true rfl)) d_S_restore_130 ⟨Nat.le_refl _, Nat.le_refl _⟩).run (fun r130 q130 => ?_)
              have q130 := q130.symm
              subst q130
              refine va_put (D := (dC, dI)) (ci := 3) (v := .int (nI rv)) (ty := .int) (C := R_S) (T := F_S) (N := 7) hx hb hts (fun w h => List.mem_cons_of_mem _ (in_S w h)) t_S ok_S nm_S hown hK hP hD hS 1 rfl rfl 5 (by decide) (hts (.fieldLink R_S 32 R_S "durable" "I") (List.mem_cons_of_mem _ t_57)) (fun _ h9 => h9) rfl (by decide +kernel) rfl rfl (Nat.le_of_ble_eq_true rfl) d_S_restore_133 (fun H locs hP hD hS => ?_)
              have hP : va_P (dC, dI) vwCl (xw ad cd w wr fl pw sc gw_ ov bv (nI rv) (nI tv) lv row (-1) (nI 0) (nI rv) (nI 0) bts us act rd rs) H := hP
              have hD : va_D (xA 15 ad s.heap.size) (xw ad cd w wr fl pw sc gw_ ov bv (nI rv) (nI tv) lv row (-1) (nI 0) (nI rv) (nI 0) bts us act rd rs) := hD
              exact W.vret hx hb hr (fun t ht hW => ⟨⟨(fun i => [lv, gw_, ov, bv].getD i (fun _ => 0), fun i => [(-1), nI 0, nI 0, nI rv].getD i 0, fun i => [rv, tv].getD i 0), rfl, ⟨fun i hi => (hf i hi).pg, PG.m1, B01.n0, hrt, hr48, hrot⟩, ⟨by rw [ht]; exact hP, va_K.moved hW.alike hK, hD⟩⟩, hS.F ht⟩) hS.2.2 d_S_restore_136
            ·
              have c61 := cd_ge_f (by omega) (by omega) c61
              refine lv_iload_n hx hb d_S_restore_64 rfl (lv_at hl 2 rfl) ?_
              refine lv_if_eq (tgt := 83) hx hb d_S_restore_65 (by decide) (fun c65 => ?_) (fun c65 => ?_)
              ·
                refine lv_iconst (v := nI 0) hx hb d_S_restore_83 (by decide) ?_
                refine lv_istore_n hx hb d_S_restore_84 rfl hl (by decide) rfl (fun ls hl => ?_)
                have hl : lv_has ls 5 [(3, .int (nI 0)), (0, .ref (ad 1)), (1, .ref (ad 3)), (4, .int (nI k))] := hl
                refine lv_iload_n hx hb d_S_restore_85 rfl (lv_at hl 0 rfl) ?_
                refine lv_if_eq (tgt := 114) hx hb d_S_restore_86 (by decide) (fun c86 => ?_) (fun c86 => ?_)
                ·
                  refine lv_aload_n hx hb d_S_restore_114 rfl (lv_at hl 1 rfl) ?_
                  refine va_get (D := (dC, dI)) (ci := 3) (v := .ref (ad 6)) (C := R_S) (T := F_S) (N := 7) hx hb hts (fun w h => List.mem_cons_of_mem _ (in_S w h)) hown hK hP 1 rfl rfl 1 (by decide) (hts (.fieldLink R_S 18 R_S "livePages" "[I") (List.mem_cons_of_mem _ t_53)) (fun _ h9 => h9) rfl d_S_restore_115 ?_
                  refine lv_iload hx hb d_S_restore_118 (lv_at hl 3 rfl) ?_
                  refine lv_iconst (v := (-1)) hx hb d_S_restore_120 (by decide) ?_
                  refine va_iast hx hb hK hP hD hS 6 1 rfl rfl (vp_in_nI (by omega) (by decide)) d_S_restore_121 (fun H locs hP hD hS => ?_)
                  rw [nI_clamp (by omega)] at hP hD
                  have hP : va_P (dC, dI) vwCl (xw ad cd w wr fl pw sc gw_ ov bv (nI rv) (nI tv) (upd lv k (-1)) row (-1) (nI 0) dur (nI 0) bts us act rd rs) H := hP
                  have hD : va_D (xA 15 ad s.heap.size) (xw ad cd w wr fl pw sc gw_ ov bv (nI rv) (nI tv) (upd lv k (-1)) row (-1) (nI 0) dur (nI 0) bts us act rd rs) := hD
                  refine lv_iinc (k := 3) (v := nI (k + 1)) hx hb d_S_restore_122 hl rfl (nI_1 _) (by decide) rfl (fun ls hl => ?_)
                  have hl : lv_has ls 5 [(4, .int (nI (k + 1))), (3, .int (nI 0)), (0, .ref (ad 1)), (1, .ref (ad 3))] := hl
                  refine lv_goto (tgt := 57) hx hb d_S_restore_125 (by decide) ?_
                  exact ih57 (k + 1) (nI 0) (upd lv k (-1)) gw_ ov bv rv tv H locs ls (by omega) (by omega) (by first | exact hf | exact RTP_upd hf (Or.inl rfl)) hrt hr48 hrot (lv_sub hl [2, 3, 1, 0] rfl) hP hD hS
                ·
                  exact absurd c86 (by decide)
              ·
                refine lv_aload_n hx hb d_S_restore_68 rfl (lv_at hl 0 rfl) ?_
                refine va_get (D := (dC, dI)) (ci := 3) (v := .ref (ad 6)) (C := R_S) (T := F_S) (N := 7) hx hb hts (fun w h => List.mem_cons_of_mem _ (in_S w h)) hown hK hP 1 rfl rfl 1 (by decide) (hts (.fieldLink R_S 18 R_S "livePages" "[I") (List.mem_cons_of_mem _ t_53)) (fun _ h9 => h9) rfl d_S_restore_69 ?_
                refine lv_iload hx hb d_S_restore_72 (lv_at hl 3 rfl) ?_
                refine va_iald hx hb hK hP 6 1 rfl rfl (vp_in_nI (by omega) (by decide)) d_S_restore_74 ?_
                refine tp_i (y := lv k) (by rw [nI_clamp (by omega)]) ?_
                refine lv_iconst (v := (-1)) hx hb d_S_restore_75 (by decide) ?_
                refine lv_icmp_eq (tgt := 83) hx hb d_S_restore_76 (by decide) (fun c76 => ?_) (fun c76 => ?_)
                ·
                  refine lv_iconst (v := nI 0) hx hb d_S_restore_83 (by decide) ?_
                  refine lv_istore_n hx hb d_S_restore_84 rfl hl (by decide) rfl (fun ls hl => ?_)
                  have hl : lv_has ls 5 [(3, .int (nI 0)), (0, .ref (ad 1)), (1, .ref (ad 3)), (4, .int (nI k))] := hl
                  refine lv_iload_n hx hb d_S_restore_85 rfl (lv_at hl 0 rfl) ?_
                  refine lv_if_eq (tgt := 114) hx hb d_S_restore_86 (by decide) (fun c86 => ?_) (fun c86 => ?_)
                  ·
                    refine lv_aload_n hx hb d_S_restore_114 rfl (lv_at hl 1 rfl) ?_
                    refine va_get (D := (dC, dI)) (ci := 3) (v := .ref (ad 6)) (C := R_S) (T := F_S) (N := 7) hx hb hts (fun w h => List.mem_cons_of_mem _ (in_S w h)) hown hK hP 1 rfl rfl 1 (by decide) (hts (.fieldLink R_S 18 R_S "livePages" "[I") (List.mem_cons_of_mem _ t_53)) (fun _ h9 => h9) rfl d_S_restore_115 ?_
                    refine lv_iload hx hb d_S_restore_118 (lv_at hl 3 rfl) ?_
                    refine lv_iconst (v := (-1)) hx hb d_S_restore_120 (by decide) ?_
                    refine va_iast hx hb hK hP hD hS 6 1 rfl rfl (vp_in_nI (by omega) (by decide)) d_S_restore_121 (fun H locs hP hD hS => ?_)
                    rw [nI_clamp (by omega)] at hP hD
                    have hP : va_P (dC, dI) vwCl (xw ad cd w wr fl pw sc gw_ ov bv (nI rv) (nI tv) (upd lv k (-1)) row (-1) (nI 0) dur (nI 0) bts us act rd rs) H := hP
                    have hD : va_D (xA 15 ad s.heap.size) (xw ad cd w wr fl pw sc gw_ ov bv (nI rv) (nI tv) (upd lv k (-1)) row (-1) (nI 0) dur (nI 0) bts us act rd rs) := hD
                    refine lv_iinc (k := 3) (v := nI (k + 1)) hx hb d_S_restore_122 hl rfl (nI_1 _) (by decide) rfl (fun ls hl => ?_)
                    have hl : lv_has ls 5 [(4, .int (nI (k + 1))), (3, .int (nI 0)), (0, .ref (ad 1)), (1, .ref (ad 3))] := hl
                    refine lv_goto (tgt := 57) hx hb d_S_restore_125 (by decide) ?_
                    exact ih57 (k + 1) (nI 0) (upd lv k (-1)) gw_ ov bv rv tv H locs ls (by omega) (by omega) (by first | exact hf | exact RTP_upd hf (Or.inl rfl)) hrt hr48 hrot (lv_sub hl [2, 3, 1, 0] rfl) hP hD hS
                  ·
                    exact absurd c86 (by decide)
                ·
                  refine lv_iconst (v := nI 1) hx hb d_S_restore_79 (by decide) ?_
                  refine lv_goto (tgt := 84) hx hb d_S_restore_80 (by decide) ?_
                  refine lv_istore_n hx hb d_S_restore_84 rfl hl (by decide) rfl (fun ls hl => ?_)
                  have hl : lv_has ls 5 [(3, .int (nI 1)), (0, .ref (ad 1)), (1, .ref (ad 3)), (4, .int (nI k))] := hl
                  refine lv_iload_n hx hb d_S_restore_85 rfl (lv_at hl 0 rfl) ?_
                  refine lv_if_eq (tgt := 114) hx hb d_S_restore_86 (by decide) (fun c86 => ?_) (fun c86 => ?_)
                  ·
                    exact absurd c86 (by decide)
                  ·
                    refine lv_aload_n hx hb d_S_restore_89 rfl (lv_at hl 1 rfl) ?_
                    refine lv_aload_n hx hb d_S_restore_90 rfl (lv_at hl 2 rfl) ?_
                    refine lv_aload_n hx hb d_S_restore_91 rfl (lv_at hl 1 rfl) ?_
                    refine va_get (D := (dC, dI)) (ci := 3) (v := .ref (ad 6)) (C := R_S) (T := F_S) (N := 7) hx hb hts (fun w h => List.mem_cons_of_mem _ (in_S w h)) hown hK hP 1 rfl rfl 1 (by decide) (hts (.fieldLink R_S 18 R_S "livePages" "[I") (List.mem_cons_of_mem _ t_53)) (fun _ h9 => h9) rfl d_S_restore_92 ?_
                    refine lv_iload hx hb d_S_restore_95 (lv_at hl 3 rfl) ?_
                    refine va_iald hx hb hK hP 6 1 rfl rfl (vp_in_nI (by omega) (by decide)) d_S_restore_97 ?_
                    refine tp_i (y := lv k) (by rw [nI_clamp (by omega)]) ?_
                    rcases hf k (by omega) with e98 | ⟨p, hp, e98, hrtp⟩
                    ·
                      exact absurd e98 c76
                    ·
                      refine tp_i (y := nI p) e98 ?_
                      have hSz := hS.1
                      refine va_calli (va_runV (C := R_S) (As := [.ref (ad 3), .int (nI p)]) (rest := []) ⟨hx, hb, hml, hown, hts⟩ (c_S_readLeaf l dC dI ad cd H.size w wr fl pw sc gw_ ov bv (nI rv) (nI tv) lv row (-1) (nI 0) dur (nI 0) bts us act rd rs rv tv p (by first | omega | rfl | assumption | decide) (by first | omega | rfl | assumption | decide) (by first | omega | rfl | assumption | decide) (by first | omega | rfl | assumption | decide) (by first | omega | rfl | assumption | decide)) (cwV 2 hts (g_V t_182 t_184 s_3 t_2 t_185) rfl rfl rfl (by decide +kernel) ⟨by decide, by decide⟩) (xP_v hP hK hD hN 1 rfl rfl) rfl rfl hl.1 rfl (lv_room (Nat.le_of_ble_eq_true rfl)) d_S_restore_98 ⟨Nat.le_refl _, Nat.le_refl _⟩) hS (fun q _ h => xA_up hS.1 q h) (fun q h => xA_up hS.1 q h) (fun r98 u98 t H1 locs1 ht hvm q98 hB hz1 hk1 hS => ?_)
                      obtain ⟨hP1, hK1, hD1⟩ := hB
                      rw [ht] at hP1
                      have hD : va_D (xA 15 ad s.heap.size) (xw ad cd w wr fl pw sc (u98.1 0) (u98.1 1) (u98.1 2) (nI (u98.2.2 0)) (nI (u98.2.2 1)) lv row (-1) (nI 0) dur (nI 0) bts us act rd rs) := hD1.weaken (fun _ q _ h => xA_up hSz _ h)
                      have hP : va_P (dC, dI) vwCl (xw ad cd w wr fl pw sc (u98.1 0) (u98.1 1) (u98.1 2) (nI (u98.2.2 0)) (nI (u98.2.2 1)) lv row (-1) (nI 0) dur (nI 0) bts us act rd rs) H1 := hP1
                      generalize H1 = H at hP hS ⊢
                      generalize locs1 = locs at hS ⊢
                      obtain ⟨hrt, hr48, hrot⟩ := q98
                      refine lv_iconst (v := nI 3) hx hb d_S_restore_101 (by decide) ?_
                      refine lv_icmp_ne (tgt := 109) hx hb d_S_restore_102 (by decide) (fun c102 => ?_) (fun c102 => ?_)
                      ·
                        refine lv_iconst (v := nI 0) hx hb d_S_restore_109 (by decide) ?_
                        refine lv_istore_n hx hb d_S_restore_110 rfl hl (by decide) rfl (fun ls hl => ?_)
                        have hl : lv_has ls 5 [(3, .int (nI 0)), (0, .ref (ad 1)), (1, .ref (ad 3)), (4, .int (nI k))] := hl
                        refine lv_goto (tgt := 122) hx hb d_S_restore_111 (by decide) ?_
                        refine lv_iinc (k := 3) (v := nI (k + 1)) hx hb d_S_restore_122 hl rfl (nI_1 _) (by decide) rfl (fun ls hl => ?_)
                        have hl : lv_has ls 5 [(4, .int (nI (k + 1))), (3, .int (nI 0)), (0, .ref (ad 1)), (1, .ref (ad 3))] := hl
                        refine lv_goto (tgt := 57) hx hb d_S_restore_125 (by decide) ?_
                        exact ih57 (k + 1) (nI 0) lv (u98.1 0) (u98.1 1) (u98.1 2) (u98.2.2 0) (u98.2.2 1) H locs ls (by omega) (by omega) (by first | exact hf | exact RTP_upd hf (Or.inl rfl)) hrt hr48 hrot (lv_sub hl [2, 3, 1, 0] rfl) hP hD hS
                      ·
                        refine lv_iconst (v := nI 1) hx hb d_S_restore_105 (by decide) ?_
                        refine lv_goto (tgt := 110) hx hb d_S_restore_106 (by decide) ?_
                        refine lv_istore_n hx hb d_S_restore_110 rfl hl (by decide) rfl (fun ls hl => ?_)
                        have hl : lv_has ls 5 [(3, .int (nI 1)), (0, .ref (ad 1)), (1, .ref (ad 3)), (4, .int (nI k))] := hl
                        refine lv_goto (tgt := 122) hx hb d_S_restore_111 (by decide) ?_
                        refine lv_iinc (k := 3) (v := nI (k + 1)) hx hb d_S_restore_122 hl rfl (nI_1 _) (by decide) rfl (fun ls hl => ?_)
                        have hl : lv_has ls 5 [(4, .int (nI (k + 1))), (3, .int (nI 1)), (0, .ref (ad 1)), (1, .ref (ad 3))] := hl
                        refine lv_goto (tgt := 57) hx hb d_S_restore_125 (by decide) ?_
                        exact ih57 (k + 1) (nI 1) lv (u98.1 0) (u98.1 1) (u98.1 2) (u98.2.2 0) (u98.2.2 1) H locs ls (by omega) (by omega) (by first | exact hf | exact RTP_upd hf (Or.inl rfl)) hrt hr48 hrot (lv_sub hl [2, 3, 1, 0] rfl) hP hD hS
        exact lp57 _ 0 (nI 1) (u1.1 0) lw rot vb (u49.2.2 0) (u49.2.2 1) H locs ls (Nat.lt_succ_self _) (by omega) hf (by omega) (by omega) hrot (lv_sub hl [3, 4, 1, 0] rfl) hP hD hS
  ·
    refine lv_istore_n hx hb d_S_restore_4 rfl hl (by decide) rfl (fun ls hl => ?_)
    have hl : lv_has ls 5 [(2, .int (nI p1)), (0, .ref (ad 1)), (1, .ref (ad 3))] := hl
    refine lv_aload_n hx hb d_S_restore_5 rfl (lv_at hl 1 rfl) ?_
    refine lv_iload_n hx hb d_S_restore_6 rfl (lv_at hl 0 rfl) ?_
    refine lv_iconst (v := (-1)) hx hb d_S_restore_7 (by decide) ?_
    refine lv_icmp_ne (tgt := 15) hx hb d_S_restore_8 (by decide) (fun c8 => ?_) (fun c8 => ?_)
    ·
      refine lv_iload_n hx hb d_S_restore_15 rfl (lv_at hl 0 rfl) ?_
      refine lv_iconst (v := nI 4) hx hb d_S_restore_16 (by decide) ?_
      refine lv_idiv hx hb d_S_restore_17 (by decide) ?_
      refine tp_i (y := nI (p1 / 4)) (pk_div (by omega) (by omega) (by omega)) ?_
      refine va_put (D := (dC, dI)) (ci := 3) (v := .int (nI (p1 / 4))) (ty := .int) (C := R_S) (T := F_S) (N := 7) hx hb hts (fun w h => List.mem_cons_of_mem _ (in_S w h)) t_S ok_S nm_S hown hK hP hD hS 1 rfl rfl 3 (by decide) (hts (.fieldLink R_S 25 R_S "cursor" "I") (List.mem_cons_of_mem _ t_55)) (fun _ h9 => h9) rfl (by decide +kernel) rfl rfl (Nat.le_of_ble_eq_true rfl) d_S_restore_18 (fun H locs hP hD hS => ?_)
      have hP : va_P (dC, dI) vwCl (xw ad cd w wr fl pw sc lw rot vb rec tk (u1.1 0) row (nI (p1 / 4)) ser dur wo bts us act rd rs) H := hP
      have hD : va_D (xA 15 ad s.heap.size) (xw ad cd w wr fl pw sc lw rot vb rec tk (u1.1 0) row (nI (p1 / 4)) ser dur wo bts us act rd rs) := hD
      refine lv_aload_n hx hb d_S_restore_21 rfl (lv_at hl 1 rfl) ?_
      refine lv_iload_n hx hb d_S_restore_22 rfl (lv_at hl 0 rfl) ?_
      refine lv_iconst (v := (-1)) hx hb d_S_restore_23 (by decide) ?_
      refine lv_icmp_ne (tgt := 31) hx hb d_S_restore_24 (by decide) (fun c24 => ?_) (fun c24 => ?_)
      ·
        refine lv_aload_n hx hb d_S_restore_31 rfl (lv_at hl 1 rfl) ?_
        refine va_get (D := (dC, dI)) (ci := 3) (v := .ref (ad 2)) (C := R_S) (T := F_S) (N := 7) hx hb hts (fun w h => List.mem_cons_of_mem _ (in_S w h)) hown hK hP 1 rfl rfl 0 (by decide) (hts (.fieldLink R_S 12 R_S "chip" "LWeighRecorder$Chip;") (List.mem_cons_of_mem _ t_52)) (fun _ h9 => h9) rfl d_S_restore_32 ?_
        refine lv_iload_n hx hb d_S_restore_35 rfl (lv_at hl 0 rfl) ?_
        refine lv_iconst (v := nI 1) hx hb d_S_restore_36 (by decide) ?_
        refine vp_callSi (va_runV (C := R_C) (As := [.int (nI p1), .int (nI 1)]) (rest := [.ref (ad 1)]) ⟨hx, hb, hml, hown, hts⟩ (c_C_read l dC dI ad cd w wr fl pw sc lw rot vb rec tk (u1.1 0) row (nI (p1 / 4)) ser dur wo bts us act rd rs p1 1 (by first | omega | rfl | assumption | decide) (by first | omega | rfl | assumption | decide)) (cwV 2 hts (g_V t_173 t_165 t_166 t_3 t_167) rfl rfl rfl (by decide +kernel) ⟨by decide, by decide⟩) (xR_v hP hK hN 2 rfl rfl) rfl rfl hl.1 rfl (lv_room (Nat.le_of_ble_eq_true rfl)) d_S_restore_37 ⟨Nat.le_refl _, Nat.le_refl _⟩).run (fun r37 q37 => ?_)
        have q37 := q37.symm
        subst q37
        refine va_put (D := (dC, dI)) (ci := 3) (v := .int (w (16 * p1 + 1))) (ty := .int) (C := R_S) (T := F_S) (N := 7) hx hb hts (fun w h => List.mem_cons_of_mem _ (in_S w h)) t_S ok_S nm_S hown hK hP hD hS 1 rfl rfl 4 (by decide) (hts (.fieldLink R_S 29 R_S "serial" "I") (List.mem_cons_of_mem _ t_56)) (fun _ h9 => h9) rfl (by decide +kernel) rfl rfl (Nat.le_of_ble_eq_true rfl) d_S_restore_40 (fun H locs hP hD hS => ?_)
        have hP : va_P (dC, dI) vwCl (xw ad cd w wr fl pw sc lw rot vb rec tk (u1.1 0) row (nI (p1 / 4)) (w (16 * p1 + 1)) dur wo bts us act rd rs) H := hP
        have hD : va_D (xA 15 ad s.heap.size) (xw ad cd w wr fl pw sc lw rot vb rec tk (u1.1 0) row (nI (p1 / 4)) (w (16 * p1 + 1)) dur wo bts us act rd rs) := hD
        refine lv_aload_n hx hb d_S_restore_43 rfl (lv_at hl 1 rfl) ?_
        refine lv_iconst (v := nI 0) hx hb d_S_restore_44 (by decide) ?_
        refine va_put (D := (dC, dI)) (ci := 3) (v := .int (nI 0)) (ty := .boolean) (C := R_S) (T := F_S) (N := 7) hx hb hts (fun w h => List.mem_cons_of_mem _ (in_S w h)) t_S ok_S nm_S hown hK hP hD hS 1 rfl rfl 6 (by decide) (hts (.fieldLink R_S 35 R_S "wornOut" "Z") (List.mem_cons_of_mem _ t_58)) (fun _ h9 => h9) rfl (by decide +kernel) (by first | rfl | decide | assumption) rfl (Nat.le_of_ble_eq_true rfl) d_S_restore_45 (fun H locs hP hD hS => ?_)
        have hP : va_P (dC, dI) vwCl (xw ad cd w wr fl pw sc lw rot vb rec tk (u1.1 0) row (nI (p1 / 4)) (w (16 * p1 + 1)) dur (nI 0) bts us act rd rs) H := hP
        have hD : va_D (xA 15 ad s.heap.size) (xw ad cd w wr fl pw sc lw rot vb rec tk (u1.1 0) row (nI (p1 / 4)) (w (16 * p1 + 1)) dur (nI 0) bts us act rd rs) := hD
        refine lv_aload_n hx hb d_S_restore_48 rfl (lv_at hl 2 rfl) ?_
        have hSz := hS.1
        refine va_callv (va_runV (C := R_G) (As := []) (rest := []) ⟨hx, hb, hml, hown, hts⟩ (c_G_empty l dC dI ad cd H.size w wr fl pw sc lw rot vb rec tk (u1.1 0) row (nI (p1 / 4)) (w (16 * p1 + 1)) dur (nI 0) bts us act rd rs  ) (cwV 0 hts (g_V t_178 t_179 t_180 t_4 t_181) rfl rfl rfl (by decide +kernel) ⟨by decide, by decide⟩) (xP_v hP hK hD hN 3 rfl rfl) rfl rfl hl.1 rfl (lv_room (Nat.le_of_ble_eq_true rfl)) d_S_restore_49 ⟨Nat.le_refl _, Nat.le_refl _⟩) hS (fun q _ h => xA_up hS.1 q h) (fun q h => xA_up hS.1 q h) (fun u49 t H1 locs1 ht hvm q49 hB hz1 hk1 hS => ?_)
        obtain ⟨hP1, hK1, hD1⟩ := hB
        rw [ht] at hP1
        have hD : va_D (xA 15 ad s.heap.size) (xw ad cd w wr fl pw sc lw rot vb (nI (u49.2.2 0)) (nI (u49.2.2 1)) (u1.1 0) row (nI (p1 / 4)) (w (16 * p1 + 1)) dur (nI 0) bts us act rd rs) := hD1.weaken (fun _ q _ h => xA_up hSz _ h)
        have hP : va_P (dC, dI) vwCl (xw ad cd w wr fl pw sc lw rot vb (nI (u49.2.2 0)) (nI (u49.2.2 1)) (u1.1 0) row (nI (p1 / 4)) (w (16 * p1 + 1)) dur (nI 0) bts us act rd rs) H1 := hP1
        generalize H1 = H at hP hS ⊢
        generalize locs1 = locs at hS ⊢
        obtain ⟨hrec49, htk49⟩ := q49
        refine lv_iconst (v := nI 1) hx hb d_S_restore_52 (by decide) ?_
        refine lv_istore_n hx hb d_S_restore_53 rfl hl (by decide) rfl (fun ls hl => ?_)
        have hl : lv_has ls 5 [(3, .int (nI 1)), (2, .int (nI p1)), (0, .ref (ad 1)), (1, .ref (ad 3))] := hl
        refine lv_iconst (v := nI 0) hx hb d_S_restore_54 (by decide) ?_
        refine lv_istore hx hb d_S_restore_55 hl (by decide) rfl (fun ls hl => ?_)
        have hl : lv_has ls 5 [(4, .int (nI 0)), (3, .int (nI 1)), (2, .int (nI p1)), (0, .ref (ad 1)), (1, .ref (ad 3))] := hl
        have lp57 : ∀ (n : Nat) (k : Nat) (gv : Int32) (lv : Nat → Int32) (gw_ : Nat → Int32) (ov : Nat → Int32) (bv : Nat → Int32) (rv : Nat) (tv : Nat) (H : Heap) (locs : List Loc) (ls : Array Slot), (16 - k) < n → (k ≤ 16) → (∀ i, i < 16 → RTP w (lv i)) → (tv ≤ rv) → (rv ≤ 48) → (∀ i, i < 48 → IX 48 (ov i)) → lv_has ls 5 [(0, .ref (ad 1)), (1, .ref (ad 3)), (3, .int gv), (4, .int (nI k))] → va_P (dC, dI) vwCl (xw ad cd w wr fl pw sc gw_ ov bv (nI rv) (nI tv) lv row (nI (p1 / 4)) (w (16 * p1 + 1)) dur (nI 0) bts us act rd rs) H → va_D (xA 15 ad s.heap.size) (xw ad cd w wr fl pw sc gw_ ov bv (nI rv) (nI tv) lv row (nI (p1 / 4)) (w (16 * p1 + 1)) dur (nI 0) bts us act rd rs) → va_S (xA 15 ad s.heap.size) s.heap H locs → W P l e (headSpec w_S_restore ({ frames := 4, cells := 0, slots := 0, locals := 94 })).room s m (([.ref (ad 1), .ref (ad 3)] : List Value).toArray) below meth c0 H locs 0 0 (MQ below (va_Qv (fun (u : (Nat → Nat → Int32) × (Nat → Int32) × (Nat → Nat)) => (∀ i, i < 16 → PG 32 ((u.1 0) i)) ∧ PG 8 (u.2.1 0) ∧ B01 (u.2.1 2) ∧ (u.2.2 1) ≤ (u.2.2 0) ∧ (u.2.2 0) ≤ 48 ∧ ∀ i, i < 48 → IX 48 ((u.1 2) i)) (fun (u : (Nat → Nat → Int32) × (Nat → Int32) × (Nat → Nat)) (t : State) => xB (dC, dI) vwCl (xt cd) (xA 15 ad s.heap.size) (xw ad cd w wr fl pw sc (u.1 1) (u.1 2) (u.1 3) (nI (u.2.2 0)) (nI (u.2.2 1)) (u.1 0) row (u.2.1 0) (u.2.1 1) (u.2.1 3) (u.2.1 2) bts us act rd rs) t) (xA 15 ad s.heap.size)) (([.ref (ad 1), .ref (ad 3)] : List Value).toArray) s 0 0 (xA 15 ad s.heap.size)) (F0 m 57 ls []) := by
          intro n
          induction n with
          | zero => intro k gv lv gw_ ov bv rv tv H locs ls hm; intros; omega
          | succ n ih57 =>
            intro k gv lv gw_ ov bv rv tv H locs ls hm hk hf hrt hr48 hrot hl hP hD hS
            refine lv_iload hx hb d_S_restore_57 (lv_at hl 3 rfl) ?_
            refine lv_bipush (v := nI 16) hx hb d_S_restore_59 (by decide) ?_
            refine lv_icmp_ge (tgt := 128) hx hb d_S_restore_61 (by decide) (fun c61 => ?_) (fun c61 => ?_)
            ·
              have c61 := cd_ge_t (by omega) (by omega) c61
              refine lv_aload_n hx hb d_S_restore_128 rfl (lv_at hl 0 rfl) ?_
              refine lv_aload_n hx hb d_S_restore_129 rfl (lv_at hl 1 rfl) ?_
              refine vp_callSi (va_runV (C := R_G) (As := []) (rest := [.ref (ad 1)]) ⟨hx, hb, hml, hown, hts⟩ (c_G_recordCount l dC dI ad cd w wr fl pw sc gw_ ov bv (nI rv) (nI tv) lv row (nI (p1 / 4)) (w (16 * p1 + 1)) dur (nI 0) bts us act rd rs rv ) (cwV 0 hts (g_V t_209 t_210 t_211 t_4 t_212) rfl rfl rfl (by decide +kernel) ⟨by decide, by decide⟩) (xR_v hP hK hN 3 rfl rfl) rfl rfl hl.1 rfl (lv_room (Nat.le_of_ble_eq_true rfl)) d_S_restore_130 ⟨Nat.le_refl _, Nat.le_refl _⟩).run (fun r130 q130 => ?_)
              have q130 := q130.symm
              subst q130
              refine va_put (D := (dC, dI)) (ci := 3) (v := .int (nI rv)) (ty := .int) (C := R_S) (T := F_S) (N := 7) hx hb hts (fun w h => List.mem_cons_of_mem _ (in_S w h)) t_S ok_S nm_S hown hK hP hD hS 1 rfl rfl 5 (by decide) (hts (.fieldLink R_S 32 R_S "durable" "I") (List.mem_cons_of_mem _ t_57)) (fun _ h9 => h9) rfl (by decide +kernel) rfl rfl (Nat.le_of_ble_eq_true rfl) d_S_restore_133 (fun H locs hP hD hS => ?_)
              have hP : va_P (dC, dI) vwCl (xw ad cd w wr fl pw sc gw_ ov bv (nI rv) (nI tv) lv row (nI (p1 / 4)) (w (16 * p1 + 1)) (nI rv) (nI 0) bts us act rd rs) H := hP
              have hD : va_D (xA 15 ad s.heap.size) (xw ad cd w wr fl pw sc gw_ ov bv (nI rv) (nI tv) lv row (nI (p1 / 4)) (w (16 * p1 + 1)) (nI rv) (nI 0) bts us act rd rs) := hD
              exact W.vret hx hb hr (fun t ht hW => ⟨⟨(fun i => [lv, gw_, ov, bv].getD i (fun _ => 0), fun i => [nI (p1 / 4), w (16 * p1 + 1), nI 0, nI rv].getD i 0, fun i => [rv, tv].getD i 0), rfl, ⟨fun i hi => (hf i hi).pg, PG.of (by omega), B01.n0, hrt, hr48, hrot⟩, ⟨by rw [ht]; exact hP, va_K.moved hW.alike hK, hD⟩⟩, hS.F ht⟩) hS.2.2 d_S_restore_136
            ·
              have c61 := cd_ge_f (by omega) (by omega) c61
              refine lv_iload_n hx hb d_S_restore_64 rfl (lv_at hl 2 rfl) ?_
              refine lv_if_eq (tgt := 83) hx hb d_S_restore_65 (by decide) (fun c65 => ?_) (fun c65 => ?_)
              ·
                refine lv_iconst (v := nI 0) hx hb d_S_restore_83 (by decide) ?_
                refine lv_istore_n hx hb d_S_restore_84 rfl hl (by decide) rfl (fun ls hl => ?_)
                have hl : lv_has ls 5 [(3, .int (nI 0)), (0, .ref (ad 1)), (1, .ref (ad 3)), (4, .int (nI k))] := hl
                refine lv_iload_n hx hb d_S_restore_85 rfl (lv_at hl 0 rfl) ?_
                refine lv_if_eq (tgt := 114) hx hb d_S_restore_86 (by decide) (fun c86 => ?_) (fun c86 => ?_)
                ·
                  refine lv_aload_n hx hb d_S_restore_114 rfl (lv_at hl 1 rfl) ?_
                  refine va_get (D := (dC, dI)) (ci := 3) (v := .ref (ad 6)) (C := R_S) (T := F_S) (N := 7) hx hb hts (fun w h => List.mem_cons_of_mem _ (in_S w h)) hown hK hP 1 rfl rfl 1 (by decide) (hts (.fieldLink R_S 18 R_S "livePages" "[I") (List.mem_cons_of_mem _ t_53)) (fun _ h9 => h9) rfl d_S_restore_115 ?_
                  refine lv_iload hx hb d_S_restore_118 (lv_at hl 3 rfl) ?_
                  refine lv_iconst (v := (-1)) hx hb d_S_restore_120 (by decide) ?_
                  refine va_iast hx hb hK hP hD hS 6 1 rfl rfl (vp_in_nI (by omega) (by decide)) d_S_restore_121 (fun H locs hP hD hS => ?_)
                  rw [nI_clamp (by omega)] at hP hD
                  have hP : va_P (dC, dI) vwCl (xw ad cd w wr fl pw sc gw_ ov bv (nI rv) (nI tv) (upd lv k (-1)) row (nI (p1 / 4)) (w (16 * p1 + 1)) dur (nI 0) bts us act rd rs) H := hP
                  have hD : va_D (xA 15 ad s.heap.size) (xw ad cd w wr fl pw sc gw_ ov bv (nI rv) (nI tv) (upd lv k (-1)) row (nI (p1 / 4)) (w (16 * p1 + 1)) dur (nI 0) bts us act rd rs) := hD
                  refine lv_iinc (k := 3) (v := nI (k + 1)) hx hb d_S_restore_122 hl rfl (nI_1 _) (by decide) rfl (fun ls hl => ?_)
                  have hl : lv_has ls 5 [(4, .int (nI (k + 1))), (3, .int (nI 0)), (0, .ref (ad 1)), (1, .ref (ad 3))] := hl
                  refine lv_goto (tgt := 57) hx hb d_S_restore_125 (by decide) ?_
                  exact ih57 (k + 1) (nI 0) (upd lv k (-1)) gw_ ov bv rv tv H locs ls (by omega) (by omega) (by first | exact hf | exact RTP_upd hf (Or.inl rfl)) hrt hr48 hrot (lv_sub hl [2, 3, 1, 0] rfl) hP hD hS
                ·
                  exact absurd c86 (by decide)
              ·
                refine lv_aload_n hx hb d_S_restore_68 rfl (lv_at hl 0 rfl) ?_
                refine va_get (D := (dC, dI)) (ci := 3) (v := .ref (ad 6)) (C := R_S) (T := F_S) (N := 7) hx hb hts (fun w h => List.mem_cons_of_mem _ (in_S w h)) hown hK hP 1 rfl rfl 1 (by decide) (hts (.fieldLink R_S 18 R_S "livePages" "[I") (List.mem_cons_of_mem _ t_53)) (fun _ h9 => h9) rfl d_S_restore_69 ?_
                refine lv_iload hx hb d_S_restore_72 (lv_at hl 3 rfl) ?_
                refine va_iald hx hb hK hP 6 1 rfl rfl (vp_in_nI (by omega) (by decide)) d_S_restore_74 ?_
                refine tp_i (y := lv k) (by rw [nI_clamp (by omega)]) ?_
                refine lv_iconst (v := (-1)) hx hb d_S_restore_75 (by decide) ?_
                refine lv_icmp_eq (tgt := 83) hx hb d_S_restore_76 (by decide) (fun c76 => ?_) (fun c76 => ?_)
                ·
                  refine lv_iconst (v := nI 0) hx hb d_S_restore_83 (by decide) ?_
                  refine lv_istore_n hx hb d_S_restore_84 rfl hl (by decide) rfl (fun ls hl => ?_)
                  have hl : lv_has ls 5 [(3, .int (nI 0)), (0, .ref (ad 1)), (1, .ref (ad 3)), (4, .int (nI k))] := hl
                  refine lv_iload_n hx hb d_S_restore_85 rfl (lv_at hl 0 rfl) ?_
                  refine lv_if_eq (tgt := 114) hx hb d_S_restore_86 (by decide) (fun c86 => ?_) (fun c86 => ?_)
                  ·
                    refine lv_aload_n hx hb d_S_restore_114 rfl (lv_at hl 1 rfl) ?_
                    refine va_get (D := (dC, dI)) (ci := 3) (v := .ref (ad 6)) (C := R_S) (T := F_S) (N := 7) hx hb hts (fun w h => List.mem_cons_of_mem _ (in_S w h)) hown hK hP 1 rfl rfl 1 (by decide) (hts (.fieldLink R_S 18 R_S "livePages" "[I") (List.mem_cons_of_mem _ t_53)) (fun _ h9 => h9) rfl d_S_restore_115 ?_
                    refine lv_iload hx hb d_S_restore_118 (lv_at hl 3 rfl) ?_
                    refine lv_iconst (v := (-1)) hx hb d_S_restore_120 (by decide) ?_
                    refine va_iast hx hb hK hP hD hS 6 1 rfl rfl (vp_in_nI (by omega) (by decide)) d_S_restore_121 (fun H locs hP hD hS => ?_)
                    rw [nI_clamp (by omega)] at hP hD
                    have hP : va_P (dC, dI) vwCl (xw ad cd w wr fl pw sc gw_ ov bv (nI rv) (nI tv) (upd lv k (-1)) row (nI (p1 / 4)) (w (16 * p1 + 1)) dur (nI 0) bts us act rd rs) H := hP
                    have hD : va_D (xA 15 ad s.heap.size) (xw ad cd w wr fl pw sc gw_ ov bv (nI rv) (nI tv) (upd lv k (-1)) row (nI (p1 / 4)) (w (16 * p1 + 1)) dur (nI 0) bts us act rd rs) := hD
                    refine lv_iinc (k := 3) (v := nI (k + 1)) hx hb d_S_restore_122 hl rfl (nI_1 _) (by decide) rfl (fun ls hl => ?_)
                    have hl : lv_has ls 5 [(4, .int (nI (k + 1))), (3, .int (nI 0)), (0, .ref (ad 1)), (1, .ref (ad 3))] := hl
                    refine lv_goto (tgt := 57) hx hb d_S_restore_125 (by decide) ?_
                    exact ih57 (k + 1) (nI 0) (upd lv k (-1)) gw_ ov bv rv tv H locs ls (by omega) (by omega) (by first | exact hf | exact RTP_upd hf (Or.inl rfl)) hrt hr48 hrot (lv_sub hl [2, 3, 1, 0] rfl) hP hD hS
                  ·
                    exact absurd c86 (by decide)
                ·
                  refine lv_iconst (v := nI 1) hx hb d_S_restore_79 (by decide) ?_
                  refine lv_goto (tgt := 84) hx hb d_S_restore_80 (by decide) ?_
                  refine lv_istore_n hx hb d_S_restore_84 rfl hl (by decide) rfl (fun ls hl => ?_)
                  have hl : lv_has ls 5 [(3, .int (nI 1)), (0, .ref (ad 1)), (1, .ref (ad 3)), (4, .int (nI k))] := hl
                  refine lv_iload_n hx hb d_S_restore_85 rfl (lv_at hl 0 rfl) ?_
                  refine lv_if_eq (tgt := 114) hx hb d_S_restore_86 (by decide) (fun c86 => ?_) (fun c86 => ?_)
                  ·
                    exact absurd c86 (by decide)
                  ·
                    refine lv_aload_n hx hb d_S_restore_89 rfl (lv_at hl 1 rfl) ?_
                    refine lv_aload_n hx hb d_S_restore_90 rfl (lv_at hl 2 rfl) ?_
                    refine lv_aload_n hx hb d_S_restore_91 rfl (lv_at hl 1 rfl) ?_
                    refine va_get (D := (dC, dI)) (ci := 3) (v := .ref (ad 6)) (C := R_S) (T := F_S) (N := 7) hx hb hts (fun w h => List.mem_cons_of_mem _ (in_S w h)) hown hK hP 1 rfl rfl 1 (by decide) (hts (.fieldLink R_S 18 R_S "livePages" "[I") (List.mem_cons_of_mem _ t_53)) (fun _ h9 => h9) rfl d_S_restore_92 ?_
                    refine lv_iload hx hb d_S_restore_95 (lv_at hl 3 rfl) ?_
                    refine va_iald hx hb hK hP 6 1 rfl rfl (vp_in_nI (by omega) (by decide)) d_S_restore_97 ?_
                    refine tp_i (y := lv k) (by rw [nI_clamp (by omega)]) ?_
                    rcases hf k (by omega) with e98 | ⟨p, hp, e98, hrtp⟩
                    ·
                      exact absurd e98 c76
                    ·
                      refine tp_i (y := nI p) e98 ?_
                      have hSz := hS.1
                      refine va_calli (va_runV (C := R_S) (As := [.ref (ad 3), .int (nI p)]) (rest := []) ⟨hx, hb, hml, hown, hts⟩ (c_S_readLeaf l dC dI ad cd H.size w wr fl pw sc gw_ ov bv (nI rv) (nI tv) lv row (nI (p1 / 4)) (w (16 * p1 + 1)) dur (nI 0) bts us act rd rs rv tv p (by first | omega | rfl | assumption | decide) (by first | omega | rfl | assumption | decide) (by first | omega | rfl | assumption | decide) (by first | omega | rfl | assumption | decide) (by first | omega | rfl | assumption | decide)) (cwV 2 hts (g_V t_182 t_184 s_3 t_2 t_185) rfl rfl rfl (by decide +kernel) ⟨by decide, by decide⟩) (xP_v hP hK hD hN 1 rfl rfl) rfl rfl hl.1 rfl (lv_room (Nat.le_of_ble_eq_true rfl)) d_S_restore_98 ⟨Nat.le_refl _, Nat.le_refl _⟩) hS (fun q _ h => xA_up hS.1 q h) (fun q h => xA_up hS.1 q h) (fun r98 u98 t H1 locs1 ht hvm q98 hB hz1 hk1 hS => ?_)
                      obtain ⟨hP1, hK1, hD1⟩ := hB
                      rw [ht] at hP1
                      have hD : va_D (xA 15 ad s.heap.size) (xw ad cd w wr fl pw sc (u98.1 0) (u98.1 1) (u98.1 2) (nI (u98.2.2 0)) (nI (u98.2.2 1)) lv row (nI (p1 / 4)) (w (16 * p1 + 1)) dur (nI 0) bts us act rd rs) := hD1.weaken (fun _ q _ h => xA_up hSz _ h)
                      have hP : va_P (dC, dI) vwCl (xw ad cd w wr fl pw sc (u98.1 0) (u98.1 1) (u98.1 2) (nI (u98.2.2 0)) (nI (u98.2.2 1)) lv row (nI (p1 / 4)) (w (16 * p1 + 1)) dur (nI 0) bts us act rd rs) H1 := hP1
                      generalize H1 = H at hP hS ⊢
                      generalize locs1 = locs at hS ⊢
                      obtain ⟨hrt, hr48, hrot⟩ := q98
                      refine lv_iconst (v := nI 3) hx hb d_S_restore_101 (by decide) ?_
                      refine lv_icmp_ne (tgt := 109) hx hb d_S_restore_102 (by decide) (fun c102 => ?_) (fun c102 => ?_)
                      ·
                        refine lv_iconst (v := nI 0) hx hb d_S_restore_109 (by decide) ?_
                        refine lv_istore_n hx hb d_S_restore_110 rfl hl (by decide) rfl (fun ls hl => ?_)
                        have hl : lv_has ls 5 [(3, .int (nI 0)), (0, .ref (ad 1)), (1, .ref (ad 3)), (4, .int (nI k))] := hl
                        refine lv_goto (tgt := 122) hx hb d_S_restore_111 (by decide) ?_
                        refine lv_iinc (k := 3) (v := nI (k + 1)) hx hb d_S_restore_122 hl rfl (nI_1 _) (by decide) rfl (fun ls hl => ?_)
                        have hl : lv_has ls 5 [(4, .int (nI (k + 1))), (3, .int (nI 0)), (0, .ref (ad 1)), (1, .ref (ad 3))] := hl
                        refine lv_goto (tgt := 57) hx hb d_S_restore_125 (by decide) ?_
                        exact ih57 (k + 1) (nI 0) lv (u98.1 0) (u98.1 1) (u98.1 2) (u98.2.2 0) (u98.2.2 1) H locs ls (by omega) (by omega) (by first | exact hf | exact RTP_upd hf (Or.inl rfl)) hrt hr48 hrot (lv_sub hl [2, 3, 1, 0] rfl) hP hD hS
                      ·
                        refine lv_iconst (v := nI 1) hx hb d_S_restore_105 (by decide) ?_
                        refine lv_goto (tgt := 110) hx hb d_S_restore_106 (by decide) ?_
                        refine lv_istore_n hx hb d_S_restore_110 rfl hl (by decide) rfl (fun ls hl => ?_)
                        have hl : lv_has ls 5 [(3, .int (nI 1)), (0, .ref (ad 1)), (1, .ref (ad 3)), (4, .int (nI k))] := hl
                        refine lv_goto (tgt := 122) hx hb d_S_restore_111 (by decide) ?_
                        refine lv_iinc (k := 3) (v := nI (k + 1)) hx hb d_S_restore_122 hl rfl (nI_1 _) (by decide) rfl (fun ls hl => ?_)
                        have hl : lv_has ls 5 [(4, .int (nI (k + 1))), (3, .int (nI 1)), (0, .ref (ad 1)), (1, .ref (ad 3))] := hl
                        refine lv_goto (tgt := 57) hx hb d_S_restore_125 (by decide) ?_
                        exact ih57 (k + 1) (nI 1) lv (u98.1 0) (u98.1 1) (u98.1 2) (u98.2.2 0) (u98.2.2 1) H locs ls (by omega) (by omega) (by first | exact hf | exact RTP_upd hf (Or.inl rfl)) hrt hr48 hrot (lv_sub hl [2, 3, 1, 0] rfl) hP hD hS
        exact lp57 _ 0 (nI 1) (u1.1 0) lw rot vb (u49.2.2 0) (u49.2.2 1) H locs ls (Nat.lt_succ_self _) (by omega) hf (by omega) (by omega) hrot (lv_sub hl [3, 4, 1, 0] rfl) hP hD hS
      ·
        exact absurd c24 (nm_ne (by omega) (by decide))
    ·
      exact absurd c8 (nm_ne (by omega) (by decide))
set_option maxHeartbeats 4000000 in
set_option maxRecDepth 100000 in
theorem c_S_sumBefore (l : Launch) (dC : Nat → ClassId) (dI : Nat → Nat → Nat) (ad cd : Nat → Nat) (w wr fl : Nat → Int32) (pw sc : Int32) (lw rot vb : Nat → Int32) (rec tk : Int32) (live row : Nat → Int32) (cur ser dur wo : Int32) (bts : Nat → Int32) (us : Int32) (act : Nat → Int32) (rd rs : Int32) (q : Nat) (hq : q < 48) (hlv : ∀ i, i < 16 → PG 32 (live i)) : Met l y_S_sumBefore w_S_sumBefore ({ frames := 2, cells := 0, slots := 0, locals := 46 }) (xR (dC, dI) vwCl (xt cd) (xw ad cd w wr fl pw sc lw rot vb rec tk live row cur ser dur wo bts us act rd rs) [.ref (ad 1), .int (nI q)]) (vp_Si (fun r => True)) 0 0 (fun _ => False) := by
  refine Met.ofW (cc := b_S_sumBefore) (maxL := 3) (ret := (some (.int))) (by decide) rfl ?_
  intro P e s m args below meth c0 s₁ B hml hv
  obtain ⟨rfl, hP, hK, hN⟩ := hv
  have hx := B.exec
  have hb := B.bytes
  have hr := B.returns
  have hts := atoms_spec (ws := w_S_sumBefore) B.pre
  have hown : s.vm.findClass R_S = some m.cls := findClass_of_methodNamed B.named
  have hlocks := B.notSynchronized
  have hl := lv_entry ([.ref (ad 1), .int (nI q)]) (n := 3) (Nat.le_of_ble_eq_true rfl)
  rw [lg_entry_eq]
  generalize (lg_sl ([.ref (ad 1), .int (nI q)]) ++ List.replicate (3 - (lg_sl ([.ref (ad 1), .int (nI q)])).length) Slot.unset).toArray = ls at hl ⊢
  have hl : lv_has ls 3 [(0, .ref (ad 1)), (1, .int (nI q))] := hl
  refine lv_iload_n hx hb d_S_sumBefore_0 rfl (lv_at hl 1 rfl) ?_
  refine lv_if_ne (tgt := 8) hx hb d_S_sumBefore_1 (by decide) (fun c1 => ?_) (fun c1 => ?_)
  ·
    have c1 := cz_ne_t (by omega) c1
    refine lv_aload_n hx hb d_S_sumBefore_8 rfl (lv_at hl 0 rfl) ?_
    refine va_get (D := (dC, dI)) (ci := 3) (v := .ref (ad 6)) (C := R_S) (T := F_S) (N := 7) hx hb hts (fun w h => List.mem_cons_of_mem _ (in_S w h)) hown hK hP 1 rfl rfl 1 (by decide) (hts (.fieldLink R_S 18 R_S "livePages" "[I") (List.mem_cons_of_mem _ t_53)) (fun _ h9 => h9) rfl d_S_sumBefore_9 ?_
    refine lv_iload_n hx hb d_S_sumBefore_12 rfl (lv_at hl 1 rfl) ?_
    refine lv_iconst (v := nI 1) hx hb d_S_sumBefore_13 (by decide) ?_
    refine lv_isub hx hb d_S_sumBefore_14 ?_
    refine tp_i (y := nI (q - 1)) (pk_sub (by omega)) ?_
    refine lv_iconst (v := nI 3) hx hb d_S_sumBefore_15 (by decide) ?_
    refine lv_idiv hx hb d_S_sumBefore_16 (by decide) ?_
    refine tp_i (y := nI ((q - 1) / 3)) (pk_div (by omega) (by omega) (by omega)) ?_
    refine va_iald hx hb hK hP 6 1 rfl rfl (vp_in_nI (by omega) (by decide)) d_S_sumBefore_17 ?_
    refine tp_i (y := live ((q - 1) / 3)) (by rw [nI_clamp (by omega)]) ?_
    rcases (show PG 32 (live ((q - 1) / 3)) from hlv _ (by omega)) with etop | ⟨p, hhp, etop⟩
    ·
      refine tp_i (y := (-1)) etop ?_
      refine lv_istore_n hx hb d_S_sumBefore_18 rfl hl (by decide) rfl (fun ls hl => ?_)
      have hl : lv_has ls 3 [(2, .int (-1)), (0, .ref (ad 1)), (1, .int (nI q))] := hl
      refine lv_iload_n hx hb d_S_sumBefore_19 rfl (lv_at hl 0 rfl) ?_
      refine lv_iconst (v := (-1)) hx hb d_S_sumBefore_20 (by decide) ?_
      refine lv_icmp_ne (tgt := 30) hx hb d_S_sumBefore_21 (by decide) (fun c21 => ?_) (fun c21 => ?_)
      ·
        exact absurd c21 (by decide)
      ·
        refine lv_sipush (v := nI 7989) hx hb d_S_sumBefore_24 (by decide) ?_
        refine lv_goto (tgt := 43) hx hb d_S_sumBefore_27 (by decide) ?_
        exact W.iret (v := nI 7989) hx hb hr (fun t ht hW => ⟨nI 7989, rfl, by first | rfl | trivial | omega, ht⟩) (fun q hq => by cases hq) d_S_sumBefore_43
    ·
      refine tp_i (y := nI p) etop ?_
      refine lv_istore_n hx hb d_S_sumBefore_18 rfl hl (by decide) rfl (fun ls hl => ?_)
      have hl : lv_has ls 3 [(2, .int (nI p)), (0, .ref (ad 1)), (1, .int (nI q))] := hl
      refine lv_iload_n hx hb d_S_sumBefore_19 rfl (lv_at hl 0 rfl) ?_
      refine lv_iconst (v := (-1)) hx hb d_S_sumBefore_20 (by decide) ?_
      refine lv_icmp_ne (tgt := 30) hx hb d_S_sumBefore_21 (by decide) (fun c21 => ?_) (fun c21 => ?_)
      ·
        refine lv_aload_n hx hb d_S_sumBefore_30 rfl (lv_at hl 1 rfl) ?_
        refine va_get (D := (dC, dI)) (ci := 3) (v := .ref (ad 2)) (C := R_S) (T := F_S) (N := 7) hx hb hts (fun w h => List.mem_cons_of_mem _ (in_S w h)) hown hK hP 1 rfl rfl 0 (by decide) (hts (.fieldLink R_S 12 R_S "chip" "LWeighRecorder$Chip;") (List.mem_cons_of_mem _ t_52)) (fun _ h9 => h9) rfl d_S_sumBefore_31 ?_
        refine lv_iload_n hx hb d_S_sumBefore_34 rfl (lv_at hl 0 rfl) ?_
        refine lv_iload_n hx hb d_S_sumBefore_35 rfl (lv_at hl 2 rfl) ?_
        refine lv_iconst (v := nI 1) hx hb d_S_sumBefore_36 (by decide) ?_
        refine lv_isub hx hb d_S_sumBefore_37 ?_
        refine tp_i (y := nI (q - 1)) (pk_sub (by omega)) ?_
        refine lv_iconst (v := nI 3) hx hb d_S_sumBefore_38 (by decide) ?_
        refine lv_irem hx hb d_S_sumBefore_39 (by decide) ?_
        refine tp_i (y := nI ((q - 1) % 3)) (pk_rem (by omega) (by omega) (by omega)) ?_
        refine vp_callSi (va_runV (C := R_C) (As := [.int (nI p), .int (nI ((q - 1) % 3))]) (rest := []) ⟨hx, hb, hml, hown, hts⟩ (c_C_sumOfRecordAt l dC dI ad cd w wr fl pw sc lw rot vb rec tk live row cur ser dur wo bts us act rd rs p ((q - 1) % 3) (by first | omega | rfl | assumption | decide) (by first | omega | rfl | assumption | decide)) (cwV 2 hts (g_V t_600 t_601 t_602 t_3 t_603) rfl rfl rfl (by decide +kernel) ⟨by decide, by decide⟩) (xR_v hP hK hN 2 rfl rfl) rfl rfl hl.1 rfl (lv_room (Nat.le_of_ble_eq_true rfl)) d_S_sumBefore_40 ⟨Nat.le_refl _, Nat.le_refl _⟩).run (fun r40 q40 => ?_)
        have hk40 := q40
        exact W.iret (v := r40) hx hb hr (fun t ht hW => ⟨r40, rfl, by first | rfl | trivial | omega, ht⟩) (fun q hq => by cases hq) d_S_sumBefore_43
      ·
        exact absurd c21 (nm_ne (by omega) (by decide))
  ·
    have c1 := cz_ne_f (by omega) c1
    refine lv_sipush (v := nI 7989) hx hb d_S_sumBefore_4 (by decide) ?_
    exact W.iret (v := nI 7989) hx hb hr (fun t ht hW => ⟨nI 7989, rfl, by first | rfl | trivial | omega, ht⟩) (fun q hq => by cases hq) d_S_sumBefore_7
set_option maxHeartbeats 4000000 in
set_option maxRecDepth 100000 in
theorem c_S_failsAt (l : Launch) (dC : Nat → ClassId) (dI : Nat → Nat → Nat) (ad cd : Nat → Nat) (w wr fl : Nat → Int32) (pw sc : Int32) (lw rot vb : Nat → Int32) (rec tk : Int32) (live row : Nat → Int32) (cur ser dur wo : Int32) (bts : Nat → Int32) (us : Int32) (act : Nat → Int32) (rd rs : Int32) (q : Nat) (hq : q < 48) (hlv : ∀ i, i < 16 → PG 32 (live i)) : Met l y_S_failsAt w_S_failsAt ({ frames := 3, cells := 0, slots := 0, locals := 68 }) (xR (dC, dI) vwCl (xt cd) (xw ad cd w wr fl pw sc lw rot vb rec tk live row cur ser dur wo bts us act rd rs) [.ref (ad 1), .int (nI q)]) (vp_Si (fun r => B01 r)) 0 0 (fun _ => False) := by
  refine Met.ofW (cc := b_S_failsAt) (maxL := 3) (ret := (some (.boolean))) (by decide) rfl ?_
  intro P e s m args below meth c0 s₁ B hml hv
  obtain ⟨rfl, hP, hK, hN⟩ := hv
  have hx := B.exec
  have hb := B.bytes
  have hr := B.returns
  have hts := atoms_spec (ws := w_S_failsAt) B.pre
  have hown : s.vm.findClass R_S = some m.cls := findClass_of_methodNamed B.named
  have hlocks := B.notSynchronized
  have hl := lv_entry ([.ref (ad 1), .int (nI q)]) (n := 3) (Nat.le_of_ble_eq_true rfl)
  rw [lg_entry_eq]
  generalize (lg_sl ([.ref (ad 1), .int (nI q)]) ++ List.replicate (3 - (lg_sl ([.ref (ad 1), .int (nI q)])).length) Slot.unset).toArray = ls at hl ⊢
  have hl : lv_has ls 3 [(0, .ref (ad 1)), (1, .int (nI q))] := hl
  refine lv_iload_n hx hb d_S_failsAt_0 rfl (lv_at hl 1 rfl) ?_
  refine lv_aload_n hx hb d_S_failsAt_1 rfl (lv_at hl 0 rfl) ?_
  refine va_get (D := (dC, dI)) (ci := 3) (v := .int dur) (C := R_S) (T := F_S) (N := 7) hx hb hts (fun w h => List.mem_cons_of_mem _ (in_S w h)) hown hK hP 1 rfl rfl 5 (by decide) (hts (.fieldLink R_S 32 R_S "durable" "I") (List.mem_cons_of_mem _ t_57)) (fun _ h9 => h9) rfl d_S_failsAt_2 ?_
  refine lv_icmp_lt (tgt := 10) hx hb d_S_failsAt_5 (by decide) (fun c5 => ?_) (fun c5 => ?_)
  ·
    refine lv_aload_n hx hb d_S_failsAt_10 rfl (lv_at hl 0 rfl) ?_
    refine va_get (D := (dC, dI)) (ci := 3) (v := .ref (ad 6)) (C := R_S) (T := F_S) (N := 7) hx hb hts (fun w h => List.mem_cons_of_mem _ (in_S w h)) hown hK hP 1 rfl rfl 1 (by decide) (hts (.fieldLink R_S 18 R_S "livePages" "[I") (List.mem_cons_of_mem _ t_53)) (fun _ h9 => h9) rfl d_S_failsAt_11 ?_
    refine lv_iload_n hx hb d_S_failsAt_14 rfl (lv_at hl 1 rfl) ?_
    refine lv_iconst (v := nI 3) hx hb d_S_failsAt_15 (by decide) ?_
    refine lv_idiv hx hb d_S_failsAt_16 (by decide) ?_
    refine tp_i (y := nI (q / 3)) (pk_div (by omega) (by omega) (by omega)) ?_
    refine va_iald hx hb hK hP 6 1 rfl rfl (vp_in_nI (by omega) (by decide)) d_S_failsAt_17 ?_
    refine tp_i (y := live (q / 3)) (by rw [nI_clamp (by omega)]) ?_
    rcases (show PG 32 (live (q / 3)) from hlv _ (by omega)) with etop | ⟨p, hhp, etop⟩
    ·
      refine tp_i (y := (-1)) etop ?_
      refine lv_istore_n hx hb d_S_failsAt_18 rfl hl (by decide) rfl (fun ls hl => ?_)
      have hl : lv_has ls 3 [(2, .int (-1)), (0, .ref (ad 1)), (1, .int (nI q))] := hl
      refine lv_iload_n hx hb d_S_failsAt_19 rfl (lv_at hl 0 rfl) ?_
      refine lv_iconst (v := (-1)) hx hb d_S_failsAt_20 (by decide) ?_
      refine lv_icmp_ne (tgt := 26) hx hb d_S_failsAt_21 (by decide) (fun c21 => ?_) (fun c21 => ?_)
      ·
        exact absurd c21 (by decide)
      ·
        refine lv_iconst (v := nI 0) hx hb d_S_failsAt_24 (by decide) ?_
        exact W.zret (v := nI 0) hx hb hr (by first | rfl | decide | assumption) (fun t ht hW => ⟨nI 0, rfl, by first | exact Or.inl rfl | exact Or.inr rfl | assumption, ht⟩) (fun q hq => by cases hq) d_S_failsAt_25
    ·
      refine tp_i (y := nI p) etop ?_
      refine lv_istore_n hx hb d_S_failsAt_18 rfl hl (by decide) rfl (fun ls hl => ?_)
      have hl : lv_has ls 3 [(2, .int (nI p)), (0, .ref (ad 1)), (1, .int (nI q))] := hl
      refine lv_iload_n hx hb d_S_failsAt_19 rfl (lv_at hl 0 rfl) ?_
      refine lv_iconst (v := (-1)) hx hb d_S_failsAt_20 (by decide) ?_
      refine lv_icmp_ne (tgt := 26) hx hb d_S_failsAt_21 (by decide) (fun c21 => ?_) (fun c21 => ?_)
      ·
        refine lv_aload_n hx hb d_S_failsAt_26 rfl (lv_at hl 1 rfl) ?_
        refine va_get (D := (dC, dI)) (ci := 3) (v := .ref (ad 2)) (C := R_S) (T := F_S) (N := 7) hx hb hts (fun w h => List.mem_cons_of_mem _ (in_S w h)) hown hK hP 1 rfl rfl 0 (by decide) (hts (.fieldLink R_S 12 R_S "chip" "LWeighRecorder$Chip;") (List.mem_cons_of_mem _ t_52)) (fun _ h9 => h9) rfl d_S_failsAt_27 ?_
        refine lv_iload_n hx hb d_S_failsAt_30 rfl (lv_at hl 0 rfl) ?_
        refine vp_callSi (va_runV (C := R_C) (As := [.int (nI p)]) (rest := []) ⟨hx, hb, hml, hown, hts⟩ (c_C_isRight l dC dI ad cd w wr fl pw sc lw rot vb rec tk live row cur ser dur wo bts us act rd rs p (by first | omega | rfl | assumption | decide)) (cwV 1 hts (g_V t_160 t_161 t_162 t_3 t_163) rfl rfl rfl (by decide +kernel) ⟨by decide, by decide⟩) (xR_v hP hK hN 2 rfl rfl) rfl rfl hl.1 rfl (lv_room (Nat.le_of_ble_eq_true rfl)) d_S_failsAt_31 ⟨Nat.le_refl _, Nat.le_refl _⟩).run (fun r31 q31 => ?_)
        rcases q31 with ⟨rfl, hrt31⟩ | rfl
        ·
          refine lv_if_eq (tgt := 56) hx hb d_S_failsAt_34 (by decide) (fun c34 => ?_) (fun c34 => ?_)
          ·
            exact absurd c34 (by decide)
          ·
            refine lv_aload_n hx hb d_S_failsAt_37 rfl (lv_at hl 1 rfl) ?_
            refine va_get (D := (dC, dI)) (ci := 3) (v := .ref (ad 2)) (C := R_S) (T := F_S) (N := 7) hx hb hts (fun w h => List.mem_cons_of_mem _ (in_S w h)) hown hK hP 1 rfl rfl 0 (by decide) (hts (.fieldLink R_S 12 R_S "chip" "LWeighRecorder$Chip;") (List.mem_cons_of_mem _ t_52)) (fun _ h9 => h9) rfl d_S_failsAt_38 ?_
            refine lv_iload_n hx hb d_S_failsAt_41 rfl (lv_at hl 0 rfl) ?_
            refine lv_iload_n hx hb d_S_failsAt_42 rfl (lv_at hl 2 rfl) ?_
            refine lv_iconst (v := nI 3) hx hb d_S_failsAt_43 (by decide) ?_
            refine lv_irem hx hb d_S_failsAt_44 (by decide) ?_
            refine tp_i (y := nI (q % 3)) (pk_rem (by omega) (by omega) (by omega)) ?_
            refine vp_callSi (va_runV (C := R_C) (As := [.int (nI p), .int (nI (q % 3))]) (rest := []) ⟨hx, hb, hml, hown, hts⟩ (c_C_linkAt l dC dI ad cd w wr fl pw sc lw rot vb rec tk live row cur ser dur wo bts us act rd rs p (q % 3) (by first | omega | rfl | assumption | decide) (by first | omega | rfl | assumption | decide)) (cwV 2 hts (g_V t_592 t_593 t_594 t_3 t_595) rfl rfl rfl (by decide +kernel) ⟨by decide, by decide⟩) (xR_v hP hK hN 2 rfl rfl) rfl rfl hl.1 rfl (lv_room (Nat.le_of_ble_eq_true rfl)) d_S_failsAt_45 ⟨Nat.le_refl _, Nat.le_refl _⟩).run (fun r45 q45 => ?_)
            have hk45 := q45
            refine lv_aload_n hx hb d_S_failsAt_48 rfl (lv_at hl 1 rfl) ?_
            refine lv_iload_n hx hb d_S_failsAt_49 rfl (lv_at hl 2 rfl) ?_
            refine vp_callSi (va_runV (C := R_S) (As := [.int (nI q)]) (rest := [.int r45]) ⟨hx, hb, hml, hown, hts⟩ (c_S_sumBefore l dC dI ad cd w wr fl pw sc lw rot vb rec tk live row cur ser dur wo bts us act rd rs q (by first | omega | rfl | assumption | decide) (by first | omega | rfl | assumption | decide)) (cwV 1 hts (g_V t_596 t_598 s_18 t_2 t_599) rfl rfl rfl (by decide +kernel) ⟨by decide, by decide⟩) (xR_v hP hK hN 1 rfl rfl) rfl rfl hl.1 rfl (lv_room (Nat.le_of_ble_eq_true rfl)) d_S_failsAt_50 ⟨Nat.le_refl _, Nat.le_refl _⟩).run (fun r50 q50 => ?_)
            have hk50 := q50
            refine lv_icmp_eq (tgt := 60) hx hb d_S_failsAt_53 (by decide) (fun c53 => ?_) (fun c53 => ?_)
            ·
              refine lv_iconst (v := nI 0) hx hb d_S_failsAt_60 (by decide) ?_
              exact W.zret (v := nI 0) hx hb hr (by first | rfl | decide | assumption) (fun t ht hW => ⟨nI 0, rfl, by first | exact Or.inl rfl | exact Or.inr rfl | assumption, ht⟩) (fun q hq => by cases hq) d_S_failsAt_61
            ·
              refine lv_iconst (v := nI 1) hx hb d_S_failsAt_56 (by decide) ?_
              refine lv_goto (tgt := 61) hx hb d_S_failsAt_57 (by decide) ?_
              exact W.zret (v := nI 1) hx hb hr (by first | rfl | decide | assumption) (fun t ht hW => ⟨nI 1, rfl, by first | exact Or.inl rfl | exact Or.inr rfl | assumption, ht⟩) (fun q hq => by cases hq) d_S_failsAt_61
        ·
          refine lv_if_eq (tgt := 56) hx hb d_S_failsAt_34 (by decide) (fun c34 => ?_) (fun c34 => ?_)
          ·
            refine lv_iconst (v := nI 1) hx hb d_S_failsAt_56 (by decide) ?_
            refine lv_goto (tgt := 61) hx hb d_S_failsAt_57 (by decide) ?_
            exact W.zret (v := nI 1) hx hb hr (by first | rfl | decide | assumption) (fun t ht hW => ⟨nI 1, rfl, by first | exact Or.inl rfl | exact Or.inr rfl | assumption, ht⟩) (fun q hq => by cases hq) d_S_failsAt_61
          ·
            exact absurd c34 (by decide)
      ·
        exact absurd c21 (nm_ne (by omega) (by decide))
  ·
    refine lv_iconst (v := nI 0) hx hb d_S_failsAt_8 (by decide) ?_
    exact W.zret (v := nI 0) hx hb hr (by first | rfl | decide | assumption) (fun t ht hW => ⟨nI 0, rfl, by first | exact Or.inl rfl | exact Or.inr rfl | assumption, ht⟩) (fun q hq => by cases hq) d_S_failsAt_9
