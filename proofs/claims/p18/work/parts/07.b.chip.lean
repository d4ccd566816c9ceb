set_option maxHeartbeats 4000000 in
set_option maxRecDepth 100000 in
theorem c_C_isRight (l : Launch) (dC : Nat → ClassId) (dI : Nat → Nat → Nat) (ad cd : Nat → Nat) (w wr fl : Nat → Int32) (pw sc : Int32) (lw rot vb : Nat → Int32) (rec tk : Int32) (live row : Nat → Int32) (cur ser dur wo : Int32) (bts : Nat → Int32) (us : Int32) (act : Nat → Int32) (rd rs : Int32) (pa : Nat) (hp : pa < 32) : Met l y_C_isRight w_C_isRight ({ frames := 1, cells := 0, slots := 0, locals := 24 }) (xR (dC, dI) vwCl (xt cd) (xw ad cd w wr fl pw sc lw rot vb rec tk live row cur ser dur wo bts us act rd rs) [.ref (ad 2), .int (nI pa)]) (vp_Si (fun r => (r = nI 1 ∧ RT w pa) ∨ r = nI 0)) 0 0 (fun _ => False) := by
  refine Met.ofW (cc := b_C_isRight) (maxL := 3) (ret := (some (.boolean))) (by decide) rfl ?_
  intro P e s m args below meth c0 s₁ B hml hv
  obtain ⟨rfl, hP, hK, hN⟩ := hv
  have hx := B.exec
  have hb := B.bytes
  have hr := B.returns
  have hts := atoms_spec (ws := w_C_isRight) B.pre
  have hown : s.vm.findClass R_C = some m.cls := findClass_of_methodNamed B.named
  have hlocks := B.notSynchronized
  have hl := lv_entry ([.ref (ad 2), .int (nI pa)]) (n := 3) (Nat.le_of_ble_eq_true rfl)
  rw [lg_entry_eq]
  generalize (lg_sl ([.ref (ad 2), .int (nI pa)]) ++ List.replicate (3 - (lg_sl ([.ref (ad 2), .int (nI pa)])).length) Slot.unset).toArray = ls at hl ⊢
  have hl : lv_has ls 3 [(0, .ref (ad 2)), (1, .int (nI pa))] := hl
  refine lv_aload_n hx hb d_C_isRight_0 rfl (lv_at hl 0 rfl) ?_
  refine lv_iload_n hx hb d_C_isRight_1 rfl (lv_at hl 1 rfl) ?_
  refine lv_iconst (v := nI 0) hx hb d_C_isRight_2 (by decide) ?_
  refine vp_callSi (va_runV (C := R_C) (As := [.int (nI pa), .int (nI 0)]) (rest := []) ⟨hx, hb, hml, hown, hts⟩ (c_C_read l dC dI ad cd w wr fl pw sc lw rot vb rec tk live row cur ser dur wo bts us act rd rs pa 0 (by first | omega | rfl | assumption | decide) (by first | omega | rfl | assumption | decide)) (cwV 2 hts (g_V t_164 t_165 t_166 t_3 t_167) rfl rfl rfl (by decide +kernel) ⟨by decide, by decide⟩) (xR_v hP hK hN 2 rfl rfl) rfl rfl hl.1 rfl (lv_room (Nat.le_of_ble_eq_true rfl)) d_C_isRight_3 ⟨Nat.le_refl _, Nat.le_refl _⟩).run (fun r3 q3 => ?_)
  have q3 := q3.symm
  subst q3
  refine lv_istore_n hx hb d_C_isRight_6 rfl hl (by decide) rfl (fun ls hl => ?_)
  have hl : lv_has ls 3 [(2, .int (w (16 * pa + 0))), (0, .ref (ad 2)), (1, .int (nI pa))] := hl
  refine lv_iload_n hx hb d_C_isRight_7 rfl (lv_at hl 0 rfl) ?_
  refine lv_if_le (tgt := 62) hx hb d_C_isRight_8 (by decide) (fun c8 => ?_) (fun c8 => ?_)
  ·
    refine lv_iconst (v := nI 0) hx hb d_C_isRight_62 (by decide) ?_
    exact W.zret (v := nI 0) hx hb hr (by first | rfl | decide | assumption) (fun t ht hW => ⟨nI 0, rfl, Or.inr rfl, ht⟩) (fun q hq => by cases hq) d_C_isRight_63
  ·
    refine lv_iload_n hx hb d_C_isRight_11 rfl (lv_at hl 0 rfl) ?_
    refine lv_bipush (v := nI 64) hx hb d_C_isRight_12 (by decide) ?_
    refine lv_icmp_ge (tgt := 62) hx hb d_C_isRight_14 (by decide) (fun c14 => ?_) (fun c14 => ?_)
    ·
      refine lv_iconst (v := nI 0) hx hb d_C_isRight_62 (by decide) ?_
      exact W.zret (v := nI 0) hx hb hr (by first | rfl | decide | assumption) (fun t ht hW => ⟨nI 0, rfl, Or.inr rfl, ht⟩) (fun q hq => by cases hq) d_C_isRight_63
    ·
      obtain ⟨h, hh, eh⟩ : ∃ h : Nat, h < 64 ∧ w (16 * pa + 0) = nI h := rest_ix (Int32.le_of_lt (Int32.not_le.mp c8)) c14 (by decide)
      rw [eh] at hl
      refine lv_iload_n hx hb d_C_isRight_17 rfl (lv_at hl 0 rfl) ?_
      refine lv_iconst (v := nI 4) hx hb d_C_isRight_18 (by decide) ?_
      refine lv_irem hx hb d_C_isRight_19 (by decide) ?_
      refine tp_i (y := nI (h % 4)) (pk_rem (by omega) (by omega) (by omega)) ?_
      refine lv_if_eq (tgt := 62) hx hb d_C_isRight_20 (by decide) (fun c20 => ?_) (fun c20 => ?_)
      ·
        have c20 := cz_eq_t (by omega) c20
        refine lv_iconst (v := nI 0) hx hb d_C_isRight_62 (by decide) ?_
        exact W.zret (v := nI 0) hx hb hr (by first | rfl | decide | assumption) (fun t ht hW => ⟨nI 0, rfl, Or.inr rfl, ht⟩) (fun q hq => by cases hq) d_C_isRight_63
      ·
        have c20 := cz_eq_f (by omega) c20
        refine lv_aload_n hx hb d_C_isRight_23 rfl (lv_at hl 1 rfl) ?_
        refine lv_iload_n hx hb d_C_isRight_24 rfl (lv_at hl 2 rfl) ?_
        refine lv_bipush (v := nI 15) hx hb d_C_isRight_25 (by decide) ?_
        refine vp_callSi (va_runV (C := R_C) (As := [.int (nI pa), .int (nI 15)]) (rest := []) ⟨hx, hb, hml, hown, hts⟩ (c_C_read l dC dI ad cd w wr fl pw sc lw rot vb rec tk live row cur ser dur wo bts us act rd rs pa 15 (by first | omega | rfl | assumption | decide) (by first | omega | rfl | assumption | decide)) (cwV 2 hts (g_V t_164 t_165 t_166 t_3 t_167) rfl rfl rfl (by decide +kernel) ⟨by decide, by decide⟩) (xR_v hP hK hN 2 rfl rfl) rfl rfl hl.1 rfl (lv_room (Nat.le_of_ble_eq_true rfl)) d_C_isRight_27 ⟨Nat.le_refl _, Nat.le_refl _⟩).run (fun r27 q27 => ?_)
        have q27 := q27.symm
        subst q27
        refine lv_ldc (v := nI 1515870810) hx hb hown (hts (.constant R_C 38 1515870810) (List.mem_cons_of_mem _ t_168)) d_C_isRight_30 ?_
        refine lv_icmp_ne (tgt := 62) hx hb d_C_isRight_32 (by decide) (fun c32 => ?_) (fun c32 => ?_)
        ·
          refine lv_iconst (v := nI 0) hx hb d_C_isRight_62 (by decide) ?_
          exact W.zret (v := nI 0) hx hb hr (by first | rfl | decide | assumption) (fun t ht hW => ⟨nI 0, rfl, Or.inr rfl, ht⟩) (fun q hq => by cases hq) d_C_isRight_63
        ·
          refine lv_aload_n hx hb d_C_isRight_35 rfl (lv_at hl 1 rfl) ?_
          refine lv_iload_n hx hb d_C_isRight_36 rfl (lv_at hl 2 rfl) ?_
          refine lv_bipush (v := nI 14) hx hb d_C_isRight_37 (by decide) ?_
          refine vp_callSi (va_runV (C := R_C) (As := [.int (nI pa), .int (nI 14)]) (rest := []) ⟨hx, hb, hml, hown, hts⟩ (c_C_read l dC dI ad cd w wr fl pw sc lw rot vb rec tk live row cur ser dur wo bts us act rd rs pa 14 (by first | omega | rfl | assumption | decide) (by first | omega | rfl | assumption | decide)) (cwV 2 hts (g_V t_164 t_165 t_166 t_3 t_167) rfl rfl rfl (by decide +kernel) ⟨by decide, by decide⟩) (xR_v hP hK hN 2 rfl rfl) rfl rfl hl.1 rfl (lv_room (Nat.le_of_ble_eq_true rfl)) d_C_isRight_39 ⟨Nat.le_refl _, Nat.le_refl _⟩).run (fun r39 q39 => ?_)
          have q39 := q39.symm
          subst q39
          refine lv_aload_n hx hb d_C_isRight_42 rfl (lv_at hl 1 rfl) ?_
          refine va_get (D := (dC, dI)) (ci := 0) (v := .ref (ad 8)) (C := R_C) (T := F_C) (N := 5) hx hb hts (fun w h => List.mem_cons_of_mem _ (in_C w h)) hown hK hP 2 rfl rfl 0 (by decide) (hts (.fieldLink R_C 9 R_C "words" "[I") (List.mem_cons_of_mem _ t_34)) (fun _ h9 => h9) rfl d_C_isRight_43 ?_
          refine lv_iload_n hx hb d_C_isRight_46 rfl (lv_at hl 2 rfl) ?_
          refine lv_bipush (v := nI 16) hx hb d_C_isRight_47 (by decide) ?_
          refine lv_imul hx hb d_C_isRight_49 ?_
          refine tp_i (y := nI (pa * 16)) (pk_mul _ _) ?_
          refine lv_bipush (v := nI 14) hx hb d_C_isRight_50 (by decide) ?_
          refine vp_callSi (va_runSN (host := R_R) (As := [.ref (ad 8), .int (nI (pa * 16)), .int (nI 14)]) (rest := [.int (w (16 * pa + 14))]) ⟨hx, hb, hml, hown, hts⟩ (c_R_sumOf_w l dC dI ad cd w wr fl pw sc lw rot vb rec tk live row cur ser dur wo bts us act rd rs (pa * 16) 14 (by first | omega | rfl | assumption | decide)) ⟨va_cnB 3 hts (g_c t_171) rfl rfl rfl hN.1 (hts _ (List.mem_cons_of_mem _ t_1)) (by decide +kernel) ⟨by decide, by decide⟩, (hts (.static y_R_sumOf) (List.mem_cons_of_mem _ t_170)), trivial⟩ (xR_s hP hK hN) rfl rfl hl.1 rfl (lv_room (Nat.le_of_ble_eq_true rfl)) d_C_isRight_52 ⟨Nat.le_refl _, Nat.le_refl _⟩).run (fun r52 q52 => ?_)
          refine lv_icmp_ne (tgt := 62) hx hb d_C_isRight_55 (by decide) (fun c55 => ?_) (fun c55 => ?_)
          ·
            refine lv_iconst (v := nI 0) hx hb d_C_isRight_62 (by decide) ?_
            exact W.zret (v := nI 0) hx hb hr (by first | rfl | decide | assumption) (fun t ht hW => ⟨nI 0, rfl, Or.inr rfl, ht⟩) (fun q hq => by cases hq) d_C_isRight_63
          ·
            refine lv_iconst (v := nI 1) hx hb d_C_isRight_58 (by decide) ?_
            refine lv_goto (tgt := 63) hx hb d_C_isRight_59 (by decide) ?_
            exact W.zret (v := nI 1) hx hb hr (by first | rfl | decide | assumption) (fun t ht hW => ⟨nI 1, rfl, Or.inl ⟨rfl, h, hh, c20, eh⟩, ht⟩) (fun q hq => by cases hq) d_C_isRight_63
set_option maxHeartbeats 4000000 in
set_option maxRecDepth 100000 in
theorem c_C_linkAt (l : Launch) (dC : Nat → ClassId) (dI : Nat → Nat → Nat) (ad cd : Nat → Nat) (w wr fl : Nat → Int32) (pw sc : Int32) (lw rot vb : Nat → Int32) (rec tk : Int32) (live row : Nat → Int32) (cur ser dur wo : Int32) (bts : Nat → Int32) (us : Int32) (act : Nat → Int32) (rd rs : Int32) (pa : Nat) (k : Nat) (hp : pa < 32) (hk : k < 3) : Met l y_C_linkAt w_C_linkAt ({ frames := 1, cells := 0, slots := 0, locals := 22 }) (xR (dC, dI) vwCl (xt cd) (xw ad cd w wr fl pw sc lw rot vb rec tk live row cur ser dur wo bts us act rd rs) [.ref (ad 2), .int (nI pa), .int (nI k)]) (vp_Si (fun r => True)) 0 0 (fun _ => False) := by
  refine Met.ofW (cc := b_C_linkAt) (maxL := 3) (ret := (some (.int))) (by decide) rfl ?_
  intro P e s m args below meth c0 s₁ B hml hv
  obtain ⟨rfl, hP, hK, hN⟩ := hv
  have hx := B.exec
  have hb := B.bytes
  have hr := B.returns
  have hts := atoms_spec (ws := w_C_linkAt) B.pre
  have hown : s.vm.findClass R_C = some m.cls := findClass_of_methodNamed B.named
  have hlocks := B.notSynchronized
  have hl := lv_entry ([.ref (ad 2), .int (nI pa), .int (nI k)]) (n := 3) (Nat.le_of_ble_eq_true rfl)
  rw [lg_entry_eq]
  generalize (lg_sl ([.ref (ad 2), .int (nI pa), .int (nI k)]) ++ List.replicate (3 - (lg_sl ([.ref (ad 2), .int (nI pa), .int (nI k)])).length) Slot.unset).toArray = ls at hl ⊢
  have hl : lv_has ls 3 [(0, .ref (ad 2)), (1, .int (nI pa)), (2, .int (nI k))] := hl
  refine lv_aload_n hx hb d_C_linkAt_0 rfl (lv_at hl 0 rfl) ?_
  refine lv_iload_n hx hb d_C_linkAt_1 rfl (lv_at hl 1 rfl) ?_
  refine lv_iconst (v := nI 2) hx hb d_C_linkAt_2 (by decide) ?_
  refine lv_iload_n hx hb d_C_linkAt_3 rfl (lv_at hl 2 rfl) ?_
  refine lv_iconst (v := nI 4) hx hb d_C_linkAt_4 (by decide) ?_
  refine lv_imul hx hb d_C_linkAt_5 ?_
  refine tp_i (y := nI (k * 4)) (pk_mul _ _) ?_
  refine lv_iadd hx hb d_C_linkAt_6 ?_
  refine tp_i (y := nI (2 + (k * 4))) (nI_add _ _) ?_
  refine lv_iconst (v := nI 4) hx hb d_C_linkAt_7 (by decide) ?_
  refine lv_iadd hx hb d_C_linkAt_8 ?_
  refine tp_i (y := nI ((2 + (k * 4)) + 4)) (nI_add _ _) ?_
  refine lv_iconst (v := nI 1) hx hb d_C_linkAt_9 (by decide) ?_
  refine lv_isub hx hb d_C_linkAt_10 ?_
  refine tp_i (y := nI (((2 + (k * 4)) + 4) - 1)) (pk_sub (by omega)) ?_
  refine vp_callSi (va_runV (C := R_C) (As := [.int (nI pa), .int (nI (((2 + (k * 4)) + 4) - 1))]) (rest := []) ⟨hx, hb, hml, hown, hts⟩ (c_C_read l dC dI ad cd w wr fl pw sc lw rot vb rec tk live row cur ser dur wo bts us act rd rs pa (((2 + (k * 4)) + 4) - 1) (by first | omega | rfl | assumption | decide) (by first | omega | rfl | assumption | decide)) (cwV 2 hts (g_V t_164 t_165 t_166 t_3 t_167) rfl rfl rfl (by decide +kernel) ⟨by decide, by decide⟩) (xR_v hP hK hN 2 rfl rfl) rfl rfl hl.1 rfl (lv_room (Nat.le_of_ble_eq_true rfl)) d_C_linkAt_11 ⟨Nat.le_refl _, Nat.le_refl _⟩).run (fun r11 q11 => ?_)
  have q11 := q11.symm
  subst q11
  exact W.iret (v := w (16 * pa + (((2 + (k * 4)) + 4) - 1))) hx hb hr (fun t ht hW => ⟨w (16 * pa + (((2 + (k * 4)) + 4) - 1)), rfl, by first | rfl | trivial | omega, ht⟩) (fun q hq => by cases hq) d_C_linkAt_14
set_option maxHeartbeats 4000000 in
set_option maxRecDepth 100000 in
theorem c_C_sumOfRecordAt (l : Launch) (dC : Nat → ClassId) (dI : Nat → Nat → Nat) (ad cd : Nat → Nat) (w wr fl : Nat → Int32) (pw sc : Int32) (lw rot vb : Nat → Int32) (rec tk : Int32) (live row : Nat → Int32) (cur ser dur wo : Int32) (bts : Nat → Int32) (us : Int32) (act : Nat → Int32) (rd rs : Int32) (pa : Nat) (k : Nat) (hp : pa < 32) (hk : k < 3) : Met l y_C_sumOfRecordAt w_C_sumOfRecordAt ({ frames := 1, cells := 0, slots := 0, locals := 24 }) (xR (dC, dI) vwCl (xt cd) (xw ad cd w wr fl pw sc lw rot vb rec tk live row cur ser dur wo bts us act rd rs) [.ref (ad 2), .int (nI pa), .int (nI k)]) (vp_Si (fun r => True)) 0 0 (fun _ => False) := by
  refine Met.ofW (cc := b_C_sumOfRecordAt) (maxL := 3) (ret := (some (.int))) (by decide) rfl ?_
  intro P e s m args below meth c0 s₁ B hml hv
  obtain ⟨rfl, hP, hK, hN⟩ := hv
  have hx := B.exec
  have hb := B.bytes
  have hr := B.returns
  have hts := atoms_spec (ws := w_C_sumOfRecordAt) B.pre
  have hown : s.vm.findClass R_C = some m.cls := findClass_of_methodNamed B.named
  have hlocks := B.notSynchronized
  have hl := lv_entry ([.ref (ad 2), .int (nI pa), .int (nI k)]) (n := 3) (Nat.le_of_ble_eq_true rfl)
  rw [lg_entry_eq]
  generalize (lg_sl ([.ref (ad 2), .int (nI pa), .int (nI k)]) ++ List.replicate (3 - (lg_sl ([.ref (ad 2), .int (nI pa), .int (nI k)])).length) Slot.unset).toArray = ls at hl ⊢
  have hl : lv_has ls 3 [(0, .ref (ad 2)), (1, .int (nI pa)), (2, .int (nI k))] := hl
  refine lv_aload_n hx hb d_C_sumOfRecordAt_0 rfl (lv_at hl 0 rfl) ?_
  refine va_get (D := (dC, dI)) (ci := 0) (v := .ref (ad 8)) (C := R_C) (T := F_C) (N := 5) hx hb hts (fun w h => List.mem_cons_of_mem _ (in_C w h)) hown hK hP 2 rfl rfl 0 (by decide) (hts (.fieldLink R_C 9 R_C "words" "[I") (List.mem_cons_of_mem _ t_34)) (fun _ h9 => h9) rfl d_C_sumOfRecordAt_1 ?_
  refine lv_iload_n hx hb d_C_sumOfRecordAt_4 rfl (lv_at hl 1 rfl) ?_
  refine lv_bipush (v := nI 16) hx hb d_C_sumOfRecordAt_5 (by decide) ?_
  refine lv_imul hx hb d_C_sumOfRecordAt_7 ?_
  refine tp_i (y := nI (pa * 16)) (pk_mul _ _) ?_
  refine lv_iconst (v := nI 2) hx hb d_C_sumOfRecordAt_8 (by decide) ?_
  refine lv_iadd hx hb d_C_sumOfRecordAt_9 ?_
  refine tp_i (y := nI ((pa * 16) + 2)) (nI_add _ _) ?_
  refine lv_iload_n hx hb d_C_sumOfRecordAt_10 rfl (lv_at hl 2 rfl) ?_
  refine lv_iconst (v := nI 4) hx hb d_C_sumOfRecordAt_11 (by decide) ?_
  refine lv_imul hx hb d_C_sumOfRecordAt_12 ?_
  refine tp_i (y := nI (k * 4)) (pk_mul _ _) ?_
  refine lv_iadd hx hb d_C_sumOfRecordAt_13 ?_
  refine tp_i (y := nI (((pa * 16) + 2) + (k * 4))) (nI_add _ _) ?_
  refine lv_iconst (v := nI 4) hx hb d_C_sumOfRecordAt_14 (by decide) ?_
  refine vp_callSi (va_runSN (host := R_R) (As := [.ref (ad 8), .int (nI (((pa * 16) + 2) + (k * 4))), .int (nI 4)]) (rest := []) ⟨hx, hb, hml, hown, hts⟩ (c_R_sumOf_w l dC dI ad cd w wr fl pw sc lw rot vb rec tk live row cur ser dur wo bts us act rd rs (((pa * 16) + 2) + (k * 4)) 4 (by first | omega | rfl | assumption | decide)) ⟨va_cnB 3 hts (g_c t_171) rfl rfl rfl hN.1 (hts _ (List.mem_cons_of_mem _ t_1)) (by decide +kernel) ⟨by decide, by decide⟩, (hts (.static y_R_sumOf) (List.mem_cons_of_mem _ t_170)), trivial⟩ (xR_s hP hK hN) rfl rfl hl.1 rfl (lv_room (Nat.le_of_ble_eq_true rfl)) d_C_sumOfRecordAt_15 ⟨Nat.le_refl _, Nat.le_refl _⟩).run (fun r15 q15 => ?_)
  exact W.iret (v := r15) hx hb hr (fun t ht hW => ⟨r15, rfl, by first | rfl | trivial | omega, ht⟩) (fun q hq => by cases hq) d_C_sumOfRecordAt_18
set_option maxHeartbeats 4000000 in
set_option maxRecDepth 100000 in
theorem c_C_firstFreePage (l : Launch) (dC : Nat → ClassId) (dI : Nat → Nat → Nat) (ad cd : Nat → Nat) (w wr fl : Nat → Int32) (pw sc : Int32) (lw rot vb : Nat → Int32) (rec tk : Int32) (live row : Nat → Int32) (cur ser dur wo : Int32) (bts : Nat → Int32) (us : Int32) (act : Nat → Int32) (rd rs : Int32) (b : Nat) (hp : b < 8) : Met l y_C_firstFreePage w_C_firstFreePage ({ frames := 1, cells := 0, slots := 0, locals := 23 }) (xR (dC, dI) vwCl (xt cd) (xw ad cd w wr fl pw sc lw rot vb rec tk live row cur ser dur wo bts us act rd rs) [.ref (ad 2), .int (nI b)]) (vp_Si (fun r => PG 32 r)) 0 0 (fun _ => False) := by
  refine Met.ofW (cc := b_C_firstFreePage) (maxL := 3) (ret := (some (.int))) (by decide) rfl ?_
  intro P e s m args below meth c0 s₁ B hml hv
  obtain ⟨rfl, hP, hK, hN⟩ := hv
  have hx := B.exec
  have hb := B.bytes
  have hr := B.returns
  have hts := atoms_spec (ws := w_C_firstFreePage) B.pre
  have hown : s.vm.findClass R_C = some m.cls := findClass_of_methodNamed B.named
  have hlocks := B.notSynchronized
  have hl := lv_entry ([.ref (ad 2), .int (nI b)]) (n := 3) (Nat.le_of_ble_eq_true rfl)
  rw [lg_entry_eq]
  generalize (lg_sl ([.ref (ad 2), .int (nI b)]) ++ List.replicate (3 - (lg_sl ([.ref (ad 2), .int (nI b)])).length) Slot.unset).toArray = ls at hl ⊢
  have hl : lv_has ls 3 [(0, .ref (ad 2)), (1, .int (nI b))] := hl
  refine lv_iload_n hx hb d_C_firstFreePage_0 rfl (lv_at hl 1 rfl) ?_
  refine lv_iconst (v := nI 4) hx hb d_C_firstFreePage_1 (by decide) ?_
  refine lv_imul hx hb d_C_firstFreePage_2 ?_
  refine tp_i (y := nI (b * 4)) (pk_mul _ _) ?_
  refine lv_istore_n hx hb d_C_firstFreePage_3 rfl hl (by decide) rfl (fun ls hl => ?_)
  have hl : lv_has ls 3 [(2, .int (nI (b * 4))), (0, .ref (ad 2)), (1, .int (nI b))] := hl
  have lp4 : ∀ (n : Nat) (k : Nat) (ls : Array Slot), (4 - k) < n → (k ≤ 4) → lv_has ls 3 [(0, .ref (ad 2)), (1, .int (nI b)), (2, .int (nI (b * 4 + k)))] → W P l e (headSpec w_C_firstFreePage ({ frames := 1, cells := 0, slots := 0, locals := 23 })).room s m (([.ref (ad 2), .int (nI b)] : List Value).toArray) below meth c0 s.heap [] 0 0 (MQ below (vp_Si (fun r => PG 32 r)) (([.ref (ad 2), .int (nI b)] : List Value).toArray) s 0 0 (fun _ => False)) (F0 m 4 ls []) := by
    intro n
    induction n with
    | zero => intro k ls hm; intros; omega
    | succ n ih4 =>
      intro k ls hm hk hl
      refine lv_iload_n hx hb d_C_firstFreePage_4 rfl (lv_at hl 2 rfl) ?_
      refine lv_iload_n hx hb d_C_firstFreePage_5 rfl (lv_at hl 1 rfl) ?_
      refine lv_iconst (v := nI 1) hx hb d_C_firstFreePage_6 (by decide) ?_
      refine lv_iadd hx hb d_C_firstFreePage_7 ?_
      refine tp_i (y := nI (b + 1)) (nI_add _ _) ?_
      refine lv_iconst (v := nI 4) hx hb d_C_firstFreePage_8 (by decide) ?_
      refine lv_imul hx hb d_C_firstFreePage_9 ?_
      refine tp_i (y := nI ((b + 1) * 4)) (pk_mul _ _) ?_
      refine lv_icmp_ge (tgt := 29) hx hb d_C_firstFreePage_10 (by decide) (fun c10 => ?_) (fun c10 => ?_)
      ·
        have c10 := cd_ge_t (by omega) (by omega) c10
        refine lv_iconst (v := (-1)) hx hb d_C_firstFreePage_29 (by decide) ?_
        exact W.iret (v := (-1)) hx hb hr (fun t ht hW => ⟨(-1), rfl, by first | exact PG.m1 | exact PG.of (by omega), ht⟩) (fun q hq => by cases hq) d_C_firstFreePage_30
      ·
        have c10 := cd_ge_f (by omega) (by omega) c10
        refine lv_aload_n hx hb d_C_firstFreePage_13 rfl (lv_at hl 0 rfl) ?_
        refine lv_iload_n hx hb d_C_firstFreePage_14 rfl (lv_at hl 2 rfl) ?_
        refine vp_callSi (va_runV (C := R_C) (As := [.int (nI (b * 4 + k))]) (rest := []) ⟨hx, hb, hml, hown, hts⟩ (c_C_isFree l dC dI ad cd w wr fl pw sc lw rot vb rec tk live row cur ser dur wo bts us act rd rs (b * 4 + k) (by first | omega | rfl | assumption | decide)) (cwV 1 hts (g_V t_258 t_259 t_260 t_3 t_261) rfl rfl rfl (by decide +kernel) ⟨by decide, by decide⟩) (xR_v hP hK hN 2 rfl rfl) rfl rfl hl.1 rfl (lv_room (Nat.le_of_ble_eq_true rfl)) d_C_firstFreePage_15 ⟨Nat.le_refl _, Nat.le_refl _⟩).run (fun r15 q15 => ?_)
        rcases q15 with ⟨rfl, hb15⟩ | ⟨rfl, hb15⟩
        ·
          refine lv_if_eq (tgt := 23) hx hb d_C_firstFreePage_18 (by decide) (fun c18 => ?_) (fun c18 => ?_)
          ·
            exact absurd c18 (by decide)
          ·
            refine lv_iload_n hx hb d_C_firstFreePage_21 rfl (lv_at hl 2 rfl) ?_
            exact W.iret (v := nI (b * 4 + k)) hx hb hr (fun t ht hW => ⟨nI (b * 4 + k), rfl, by first | exact PG.m1 | exact PG.of (by omega), ht⟩) (fun q hq => by cases hq) d_C_firstFreePage_22
        ·
          refine lv_if_eq (tgt := 23) hx hb d_C_firstFreePage_18 (by decide) (fun c18 => ?_) (fun c18 => ?_)
          ·
            refine lv_iinc (k := 2) (v := nI ((b * 4 + k) + 1)) hx hb d_C_firstFreePage_23 hl rfl (nI_1 _) (by decide) rfl (fun ls hl => ?_)
            have hl : lv_has ls 3 [(2, .int (nI ((b * 4 + k) + 1))), (0, .ref (ad 2)), (1, .int (nI b))] := hl
            refine lv_goto (tgt := 4) hx hb d_C_firstFreePage_26 (by decide) ?_
            exact ih4 (k + 1) ls (by omega) (by omega) (lv_sub hl [1, 2, 0] rfl)
          ·
            exact absurd c18 (by decide)
  exact lp4 _ 0 ls (Nat.lt_succ_self _) (by omega) (lv_sub hl [1, 2, 0] rfl)
set_option maxHeartbeats 4000000 in
set_option maxRecDepth 100000 in
theorem c_C_freePagesOf (l : Launch) (dC : Nat → ClassId) (dI : Nat → Nat → Nat) (ad cd : Nat → Nat) (w wr fl : Nat → Int32) (pw sc : Int32) (lw rot vb : Nat → Int32) (rec tk : Int32) (live row : Nat → Int32) (cur ser dur wo : Int32) (bts : Nat → Int32) (us : Int32) (act : Nat → Int32) (rd rs : Int32) (b : Nat) (hp : b < 8) : Met l y_C_freePagesOf w_C_freePagesOf ({ frames := 1, cells := 0, slots := 0, locals := 23 }) (xR (dC, dI) vwCl (xt cd) (xw ad cd w wr fl pw sc lw rot vb rec tk live row cur ser dur wo bts us act rd rs) [.ref (ad 2), .int (nI b)]) (vp_Si (fun r => ∃ m : Nat, m ≤ 4 ∧ (m = 4 ↔ ∀ j, j < 4 → fp w (b * 4 + j)) ∧ r = nI m)) 0 0 (fun _ => False) := by
  refine Met.ofW (cc := b_C_freePagesOf) (maxL := 4) (ret := (some (.int))) (by decide) rfl ?_
  intro P e s m args below meth c0 s₁ B hml hv
  obtain ⟨rfl, hP, hK, hN⟩ := hv
  have hx := B.exec
  have hb := B.bytes
  have hr := B.returns
  have hts := atoms_spec (ws := w_C_freePagesOf) B.pre
  have hown : s.vm.findClass R_C = some m.cls := findClass_of_methodNamed B.named
  have hlocks := B.notSynchronized
  have hl := lv_entry ([.ref (ad 2), .int (nI b)]) (n := 4) (Nat.le_of_ble_eq_true rfl)
  rw [lg_entry_eq]
  generalize (lg_sl ([.ref (ad 2), .int (nI b)]) ++ List.replicate (4 - (lg_sl ([.ref (ad 2), .int (nI b)])).length) Slot.unset).toArray = ls at hl ⊢
  have hl : lv_has ls 4 [(0, .ref (ad 2)), (1, .int (nI b))] := hl
  refine lv_iconst (v := nI 0) hx hb d_C_freePagesOf_0 (by decide) ?_
  refine lv_istore_n hx hb d_C_freePagesOf_1 rfl hl (by decide) rfl (fun ls hl => ?_)
  have hl : lv_has ls 4 [(2, .int (nI 0)), (0, .ref (ad 2)), (1, .int (nI b))] := hl
  refine lv_iload_n hx hb d_C_freePagesOf_2 rfl (lv_at hl 2 rfl) ?_
  refine lv_iconst (v := nI 4) hx hb d_C_freePagesOf_3 (by decide) ?_
  refine lv_imul hx hb d_C_freePagesOf_4 ?_
  refine tp_i (y := nI (b * 4)) (pk_mul _ _) ?_
  refine lv_istore_n hx hb d_C_freePagesOf_5 rfl hl (by decide) rfl (fun ls hl => ?_)
  have hl : lv_has ls 4 [(3, .int (nI (b * 4))), (2, .int (nI 0)), (0, .ref (ad 2)), (1, .int (nI b))] := hl
  have lp6 : ∀ (n : Nat) (k : Nat) (mm : Nat) (ls : Array Slot), (4 - k) < n → (k ≤ 4) → (mm ≤ k) → (mm = k ↔ ∀ j, j < k → fp w (b * 4 + j)) → lv_has ls 4 [(0, .ref (ad 2)), (1, .int (nI b)), (2, .int (nI mm)), (3, .int (nI (b * 4 + k)))] → W P l e (headSpec w_C_freePagesOf ({ frames := 1, cells := 0, slots := 0, locals := 23 })).room s m (([.ref (ad 2), .int (nI b)] : List Value).toArray) below meth c0 s.heap [] 0 0 (MQ below (vp_Si (fun r => ∃ m : Nat, m ≤ 4 ∧ (m = 4 ↔ ∀ j, j < 4 → fp w (b * 4 + j)) ∧ r = nI m)) (([.ref (ad 2), .int (nI b)] : List Value).toArray) s 0 0 (fun _ => False)) (F0 m 6 ls []) := by
    intro n
    induction n with
    | zero => intro k mm ls hm; intros; omega
    | succ n ih6 =>
      intro k mm ls hm hk hm4 hc hl
      refine lv_iload_n hx hb d_C_freePagesOf_6 rfl (lv_at hl 3 rfl) ?_
      refine lv_iload_n hx hb d_C_freePagesOf_7 rfl (lv_at hl 1 rfl) ?_
      refine lv_iconst (v := nI 1) hx hb d_C_freePagesOf_8 (by decide) ?_
      refine lv_iadd hx hb d_C_freePagesOf_9 ?_
      refine tp_i (y := nI (b + 1)) (nI_add _ _) ?_
      refine lv_iconst (v := nI 4) hx hb d_C_freePagesOf_10 (by decide) ?_
      refine lv_imul hx hb d_C_freePagesOf_11 ?_
      refine tp_i (y := nI ((b + 1) * 4)) (pk_mul _ _) ?_
      refine lv_icmp_ge (tgt := 32) hx hb d_C_freePagesOf_12 (by decide) (fun c12 => ?_) (fun c12 => ?_)
      ·
        have c12 := cd_ge_t (by omega) (by omega) c12
        refine lv_iload_n hx hb d_C_freePagesOf_32 rfl (lv_at hl 2 rfl) ?_
        obtain rfl : k = 4 := by omega
        exact W.iret (v := nI mm) hx hb hr (fun t ht hW => ⟨nI mm, rfl, ⟨mm, hm4, hc, rfl⟩, ht⟩) (fun q hq => by cases hq) d_C_freePagesOf_33
      ·
        have c12 := cd_ge_f (by omega) (by omega) c12
        refine lv_aload_n hx hb d_C_freePagesOf_15 rfl (lv_at hl 0 rfl) ?_
        refine lv_iload_n hx hb d_C_freePagesOf_16 rfl (lv_at hl 3 rfl) ?_
        refine vp_callSi (va_runV (C := R_C) (As := [.int (nI (b * 4 + k))]) (rest := []) ⟨hx, hb, hml, hown, hts⟩ (c_C_isFree l dC dI ad cd w wr fl pw sc lw rot vb rec tk live row cur ser dur wo bts us act rd rs (b * 4 + k) (by first | omega | rfl | assumption | decide)) (cwV 1 hts (g_V t_258 t_259 t_260 t_3 t_261) rfl rfl rfl (by decide +kernel) ⟨by decide, by decide⟩) (xR_v hP hK hN 2 rfl rfl) rfl rfl hl.1 rfl (lv_room (Nat.le_of_ble_eq_true rfl)) d_C_freePagesOf_17 ⟨Nat.le_refl _, Nat.le_refl _⟩).run (fun r17 q17 => ?_)
        rcases q17 with ⟨rfl, hb17⟩ | ⟨rfl, hb17⟩
        ·
          refine lv_if_eq (tgt := 26) hx hb d_C_freePagesOf_20 (by decide) (fun c20 => ?_) (fun c20 => ?_)
          ·
            exact absurd c20 (by decide)
          ·
            refine lv_iinc (k := 2) (v := nI (mm + 1)) hx hb d_C_freePagesOf_23 hl rfl (nI_1 _) (by decide) rfl (fun ls hl => ?_)
            have hl : lv_has ls 4 [(2, .int (nI (mm + 1))), (0, .ref (ad 2)), (1, .int (nI b)), (3, .int (nI (b * 4 + k)))] := hl
            refine lv_iinc (k := 3) (v := nI ((b * 4 + k) + 1)) hx hb d_C_freePagesOf_26 hl rfl (nI_1 _) (by decide) rfl (fun ls hl => ?_)
            have hl : lv_has ls 4 [(3, .int (nI ((b * 4 + k) + 1))), (2, .int (nI (mm + 1))), (0, .ref (ad 2)), (1, .int (nI b))] := hl
            refine lv_goto (tgt := 6) hx hb d_C_freePagesOf_29 (by decide) ?_
            exact ih6 (k + 1) (mm + 1) ls (by omega) (by omega) (by omega) (fc_s (P := fun j => fp w (b * 4 + j)) hc hb17) (lv_sub hl [2, 3, 1, 0] rfl)
        ·
          refine lv_if_eq (tgt := 26) hx hb d_C_freePagesOf_20 (by decide) (fun c20 => ?_) (fun c20 => ?_)
          ·
            refine lv_iinc (k := 3) (v := nI ((b * 4 + k) + 1)) hx hb d_C_freePagesOf_26 hl rfl (nI_1 _) (by decide) rfl (fun ls hl => ?_)
            have hl : lv_has ls 4 [(3, .int (nI ((b * 4 + k) + 1))), (0, .ref (ad 2)), (1, .int (nI b)), (2, .int (nI mm))] := hl
            refine lv_goto (tgt := 6) hx hb d_C_freePagesOf_29 (by decide) ?_
            exact ih6 (k + 1) mm ls (by omega) (by omega) (by omega) (fc_n (P := fun j => fp w (b * 4 + j)) hm4 hb17) (lv_sub hl [1, 2, 3, 0] rfl)
          ·
            exact absurd c20 (by decide)
  exact lp6 _ 0 0 ls (Nat.lt_succ_self _) (by omega) (by omega) fc_0 (lv_sub hl [2, 3, 1, 0] rfl)
set_option maxHeartbeats 4000000 in
set_option maxRecDepth 100000 in
theorem c_C_usableFreePages (l : Launch) (dC : Nat → ClassId) (dI : Nat → Nat → Nat) (ad cd : Nat → Nat) (w wr fl : Nat → Int32) (pw sc : Int32) (lw rot vb : Nat → Int32) (rec tk : Int32) (live row : Nat → Int32) (cur ser dur wo : Int32) (bts : Nat → Int32) (us : Int32) (act : Nat → Int32) (rd rs : Int32)  : Met l y_C_usableFreePages w_C_usableFreePages ({ frames := 2, cells := 0, slots := 0, locals := 46 }) (xR (dC, dI) vwCl (xt cd) (xw ad cd w wr fl pw sc lw rot vb rec tk live row cur ser dur wo bts us act rd rs) [.ref (ad 2)]) (vp_Si (fun r => True)) 0 0 (fun _ => False) := by
  refine Met.ofW (cc := b_C_usableFreePages) (maxL := 3) (ret := (some (.int))) (by decide) rfl ?_
  intro P e s m args below meth c0 s₁ B hml hv
  obtain ⟨rfl, hP, hK, hN⟩ := hv
  have hx := B.exec
  have hb := B.bytes
  have hr := B.returns
  have hts := atoms_spec (ws := w_C_usableFreePages) B.pre
  have hown : s.vm.findClass R_C = some m.cls := findClass_of_methodNamed B.named
  have hlocks := B.notSynchronized
  have hl := lv_entry ([.ref (ad 2)]) (n := 3) (Nat.le_of_ble_eq_true rfl)
  rw [lg_entry_eq]
  generalize (lg_sl ([.ref (ad 2)]) ++ List.replicate (3 - (lg_sl ([.ref (ad 2)])).length) Slot.unset).toArray = ls at hl ⊢
  have hl : lv_has ls 3 [(0, .ref (ad 2))] := hl
  refine lv_iconst (v := nI 0) hx hb d_C_usableFreePages_0 (by decide) ?_
  refine lv_istore_n hx hb d_C_usableFreePages_1 rfl hl (by decide) rfl (fun ls hl => ?_)
  have hl : lv_has ls 3 [(1, .int (nI 0)), (0, .ref (ad 2))] := hl
  refine lv_iconst (v := nI 0) hx hb d_C_usableFreePages_2 (by decide) ?_
  refine lv_istore_n hx hb d_C_usableFreePages_3 rfl hl (by decide) rfl (fun ls hl => ?_)
  have hl : lv_has ls 3 [(2, .int (nI 0)), (1, .int (nI 0)), (0, .ref (ad 2))] := hl
  have lp4 : ∀ (n : Nat) (k : Nat) (x : Int32) (ls : Array Slot), (8 - k) < n → (k ≤ 8) → lv_has ls 3 [(0, .ref (ad 2)), (1, .int x), (2, .int (nI k))] → W P l e (headSpec w_C_usableFreePages ({ frames := 2, cells := 0, slots := 0, locals := 46 })).room s m (([.ref (ad 2)] : List Value).toArray) below meth c0 s.heap [] 0 0 (MQ below (vp_Si (fun r => True)) (([.ref (ad 2)] : List Value).toArray) s 0 0 (fun _ => False)) (F0 m 4 ls []) := by
    intro n
    induction n with
    | zero => intro k x ls hm; intros; omega
    | succ n ih4 =>
      intro k x ls hm hk hl
      refine lv_iload_n hx hb d_C_usableFreePages_4 rfl (lv_at hl 2 rfl) ?_
      refine lv_bipush (v := nI 8) hx hb d_C_usableFreePages_5 (by decide) ?_
      refine lv_icmp_ge (tgt := 33) hx hb d_C_usableFreePages_7 (by decide) (fun c7 => ?_) (fun c7 => ?_)
      ·
        have c7 := cd_ge_t (by omega) (by omega) c7
        refine lv_iload_n hx hb d_C_usableFreePages_33 rfl (lv_at hl 1 rfl) ?_
        exact W.iret (v := x) hx hb hr (fun t ht hW => ⟨x, rfl, by first | rfl | trivial | omega, ht⟩) (fun q hq => by cases hq) d_C_usableFreePages_34
      ·
        have c7 := cd_ge_f (by omega) (by omega) c7
        refine lv_aload_n hx hb d_C_usableFreePages_10 rfl (lv_at hl 0 rfl) ?_
        refine va_get (D := (dC, dI)) (ci := 0) (v := .ref (ad 10)) (C := R_C) (T := F_C) (N := 5) hx hb hts (fun w h => List.mem_cons_of_mem _ (in_C w h)) hown hK hP 2 rfl rfl 2 (by decide) (hts (.fieldLink R_C 18 R_C "failed" "[Z") (List.mem_cons_of_mem _ t_36)) (fun _ h9 => h9) rfl d_C_usableFreePages_11 ?_
        refine lv_iload_n hx hb d_C_usableFreePages_14 rfl (lv_at hl 2 rfl) ?_
        refine va_zald hx hb hK hP 10 5 rfl rfl (vp_in_nI (by omega) (by decide)) d_C_usableFreePages_15 ?_
        refine tp_i (y := fl k) (by rw [nI_clamp (by omega)]) ?_
        refine lv_if_ne (tgt := 27) hx hb d_C_usableFreePages_16 (by decide) (fun c16 => ?_) (fun c16 => ?_)
        ·
          refine lv_iinc (k := 2) (v := nI (k + 1)) hx hb d_C_usableFreePages_27 hl rfl (nI_1 _) (by decide) rfl (fun ls hl => ?_)
          have hl : lv_has ls 3 [(2, .int (nI (k + 1))), (0, .ref (ad 2)), (1, .int x)] := hl
          refine lv_goto (tgt := 4) hx hb d_C_usableFreePages_30 (by decide) ?_
          exact ih4 (k + 1) x ls (by omega) (by omega) (lv_sub hl [1, 2, 0] rfl)
        ·
          refine lv_iload_n hx hb d_C_usableFreePages_19 rfl (lv_at hl 1 rfl) ?_
          refine lv_aload_n hx hb d_C_usableFreePages_20 rfl (lv_at hl 0 rfl) ?_
          refine lv_iload_n hx hb d_C_usableFreePages_21 rfl (lv_at hl 2 rfl) ?_
          refine vp_callSi (va_runV (C := R_C) (As := [.int (nI k)]) (rest := [.int x]) ⟨hx, hb, hml, hown, hts⟩ (c_C_freePagesOf l dC dI ad cd w wr fl pw sc lw rot vb rec tk live row cur ser dur wo bts us act rd rs k (by first | omega | rfl | assumption | decide)) (cwV 1 hts (g_V t_254 t_255 t_256 t_3 t_257) rfl rfl rfl (by decide +kernel) ⟨by decide, by decide⟩) (xR_v hP hK hN 2 rfl rfl) rfl rfl hl.1 rfl (lv_room (Nat.le_of_ble_eq_true rfl)) d_C_usableFreePages_22 ⟨Nat.le_refl _, Nat.le_refl _⟩).run (fun r22 q22 => ?_)
          obtain ⟨m22, hm22, hc22, rfl⟩ := q22
          refine lv_iadd hx hb d_C_usableFreePages_25 ?_
          refine lv_istore_n hx hb d_C_usableFreePages_26 rfl hl (by decide) rfl (fun ls hl => ?_)
          have hl : lv_has ls 3 [(1, .int (x + (nI m22))), (0, .ref (ad 2)), (2, .int (nI k))] := hl
          refine lv_iinc (k := 2) (v := nI (k + 1)) hx hb d_C_usableFreePages_27 hl rfl (nI_1 _) (by decide) rfl (fun ls hl => ?_)
          have hl : lv_has ls 3 [(2, .int (nI (k + 1))), (1, .int (x + (nI m22))), (0, .ref (ad 2))] := hl
          refine lv_goto (tgt := 4) hx hb d_C_usableFreePages_30 (by decide) ?_
          exact ih4 (k + 1) (x + (nI m22)) ls (by omega) (by omega) (lv_sub hl [2, 1, 0] rfl)
  exact lp4 _ 0 (nI 0) ls (Nat.lt_succ_self _) (by omega) (lv_sub hl [2, 1, 0] rfl)
set_option maxHeartbeats 4000000 in
set_option maxRecDepth 100000 in
theorem c_C_isClean (l : Launch) (dC : Nat → ClassId) (dI : Nat → Nat → Nat) (ad cd : Nat → Nat) (w wr fl : Nat → Int32) (pw sc : Int32) (lw rot vb : Nat → Int32) (rec tk : Int32) (live row : Nat → Int32) (cur ser dur wo : Int32) (bts : Nat → Int32) (us : Int32) (act : Nat → Int32) (rd rs : Int32) (b : Nat) (hp : b < 8) : Met l y_C_isClean w_C_isClean ({ frames := 2, cells := 0, slots := 0, locals := 46 }) (xR (dC, dI) vwCl (xt cd) (xw ad cd w wr fl pw sc lw rot vb rec tk live row cur ser dur wo bts us act rd rs) [.ref (ad 2), .int (nI b)]) (vp_Si (fun r => (r = nI 1 ∧ CL w fl b) ∨ (r = nI 0 ∧ ¬ CL w fl b))) 0 0 (fun _ => False) := by
  refine Met.ofW (cc := b_C_isClean) (maxL := 2) (ret := (some (.boolean))) (by decide) rfl ?_
  intro P e s m args below meth c0 s₁ B hml hv
  obtain ⟨rfl, hP, hK, hN⟩ := hv
  have hx := B.exec
  have hb := B.bytes
  have hr := B.returns
  have hts := atoms_spec (ws := w_C_isClean) B.pre
  have hown : s.vm.findClass R_C = some m.cls := findClass_of_methodNamed B.named
  have hlocks := B.notSynchronized
  have hl := lv_entry ([.ref (ad 2), .int (nI b)]) (n := 2) (Nat.le_of_ble_eq_true rfl)
  rw [lg_entry_eq]
  generalize (lg_sl ([.ref (ad 2), .int (nI b)]) ++ List.replicate (2 - (lg_sl ([.ref (ad 2), .int (nI b)])).length) Slot.unset).toArray = ls at hl ⊢
  have hl : lv_has ls 2 [(0, .ref (ad 2)), (1, .int (nI b))] := hl
  refine lv_aload_n hx hb d_C_isClean_0 rfl (lv_at hl 0 rfl) ?_
  refine va_get (D := (dC, dI)) (ci := 0) (v := .ref (ad 10)) (C := R_C) (T := F_C) (N := 5) hx hb hts (fun w h => List.mem_cons_of_mem _ (in_C w h)) hown hK hP 2 rfl rfl 2 (by decide) (hts (.fieldLink R_C 18 R_C "failed" "[Z") (List.mem_cons_of_mem _ t_36)) (fun _ h9 => h9) rfl d_C_isClean_1 ?_
  refine lv_iload_n hx hb d_C_isClean_4 rfl (lv_at hl 1 rfl) ?_
  refine va_zald hx hb hK hP 10 5 rfl rfl (vp_in_nI (by omega) (by decide)) d_C_isClean_5 ?_
  refine tp_i (y := fl b) (by rw [nI_clamp (by omega)]) ?_
  refine lv_if_ne (tgt := 22) hx hb d_C_isClean_6 (by decide) (fun c6 => ?_) (fun c6 => ?_)
  ·
    refine lv_iconst (v := nI 0) hx hb d_C_isClean_22 (by decide) ?_
    exact W.zret (v := nI 0) hx hb hr (by first | rfl | decide | assumption) (fun t ht hW => ⟨nI 0, rfl, Or.inr ⟨rfl, fun z => by first | exact c6 z.1 | exact c15 (hc11.mpr z.2)⟩, ht⟩) (fun q hq => by cases hq) d_C_isClean_23
  ·
    refine lv_aload_n hx hb d_C_isClean_9 rfl (lv_at hl 0 rfl) ?_
    refine lv_iload_n hx hb d_C_isClean_10 rfl (lv_at hl 1 rfl) ?_
    refine vp_callSi (va_runV (C := R_C) (As := [.int (nI b)]) (rest := []) ⟨hx, hb, hml, hown, hts⟩ (c_C_freePagesOf l dC dI ad cd w wr fl pw sc lw rot vb rec tk live row cur ser dur wo bts us act rd rs b (by first | omega | rfl | assumption | decide)) (cwV 1 hts (g_V t_254 t_255 t_256 t_3 t_257) rfl rfl rfl (by decide +kernel) ⟨by decide, by decide⟩) (xR_v hP hK hN 2 rfl rfl) rfl rfl hl.1 rfl (lv_room (Nat.le_of_ble_eq_true rfl)) d_C_isClean_11 ⟨Nat.le_refl _, Nat.le_refl _⟩).run (fun r11 q11 => ?_)
    obtain ⟨m11, hm11, hc11, rfl⟩ := q11
    refine lv_iconst (v := nI 4) hx hb d_C_isClean_14 (by decide) ?_
    refine lv_icmp_ne (tgt := 22) hx hb d_C_isClean_15 (by decide) (fun c15 => ?_) (fun c15 => ?_)
    ·
      have c15 := cd_ne_t (by omega) (by omega) c15
      refine lv_iconst (v := nI 0) hx hb d_C_isClean_22 (by decide) ?_
      exact W.zret (v := nI 0) hx hb hr (by first | rfl | decide | assumption) (fun t ht hW => ⟨nI 0, rfl, Or.inr ⟨rfl, fun z => by first | exact c6 z.1 | exact c15 (hc11.mpr z.2)⟩, ht⟩) (fun q hq => by cases hq) d_C_isClean_23
    ·
      have c15 := cd_ne_f (by omega) (by omega) c15
      refine lv_iconst (v := nI 1) hx hb d_C_isClean_18 (by decide) ?_
      refine lv_goto (tgt := 23) hx hb d_C_isClean_19 (by decide) ?_
      exact W.zret (v := nI 1) hx hb hr (by first | rfl | decide | assumption) (fun t ht hW => ⟨nI 1, rfl, Or.inl ⟨rfl, c6, hc11.mp c15⟩, ht⟩) (fun q hq => by cases hq) d_C_isClean_23
set_option maxHeartbeats 4000000 in
set_option maxRecDepth 100000 in
theorem c_C_cleanBlockCount (l : Launch) (dC : Nat → ClassId) (dI : Nat → Nat → Nat) (ad cd : Nat → Nat) (w wr fl : Nat → Int32) (pw sc : Int32) (lw rot vb : Nat → Int32) (rec tk : Int32) (live row : Nat → Int32) (cur ser dur wo : Int32) (bts : Nat → Int32) (us : Int32) (act : Nat → Int32) (rd rs : Int32)  : Met l y_C_cleanBlockCount w_C_cleanBlockCount ({ frames := 3, cells := 0, slots := 0, locals := 67 }) (xR (dC, dI) vwCl (xt cd) (xw ad cd w wr fl pw sc lw rot vb rec tk live row cur ser dur wo bts us act rd rs) [.ref (ad 2)]) (vp_Si (fun r => ∃ m : Nat, m ≤ 8 ∧ (m ≠ 0 → ∃ b, b < 8 ∧ CL w fl b) ∧ r = nI m)) 0 0 (fun _ => False) := by
  refine Met.ofW (cc := b_C_cleanBlockCount) (maxL := 3) (ret := (some (.int))) (by decide) rfl ?_
  intro P e s m args below meth c0 s₁ B hml hv
  obtain ⟨rfl, hP, hK, hN⟩ := hv
  have hx := B.exec
  have hb := B.bytes
  have hr := B.returns
  have hts := atoms_spec (ws := w_C_cleanBlockCount) B.pre
  have hown : s.vm.findClass R_C = some m.cls := findClass_of_methodNamed B.named
  have hlocks := B.notSynchronized
  have hl := lv_entry ([.ref (ad 2)]) (n := 3) (Nat.le_of_ble_eq_true rfl)
  rw [lg_entry_eq]
  generalize (lg_sl ([.ref (ad 2)]) ++ List.replicate (3 - (lg_sl ([.ref (ad 2)])).length) Slot.unset).toArray = ls at hl ⊢
  have hl : lv_has ls 3 [(0, .ref (ad 2))] := hl
  refine lv_iconst (v := nI 0) hx hb d_C_cleanBlockCount_0 (by decide) ?_
  refine lv_istore_n hx hb d_C_cleanBlockCount_1 rfl hl (by decide) rfl (fun ls hl => ?_)
  have hl : lv_has ls 3 [(1, .int (nI 0)), (0, .ref (ad 2))] := hl
  refine lv_iconst (v := nI 0) hx hb d_C_cleanBlockCount_2 (by decide) ?_
  refine lv_istore_n hx hb d_C_cleanBlockCount_3 rfl hl (by decide) rfl (fun ls hl => ?_)
  have hl : lv_has ls 3 [(2, .int (nI 0)), (1, .int (nI 0)), (0, .ref (ad 2))] := hl
  have lp4 : ∀ (n : Nat) (k : Nat) (mm : Nat) (ls : Array Slot), (8 - k) < n → (k ≤ 8) → (mm ≤ k) → (mm ≠ 0 → ∃ b, b < 8 ∧ CL w fl b) → lv_has ls 3 [(0, .ref (ad 2)), (1, .int (nI mm)), (2, .int (nI k))] → W P l e (headSpec w_C_cleanBlockCount ({ frames := 3, cells := 0, slots := 0, locals := 67 })).room s m (([.ref (ad 2)] : List Value).toArray) below meth c0 s.heap [] 0 0 (MQ below (vp_Si (fun r => ∃ m : Nat, m ≤ 8 ∧ (m ≠ 0 → ∃ b, b < 8 ∧ CL w fl b) ∧ r = nI m)) (([.ref (ad 2)] : List Value).toArray) s 0 0 (fun _ => False)) (F0 m 4 ls []) := by
    intro n
    induction n with
    | zero => intro k mm ls hm; intros; omega
    | succ n ih4 =>
      intro k mm ls hm hk hm8 hc hl
      refine lv_iload_n hx hb d_C_cleanBlockCount_4 rfl (lv_at hl 2 rfl) ?_
      refine lv_bipush (v := nI 8) hx hb d_C_cleanBlockCount_5 (by decide) ?_
      refine lv_icmp_ge (tgt := 27) hx hb d_C_cleanBlockCount_7 (by decide) (fun c7 => ?_) (fun c7 => ?_)
      ·
        have c7 := cd_ge_t (by omega) (by omega) c7
        refine lv_iload_n hx hb d_C_cleanBlockCount_27 rfl (lv_at hl 1 rfl) ?_
        exact W.iret (v := nI mm) hx hb hr (fun t ht hW => ⟨nI mm, rfl, ⟨mm, by omega, hc, rfl⟩, ht⟩) (fun q hq => by cases hq) d_C_cleanBlockCount_28
      ·
        have c7 := cd_ge_f (by omega) (by omega) c7
        refine lv_aload_n hx hb d_C_cleanBlockCount_10 rfl (lv_at hl 0 rfl) ?_
        refine lv_iload_n hx hb d_C_cleanBlockCount_11 rfl (lv_at hl 2 rfl) ?_
        refine vp_callSi (va_runV (C := R_C) (As := [.int (nI k)]) (rest := []) ⟨hx, hb, hml, hown, hts⟩ (c_C_isClean l dC dI ad cd w wr fl pw sc lw rot vb rec tk live row cur ser dur wo bts us act rd rs k (by first | omega | rfl | assumption | decide)) (cwV 1 hts (g_V t_407 t_408 t_409 t_3 t_410) rfl rfl rfl (by decide +kernel) ⟨by decide, by decide⟩) (xR_v hP hK hN 2 rfl rfl) rfl rfl hl.1 rfl (lv_room (Nat.le_of_ble_eq_true rfl)) d_C_cleanBlockCount_12 ⟨Nat.le_refl _, Nat.le_refl _⟩).run (fun r12 q12 => ?_)
        rcases q12 with ⟨rfl, hb12⟩ | ⟨rfl, hb12⟩
        ·
          refine lv_if_eq (tgt := 21) hx hb d_C_cleanBlockCount_15 (by decide) (fun c15 => ?_) (fun c15 => ?_)
          ·
            exact absurd c15 (by decide)
          ·
            refine lv_iinc (k := 1) (v := nI (mm + 1)) hx hb d_C_cleanBlockCount_18 hl rfl (nI_1 _) (by decide) rfl (fun ls hl => ?_)
            have hl : lv_has ls 3 [(1, .int (nI (mm + 1))), (0, .ref (ad 2)), (2, .int (nI k))] := hl
            refine lv_iinc (k := 2) (v := nI (k + 1)) hx hb d_C_cleanBlockCount_21 hl rfl (nI_1 _) (by decide) rfl (fun ls hl => ?_)
            have hl : lv_has ls 3 [(2, .int (nI (k + 1))), (1, .int (nI (mm + 1))), (0, .ref (ad 2))] := hl
            refine lv_goto (tgt := 4) hx hb d_C_cleanBlockCount_24 (by decide) ?_
            exact ih4 (k + 1) (mm + 1) ls (by omega) (by omega) (by omega) (fun _ => ⟨k, by omega, hb12⟩) (lv_sub hl [2, 1, 0] rfl)
        ·
          refine lv_if_eq (tgt := 21) hx hb d_C_cleanBlockCount_15 (by decide) (fun c15 => ?_) (fun c15 => ?_)
          ·
            refine lv_iinc (k := 2) (v := nI (k + 1)) hx hb d_C_cleanBlockCount_21 hl rfl (nI_1 _) (by decide) rfl (fun ls hl => ?_)
            have hl : lv_has ls 3 [(2, .int (nI (k + 1))), (0, .ref (ad 2)), (1, .int (nI mm))] := hl
            refine lv_goto (tgt := 4) hx hb d_C_cleanBlockCount_24 (by decide) ?_
            exact ih4 (k + 1) mm ls (by omega) (by omega) (by omega) hc (lv_sub hl [1, 2, 0] rfl)
          ·
            exact absurd c15 (by decide)
  exact lp4 _ 0 0 ls (Nat.lt_succ_self _) (by omega) (by omega) (fun z => absurd rfl z) (lv_sub hl [2, 1, 0] rfl)
set_option maxHeartbeats 4000000 in
set_option maxRecDepth 100000 in
theorem c_C_leastWornCleanBlock (l : Launch) (dC : Nat → ClassId) (dI : Nat → Nat → Nat) (ad cd : Nat → Nat) (w wr fl : Nat → Int32) (pw sc : Int32) (lw rot vb : Nat → Int32) (rec tk : Int32) (live row : Nat → Int32) (cur ser dur wo : Int32) (bts : Nat → Int32) (us : Int32) (act : Nat → Int32) (rd rs : Int32)  (hcl : ∃ b, b < 8 ∧ CL w fl b) : Met l y_C_leastWornCleanBlock w_C_leastWornCleanBlock ({ frames := 3, cells := 0, slots := 0, locals := 67 }) (xR (dC, dI) vwCl (xt cd) (xw ad cd w wr fl pw sc lw rot vb rec tk live row cur ser dur wo bts us act rd rs) [.ref (ad 2)]) (vp_Si (fun r => IX 8 r)) 0 0 (fun _ => False) := by
  refine Met.ofW (cc := b_C_leastWornCleanBlock) (maxL := 3) (ret := (some (.int))) (by decide) rfl ?_
  intro P e s m args below meth c0 s₁ B hml hv
  obtain ⟨rfl, hP, hK, hN⟩ := hv
  have hx := B.exec
  have hb := B.bytes
  have hr := B.returns
  have hts := atoms_spec (ws := w_C_leastWornCleanBlock) B.pre
  have hown : s.vm.findClass R_C = some m.cls := findClass_of_methodNamed B.named
  have hlocks := B.notSynchronized
  have hl := lv_entry ([.ref (ad 2)]) (n := 3) (Nat.le_of_ble_eq_true rfl)
  rw [lg_entry_eq]
  generalize (lg_sl ([.ref (ad 2)]) ++ List.replicate (3 - (lg_sl ([.ref (ad 2)])).length) Slot.unset).toArray = ls at hl ⊢
  have hl : lv_has ls 3 [(0, .ref (ad 2))] := hl
  refine lv_iconst (v := (-1)) hx hb d_C_leastWornCleanBlock_0 (by decide) ?_
  refine lv_istore_n hx hb d_C_leastWornCleanBlock_1 rfl hl (by decide) rfl (fun ls hl => ?_)
  have hl : lv_has ls 3 [(1, .int (-1)), (0, .ref (ad 2))] := hl
  refine lv_iconst (v := nI 0) hx hb d_C_leastWornCleanBlock_2 (by decide) ?_
  refine lv_istore_n hx hb d_C_leastWornCleanBlock_3 rfl hl (by decide) rfl (fun ls hl => ?_)
  have hl : lv_has ls 3 [(2, .int (nI 0)), (1, .int (-1)), (0, .ref (ad 2))] := hl
  have lp4 : ∀ (n : Nat) (k : Nat) (bv : Int32) (ls : Array Slot), (8 - k) < n → (k ≤ 8) → (PG 8 bv) → (∀ b, b < k → CL w fl b → bv ≠ -1) → lv_has ls 3 [(0, .ref (ad 2)), (1, .int bv), (2, .int (nI k))] → W P l e (headSpec w_C_leastWornCleanBlock ({ frames := 3, cells := 0, slots := 0, locals := 67 })).room s m (([.ref (ad 2)] : List Value).toArray) below meth c0 s.heap [] 0 0 (MQ below (vp_Si (fun r => IX 8 r)) (([.ref (ad 2)] : List Value).toArray) s 0 0 (fun _ => False)) (F0 m 4 ls []) := by
    intro n
    induction n with
    | zero => intro k bv ls hm; intros; omega
    | succ n ih4 =>
      intro k bv ls hm hk hbv hc hl
      refine lv_iload_n hx hb d_C_leastWornCleanBlock_4 rfl (lv_at hl 2 rfl) ?_
      refine lv_bipush (v := nI 8) hx hb d_C_leastWornCleanBlock_5 (by decide) ?_
      refine lv_icmp_ge (tgt := 46) hx hb d_C_leastWornCleanBlock_7 (by decide) (fun c7 => ?_) (fun c7 => ?_)
      ·
        have c7 := cd_ge_t (by omega) (by omega) c7
        refine lv_iload_n hx hb d_C_leastWornCleanBlock_46 rfl (lv_at hl 1 rfl) ?_
        exact W.iret (v := bv) hx hb hr (fun t ht hW => ⟨bv, rfl, by obtain ⟨b, hb, hcb⟩ := hcl; exact hbv.resolve_left (hc b (by omega) hcb), ht⟩) (fun q hq => by cases hq) d_C_leastWornCleanBlock_47
      ·
        have c7 := cd_ge_f (by omega) (by omega) c7
        refine lv_aload_n hx hb d_C_leastWornCleanBlock_10 rfl (lv_at hl 0 rfl) ?_
        refine lv_iload_n hx hb d_C_leastWornCleanBlock_11 rfl (lv_at hl 2 rfl) ?_
        refine vp_callSi (va_runV (C := R_C) (As := [.int (nI k)]) (rest := []) ⟨hx, hb, hml, hown, hts⟩ (c_C_isClean l dC dI ad cd w wr fl pw sc lw rot vb rec tk live row cur ser dur wo bts us act rd rs k (by first | omega | rfl | assumption | decide)) (cwV 1 hts (g_V t_407 t_408 t_409 t_3 t_410) rfl rfl rfl (by decide +kernel) ⟨by decide, by decide⟩) (xR_v hP hK hN 2 rfl rfl) rfl rfl hl.1 rfl (lv_room (Nat.le_of_ble_eq_true rfl)) d_C_leastWornCleanBlock_12 ⟨Nat.le_refl _, Nat.le_refl _⟩).run (fun r12 q12 => ?_)
        rcases q12 with ⟨rfl, hb12⟩ | ⟨rfl, hb12⟩
        ·
          refine lv_if_eq (tgt := 40) hx hb d_C_leastWornCleanBlock_15 (by decide) (fun c15 => ?_) (fun c15 => ?_)
          ·
            exact absurd c15 (by decide)
          ·
            rcases hbv with rfl | ⟨c, hhc, rfl⟩
            ·
              refine lv_iload_n hx hb d_C_leastWornCleanBlock_18 rfl (lv_at hl 1 rfl) ?_
              refine lv_iconst (v := (-1)) hx hb d_C_leastWornCleanBlock_19 (by decide) ?_
              refine lv_icmp_eq (tgt := 38) hx hb d_C_leastWornCleanBlock_20 (by decide) (fun c20 => ?_) (fun c20 => ?_)
              ·
                refine lv_iload_n hx hb d_C_leastWornCleanBlock_38 rfl (lv_at hl 2 rfl) ?_
                refine lv_istore_n hx hb d_C_leastWornCleanBlock_39 rfl hl (by decide) rfl (fun ls hl => ?_)
                have hl : lv_has ls 3 [(1, .int (nI k)), (0, .ref (ad 2)), (2, .int (nI k))] := hl
                refine lv_iinc (k := 2) (v := nI (k + 1)) hx hb d_C_leastWornCleanBlock_40 hl rfl (nI_1 _) (by decide) rfl (fun ls hl => ?_)
                have hl : lv_has ls 3 [(2, .int (nI (k + 1))), (1, .int (nI k)), (0, .ref (ad 2))] := hl
                refine lv_goto (tgt := 4) hx hb d_C_leastWornCleanBlock_43 (by decide) ?_
                exact ih4 (k + 1) (nI k) ls (by omega) (by omega) (by first | exact hbv | exact PG.m1 | exact PG.of (by omega)) (fun b hb hcl => by first | exact nm_ne (by omega) (by decide) | exact (fun q => if e : b = k then (by subst e; exact absurd hcl hb12) else hc b (by omega) hcl q)) (lv_sub hl [2, 1, 0] rfl)
              ·
                exact absurd c20 (by decide)
            ·
              refine lv_iload_n hx hb d_C_leastWornCleanBlock_18 rfl (lv_at hl 1 rfl) ?_
              refine lv_iconst (v := (-1)) hx hb d_C_leastWornCleanBlock_19 (by decide) ?_
              refine lv_icmp_eq (tgt := 38) hx hb d_C_leastWornCleanBlock_20 (by decide) (fun c20 => ?_) (fun c20 => ?_)
              ·
                exact absurd c20 (nm_ne (by omega) (by decide))
              ·
                refine lv_aload_n hx hb d_C_leastWornCleanBlock_23 rfl (lv_at hl 0 rfl) ?_
                refine va_get (D := (dC, dI)) (ci := 0) (v := .ref (ad 9)) (C := R_C) (T := F_C) (N := 5) hx hb hts (fun w h => List.mem_cons_of_mem _ (in_C w h)) hown hK hP 2 rfl rfl 1 (by decide) (hts (.fieldLink R_C 15 R_C "wear" "[I") (List.mem_cons_of_mem _ t_35)) (fun _ h9 => h9) rfl d_C_leastWornCleanBlock_24 ?_
                refine lv_iload_n hx hb d_C_leastWornCleanBlock_27 rfl (lv_at hl 2 rfl) ?_
                refine va_iald hx hb hK hP 9 4 rfl rfl (vp_in_nI (by omega) (by decide)) d_C_leastWornCleanBlock_28 ?_
                refine tp_i (y := wr k) (by rw [nI_clamp (by omega)]) ?_
                refine lv_aload_n hx hb d_C_leastWornCleanBlock_29 rfl (lv_at hl 0 rfl) ?_
                refine va_get (D := (dC, dI)) (ci := 0) (v := .ref (ad 9)) (C := R_C) (T := F_C) (N := 5) hx hb hts (fun w h => List.mem_cons_of_mem _ (in_C w h)) hown hK hP 2 rfl rfl 1 (by decide) (hts (.fieldLink R_C 15 R_C "wear" "[I") (List.mem_cons_of_mem _ t_35)) (fun _ h9 => h9) rfl d_C_leastWornCleanBlock_30 ?_
                refine lv_iload_n hx hb d_C_leastWornCleanBlock_33 rfl (lv_at hl 1 rfl) ?_
                refine va_iald hx hb hK hP 9 4 rfl rfl (vp_in_nI (by omega) (by decide)) d_C_leastWornCleanBlock_34 ?_
                refine tp_i (y := wr c) (by rw [nI_clamp (by omega)]) ?_
                refine lv_icmp_ge (tgt := 40) hx hb d_C_leastWornCleanBlock_35 (by decide) (fun c35 => ?_) (fun c35 => ?_)
                ·
                  refine lv_iinc (k := 2) (v := nI (k + 1)) hx hb d_C_leastWornCleanBlock_40 hl rfl (nI_1 _) (by decide) rfl (fun ls hl => ?_)
                  have hl : lv_has ls 3 [(2, .int (nI (k + 1))), (0, .ref (ad 2)), (1, .int (nI c))] := hl
                  refine lv_goto (tgt := 4) hx hb d_C_leastWornCleanBlock_43 (by decide) ?_
                  exact ih4 (k + 1) (nI c) ls (by omega) (by omega) (by first | exact hbv | exact PG.m1 | exact PG.of (by omega)) (fun b hb hcl => by first | exact nm_ne (by omega) (by decide) | exact (fun q => if e : b = k then (by subst e; exact absurd hcl hb12) else hc b (by omega) hcl q)) (lv_sub hl [1, 2, 0] rfl)
                ·
                  refine lv_iload_n hx hb d_C_leastWornCleanBlock_38 rfl (lv_at hl 2 rfl) ?_
                  refine lv_istore_n hx hb d_C_leastWornCleanBlock_39 rfl hl (by decide) rfl (fun ls hl => ?_)
                  have hl : lv_has ls 3 [(1, .int (nI k)), (0, .ref (ad 2)), (2, .int (nI k))] := hl
                  refine lv_iinc (k := 2) (v := nI (k + 1)) hx hb d_C_leastWornCleanBlock_40 hl rfl (nI_1 _) (by decide) rfl (fun ls hl => ?_)
                  have hl : lv_has ls 3 [(2, .int (nI (k + 1))), (1, .int (nI k)), (0, .ref (ad 2))] := hl
                  refine lv_goto (tgt := 4) hx hb d_C_leastWornCleanBlock_43 (by decide) ?_
                  exact ih4 (k + 1) (nI k) ls (by omega) (by omega) (by first | exact hbv | exact PG.m1 | exact PG.of (by omega)) (fun b hb hcl => by first | exact nm_ne (by omega) (by decide) | exact (fun q => if e : b = k then (by subst e; exact absurd hcl hb12) else hc b (by omega) hcl q)) (lv_sub hl [2, 1, 0] rfl)
        ·
          refine lv_if_eq (tgt := 40) hx hb d_C_leastWornCleanBlock_15 (by decide) (fun c15 => ?_) (fun c15 => ?_)
          ·
            refine lv_iinc (k := 2) (v := nI (k + 1)) hx hb d_C_leastWornCleanBlock_40 hl rfl (nI_1 _) (by decide) rfl (fun ls hl => ?_)
            have hl : lv_has ls 3 [(2, .int (nI (k + 1))), (0, .ref (ad 2)), (1, .int bv)] := hl
            refine lv_goto (tgt := 4) hx hb d_C_leastWornCleanBlock_43 (by decide) ?_
            exact ih4 (k + 1) bv ls (by omega) (by omega) (by first | exact hbv | exact PG.m1 | exact PG.of (by omega)) (fun b hb hcl => by first | exact nm_ne (by omega) (by decide) | exact (fun q => if e : b = k then (by subst e; exact absurd hcl hb12) else hc b (by omega) hcl q)) (lv_sub hl [1, 2, 0] rfl)
          ·
            exact absurd c15 (by decide)
  exact lp4 _ 0 (-1) ls (Nat.lt_succ_self _) (by omega) PG.m1 (fun b hb => absurd hb (Nat.not_lt_zero b)) (lv_sub hl [2, 1, 0] rfl)
