set_option maxHeartbeats 4000000 in
set_option maxRecDepth 100000 in
theorem c_S_restore_f (l : Launch) (dC : Nat → ClassId) (dI : Nat → Nat → Nat) (ad cd : Nat → Nat) (sz : Nat) (w wr fl : Nat → Int32) (pw sc : Int32) (lw rot vb : Nat → Int32) (rec tk : Int32) (live row : Nat → Int32) (cur ser dur wo : Int32) (bts : Nat → Int32) (us : Int32) (act : Nat → Int32) (rd rs : Int32)  (hw : ∀ i, i < 512 → w i = -1) : Met l y_S_restore w_S_restore ({ frames := 3, cells := 0, slots := 0, locals := 67 }) (xP (dC, dI) vwCl (xt cd) (xw ad cd w wr fl pw sc lw rot vb rec tk live row cur ser dur wo bts us act rd rs) sz [.ref (ad 1), .ref (ad 3)]) (va_Qv (fun (u : Nat → Int32) => ∀ i, i < 16 → u i = -1) (fun (u : Nat → Int32) (t : State) => xB (dC, dI) vwCl (xt cd) (xA 15 ad sz) (xw ad cd w wr fl pw sc lw rot vb (nI 0) (nI 0) u row (-1) (nI 0) (nI 0) (nI 0) bts us act rd rs) t) (xA 15 ad sz)) 0 0 (xA 15 ad sz) := by
  refine Met.ofW (cc := b_S_restore) (maxL := 5) (ret := none) (by decide) rfl ?_
  intro P e s m args below meth c0 s₁ B hml hv
  obtain ⟨rfl, hsz, hP, hK, hD0⟩ := hv
  have hx := B.exec
  have hb := B.bytes
  have hr := B.returns
  have hts := atoms_spec (ws := w_S_restore) B.pre
  have hown : s.vm.findClass R_S = some m.cls := findClass_of_methodNamed B.named
  have hlocks := B.notSynchronized
  subst hsz
  have hD := xw_D (sz := s.heap.size) hD0
  have hS : va_S (xA 15 ad s.heap.size) s.heap s.heap [] := va_S.rf
  have hA : ∀ q : Nat, s.heap.size ≤ q → (xA 15 ad s.heap.size) q := fun q h => Or.inr h
  have hl := lv_entry ([.ref (ad 1), .ref (ad 3)]) (n := 5) (Nat.le_of_ble_eq_true rfl)
  rw [lg_entry_eq]
  generalize (lg_sl ([.ref (ad 1), .ref (ad 3)]) ++ List.replicate (5 - (lg_sl ([.ref (ad 1), .ref (ad 3)])).length) Slot.unset).toArray = ls at hl ⊢
  have hl : lv_has ls 5 [(0, .ref (ad 1)), (1, .ref (ad 3))] := hl
  refine lv_aload_n hx hb d_S_restore_0 rfl (lv_at hl 0 rfl) ?_
  have hSz := hS.1
  refine va_calli (va_runV (C := R_S) (As := []) (rest := []) ⟨hx, hb, hml, hown, hts⟩ (c_S_findNewestPages_f l dC dI ad cd s.heap.size w wr fl pw sc lw rot vb rec tk live row cur ser dur wo bts us act rd rs  (hw)) (cwV 0 hts (g_V t_156 t_158 s_1 t_2 t_159) rfl rfl rfl (by decide +kernel) ⟨by decide, by decide⟩) (xP_v hP hK hD 1 rfl rfl) rfl rfl hl.1 rfl (lv_room (Nat.le_of_ble_eq_true rfl)) d_S_restore_1 ⟨Nat.le_refl _, Nat.le_refl _⟩) hS (fun q _ h => xA_up hS.1 q h) (fun q h => xA_up hS.1 q h) (fun r1 u1 t H1 locs1 ht hvm q1 hB hz1 hk1 hS => ?_)
  obtain ⟨hP1, hK1, hD1⟩ := hB
  rw [ht] at hP1
  have hD : va_D (xA 15 ad s.heap.size) (xw ad cd w wr fl pw sc lw rot vb rec tk u1 row cur ser dur wo bts us act rd rs) := hD1.weaken (fun _ q _ h => xA_up hSz _ h)
  have hP : va_P (dC, dI) vwCl (xw ad cd w wr fl pw sc lw rot vb rec tk u1 row cur ser dur wo bts us act rd rs) H1 := hP1
  generalize H1 = H at hP hS ⊢
  generalize locs1 = locs at hS ⊢
  obtain ⟨rfl, hlv⟩ := q1
  refine lv_istore_n hx hb d_S_restore_4 rfl hl (by decide) rfl (fun ls hl => ?_)
  have hl : lv_has ls 5 [(2, .int (-1)), (0, .ref (ad 1)), (1, .ref (ad 3))] := hl
  refine lv_aload_n hx hb d_S_restore_5 rfl (lv_at hl 1 rfl) ?_
  refine lv_iload_n hx hb d_S_restore_6 rfl (lv_at hl 0 rfl) ?_
  refine lv_iconst (v := (-1)) hx hb d_S_restore_7 (by decide) ?_
  refine lv_icmp_ne (tgt := 15) hx hb d_S_restore_8 (by decide) (fun c8 => ?_) (fun c8 => ?_)
  ·
    exact absurd c8 (by decide)
  ·
    refine lv_iconst (v := (-1)) hx hb d_S_restore_11 (by decide) ?_
    refine lv_goto (tgt := 18) hx hb d_S_restore_12 (by decide) ?_
    refine va_put (D := (dC, dI)) (ci := 3) (v := .int (-1)) (ty := .int) (C := R_S) (T := F_S) (N := 7) hx hb hts (fun w h => List.mem_cons_of_mem _ (in_S w h)) t_S ok_S nm_S hown hK hP hD hS 1 rfl rfl 3 (by decide) (hts (.fieldLink R_S 25 R_S "cursor" "I") (List.mem_cons_of_mem _ t_55)) (fun _ h9 => h9) rfl (by decide +kernel) rfl rfl (Nat.le_of_ble_eq_true rfl) d_S_restore_18 (fun H locs hP hD hS => ?_)
    have hP : va_P (dC, dI) vwCl (xw ad cd w wr fl pw sc lw rot vb rec tk u1 row (-1) ser dur wo bts us act rd rs) H := hP
    have hD : va_D (xA 15 ad s.heap.size) (xw ad cd w wr fl pw sc lw rot vb rec tk u1 row (-1) ser dur wo bts us act rd rs) := hD
    refine lv_aload_n hx hb d_S_restore_21 rfl (lv_at hl 1 rfl) ?_
    refine lv_iload_n hx hb d_S_restore_22 rfl (lv_at hl 0 rfl) ?_
    refine lv_iconst (v := (-1)) hx hb d_S_restore_23 (by decide) ?_
    refine lv_icmp_ne (tgt := 31) hx hb d_S_restore_24 (by decide) (fun c24 => ?_) (fun c24 => ?_)
    ·
      exact absurd c24 (by decide)
    ·
      refine lv_iconst (v := nI 0) hx hb d_S_restore_27 (by decide) ?_
      refine lv_goto (tgt := 40) hx hb d_S_restore_28 (by decide) ?_
      refine va_put (D := (dC, dI)) (ci := 3) (v := .int (nI 0)) (ty := .int) (C := R_S) (T := F_S) (N := 7) hx hb hts (fun w h => List.mem_cons_of_mem _ (in_S w h)) t_S ok_S nm_S hown hK hP hD hS 1 rfl rfl 4 (by decide) (hts (.fieldLink R_S 29 R_S "serial" "I") (List.mem_cons_of_mem _ t_56)) (fun _ h9 => h9) rfl (by decide +kernel) rfl rfl (Nat.le_of_ble_eq_true rfl) d_S_restore_40 (fun H locs hP hD hS => ?_)
      have hP : va_P (dC, dI) vwCl (xw ad cd w wr fl pw sc lw rot vb rec tk u1 row (-1) (nI 0) dur wo bts us act rd rs) H := hP
      have hD : va_D (xA 15 ad s.heap.size) (xw ad cd w wr fl pw sc lw rot vb rec tk u1 row (-1) (nI 0) dur wo bts us act rd rs) := hD
      refine lv_aload_n hx hb d_S_restore_43 rfl (lv_at hl 1 rfl) ?_
      refine lv_iconst (v := nI 0) hx hb d_S_restore_44 (by decide) ?_
      refine va_put (D := (dC, dI)) (ci := 3) (v := .int (nI 0)) (ty := .boolean) (C := R_S) (T := F_S) (N := 7) hx hb hts (fun w h => List.mem_cons_of_mem _ (in_S w h)) t_S ok_S nm_S hown hK hP hD hS 1 rfl rfl 6 (by decide) (hts (.fieldLink R_S 35 R_S "wornOut" "Z") (List.mem_cons_of_mem _ t_58)) (fun _ h9 => h9) rfl (by decide +kernel) (by first | rfl | decide | assumption) rfl (Nat.le_of_ble_eq_true rfl) d_S_restore_45 (fun H locs hP hD hS => ?_)
      have hP : va_P (dC, dI) vwCl (xw ad cd w wr fl pw sc lw rot vb rec tk u1 row (-1) (nI 0) dur (nI 0) bts us act rd rs) H := hP
      have hD : va_D (xA 15 ad s.heap.size) (xw ad cd w wr fl pw sc lw rot vb rec tk u1 row (-1) (nI 0) dur (nI 0) bts us act rd rs) := hD
      refine lv_aload_n hx hb d_S_restore_48 rfl (lv_at hl 2 rfl) ?_
      have hSz := hS.1
      refine va_callv (va_runV (C := R_G) (As := []) (rest := []) ⟨hx, hb, hml, hown, hts⟩ (c_G_empty l dC dI ad cd H.size w wr fl pw sc lw rot vb rec tk u1 row (-1) (nI 0) dur (nI 0) bts us act rd rs  ) (cwV 0 hts (g_V t_178 t_179 t_180 t_4 t_181) rfl rfl rfl (by decide +kernel) ⟨by decide, by decide⟩) (xP_v hP hK hD 3 rfl rfl) rfl rfl hl.1 rfl (lv_room (Nat.le_of_ble_eq_true rfl)) d_S_restore_49 ⟨Nat.le_refl _, Nat.le_refl _⟩) hS (fun q _ h => xA_up hS.1 q h) (fun q h => xA_up hS.1 q h) (fun u49 t H1 locs1 ht hvm q49 hB hz1 hk1 hS => ?_)
      obtain ⟨hP1, hK1, hD1⟩ := hB
      rw [ht] at hP1
      have hD : va_D (xA 15 ad s.heap.size) (xw ad cd w wr fl pw sc lw rot vb (nI 0) (nI 0) u1 row (-1) (nI 0) dur (nI 0) bts us act rd rs) := hD1.weaken (fun _ q _ h => xA_up hSz _ h)
      have hP : va_P (dC, dI) vwCl (xw ad cd w wr fl pw sc lw rot vb (nI 0) (nI 0) u1 row (-1) (nI 0) dur (nI 0) bts us act rd rs) H1 := hP1
      generalize H1 = H at hP hS ⊢
      generalize locs1 = locs at hS ⊢
      refine lv_iconst (v := nI 1) hx hb d_S_restore_52 (by decide) ?_
      refine lv_istore_n hx hb d_S_restore_53 rfl hl (by decide) rfl (fun ls hl => ?_)
      have hl : lv_has ls 5 [(3, .int (nI 1)), (2, .int (-1)), (0, .ref (ad 1)), (1, .ref (ad 3))] := hl
      refine lv_iconst (v := nI 0) hx hb d_S_restore_54 (by decide) ?_
      refine lv_istore hx hb d_S_restore_55 hl (by decide) rfl (fun ls hl => ?_)
      have hl : lv_has ls 5 [(4, .int (nI 0)), (3, .int (nI 1)), (2, .int (-1)), (0, .ref (ad 1)), (1, .ref (ad 3))] := hl
      have lp57 : ∀ (n : Nat) (k : Nat) (gv : Int32) (lv : Nat → Int32) (H : Heap) (locs : List Loc) (ls : Array Slot), (16 - k) < n → (k ≤ 16) → (∀ i, i < 16 → lv i = -1) → lv_has ls 5 [(0, .ref (ad 1)), (1, .ref (ad 3)), (3, .int gv), (4, .int (nI k))] → va_P (dC, dI) vwCl (xw ad cd w wr fl pw sc lw rot vb (nI 0) (nI 0) lv row (-1) (nI 0) dur (nI 0) bts us act rd rs) H → va_D (xA 15 ad s.heap.size) (xw ad cd w wr fl pw sc lw rot vb (nI 0) (nI 0) lv row (-1) (nI 0) dur (nI 0) bts us act rd rs) → va_S (xA 15 ad s.heap.size) s.heap H locs → W P l e (headSpec w_S_restore ({ frames := 3, cells := 0, slots := 0, locals := 67 })).room s m (([.ref (ad 1), .ref (ad 3)] : List Value).toArray) below meth c0 H locs 0 0 (MQ below (va_Qv (fun (u : Nat → Int32) => ∀ i, i < 16 → u i = -1) (fun (u : Nat → Int32) (t : State) => xB (dC, dI) vwCl (xt cd) (xA 15 ad s.heap.size) (xw ad cd w wr fl pw sc lw rot vb (nI 0) (nI 0) u row (-1) (nI 0) (nI 0) (nI 0) bts us act rd rs) t) (xA 15 ad s.heap.size)) (([.ref (ad 1), .ref (ad 3)] : List Value).toArray) s 0 0 (xA 15 ad s.heap.size)) (F0 m 57 ls []) := by
        intro n
        induction n with
        | zero => intro k gv lv H locs ls hm; intros; omega
        | succ n ih57 =>
          intro k gv lv H locs ls hm hk hf hl hP hD hS
          refine lv_iload hx hb d_S_restore_57 (lv_at hl 3 rfl) ?_
          refine lv_bipush (v := nI 16) hx hb d_S_restore_59 (by decide) ?_
          refine lv_icmp_ge (tgt := 128) hx hb d_S_restore_61 (by decide) (fun c61 => ?_) (fun c61 => ?_)
          ·
            have c61 := cd_ge_t (by omega) (by omega) c61
            refine lv_aload_n hx hb d_S_restore_128 rfl (lv_at hl 0 rfl) ?_
            refine lv_aload_n hx hb d_S_restore_129 rfl (lv_at hl 1 rfl) ?_
            refine vp_callSi (va_runV (C := R_G) (As := []) (rest := [.ref (ad 1)]) ⟨hx, hb, hml, hown, hts⟩ (c_G_recordCount l dC dI ad cd w wr fl pw sc lw rot vb (nI 0) (nI 0) lv row (-1) (nI 0) dur (nI 0) bts us act rd rs  ) (cwV 0 hts (g_V t_209 t_210 t_211 t_4 t_212) rfl rfl rfl (by decide +kernel) ⟨by decide, by decide⟩) (xR_v hP hK 3 rfl rfl) rfl rfl hl.1 rfl (lv_room (Nat.le_of_ble_eq_true rfl)) d_S_restore_130 ⟨Nat.le_refl _, Nat.le_refl _⟩).run (fun r130 q130 => ?_)
            subst q130
            refine va_put (D := (dC, dI)) (ci := 3) (v := .int (nI 0)) (ty := .int) (C := R_S) (T := F_S) (N := 7) hx hb hts (fun w h => List.mem_cons_of_mem _ (in_S w h)) t_S ok_S nm_S hown hK hP hD hS 1 rfl rfl 5 (by decide) (hts (.fieldLink R_S 32 R_S "durable" "I") (List.mem_cons_of_mem _ t_57)) (fun _ h9 => h9) rfl (by decide +kernel) rfl rfl (Nat.le_of_ble_eq_true rfl) d_S_restore_133 (fun H locs hP hD hS => ?_)
            have hP : va_P (dC, dI) vwCl (xw ad cd w wr fl pw sc lw rot vb (nI 0) (nI 0) lv row (-1) (nI 0) (nI 0) (nI 0) bts us act rd rs) H := hP
            have hD : va_D (xA 15 ad s.heap.size) (xw ad cd w wr fl pw sc lw rot vb (nI 0) (nI 0) lv row (-1) (nI 0) (nI 0) (nI 0) bts us act rd rs) := hD
            exact W.vret hx hb hr (fun t ht hW => ⟨⟨lv, rfl, fun i hi => hf i hi, ⟨by rw [ht]; exact hP, va_K.moved hW.alike hK, hD⟩⟩, hS.F ht⟩) hS.2.2 d_S_restore_136
          ·
            have c61 := cd_ge_f (by omega) (by omega) c61
            refine lv_iload_n hx hb d_S_restore_64 rfl (lv_at hl 2 rfl) ?_
            refine lv_if_eq (tgt := 83) hx hb d_S_restore_65 (by decide) (fun c65 => ?_) (fun c65 => ?_)
            ·
              refine lv_iconst (v := nI 0) hx hb d_S_restore_83 (by decide) ?_
              refine lv_istore_n hx hb d_S_restore_84 rfl hl (by decide) rfl (fun ls hl => ?_)
              have hl : lv_has ls 5 [(3, .int (nI 0)), (0, .ref (ad 1)), (1, .ref (ad 3)), (4, .int (nI k))] := hl
              refine lv_iload_n hx hb d_S_restore_85 rfl (lv_at hl 0 rfl) ?_
              refine lv_if_eq (tgt := 114) hx hb d_S_restore_86 (by decide) (fun c86 => ?_) (fun c86 => ?_)
              ·
                refine lv_aload_n hx hb d_S_restore_114 rfl (lv_at hl 1 rfl) ?_
                refine va_get (D := (dC, dI)) (ci := 3) (v := .ref (ad 6)) (C := R_S) (T := F_S) (N := 7) hx hb hts (fun w h => List.mem_cons_of_mem _ (in_S w h)) hown hK hP 1 rfl rfl 1 (by decide) (hts (.fieldLink R_S 18 R_S "livePages" "[I") (List.mem_cons_of_mem _ t_53)) (fun _ h9 => h9) rfl d_S_restore_115 ?_
                refine lv_iload hx hb d_S_restore_118 (lv_at hl 3 rfl) ?_
                refine lv_iconst (v := (-1)) hx hb d_S_restore_120 (by decide) ?_
                refine va_iast hx hb hK hP hD hS 6 1 rfl rfl (vp_in_nI (by omega) (by decide)) d_S_restore_121 (fun H locs hP hD hS => ?_)
                rw [nI_clamp (by omega)] at hP hD
                have hP : va_P (dC, dI) vwCl (xw ad cd w wr fl pw sc lw rot vb (nI 0) (nI 0) (upd lv k (-1)) row (-1) (nI 0) dur (nI 0) bts us act rd rs) H := hP
                have hD : va_D (xA 15 ad s.heap.size) (xw ad cd w wr fl pw sc lw rot vb (nI 0) (nI 0) (upd lv k (-1)) row (-1) (nI 0) dur (nI 0) bts us act rd rs) := hD
                refine lv_iinc (k := 3) (v := nI (k + 1)) hx hb d_S_restore_122 hl rfl (nI_1 _) (by decide) rfl (fun ls hl => ?_)
                have hl : lv_has ls 5 [(4, .int (nI (k + 1))), (3, .int (nI 0)), (0, .ref (ad 1)), (1, .ref (ad 3))] := hl
                refine lv_goto (tgt := 57) hx hb d_S_restore_125 (by decide) ?_
                exact ih57 (k + 1) (nI 0) (upd lv k (-1)) H locs ls (by omega) (by omega) (upd_all hf) (lv_sub hl [2, 3, 1, 0] rfl) hP hD hS
              ·
                exact absurd c86 (by decide)
            ·
              refine lv_aload_n hx hb d_S_restore_68 rfl (lv_at hl 0 rfl) ?_
              refine va_get (D := (dC, dI)) (ci := 3) (v := .ref (ad 6)) (C := R_S) (T := F_S) (N := 7) hx hb hts (fun w h => List.mem_cons_of_mem _ (in_S w h)) hown hK hP 1 rfl rfl 1 (by decide) (hts (.fieldLink R_S 18 R_S "livePages" "[I") (List.mem_cons_of_mem _ t_53)) (fun _ h9 => h9) rfl d_S_restore_69 ?_
              refine lv_iload hx hb d_S_restore_72 (lv_at hl 3 rfl) ?_
              refine va_iald hx hb hK hP 6 1 rfl rfl (vp_in_nI (by omega) (by decide)) d_S_restore_74 ?_
              refine tp_i (y := lv k) (by rw [nI_clamp (by omega)]) ?_
              refine lv_iconst (v := (-1)) hx hb d_S_restore_75 (by decide) ?_
              refine lv_icmp_eq (tgt := 83) hx hb d_S_restore_76 (by decide) (fun c76 => ?_) (fun c76 => ?_)
              ·
                refine lv_iconst (v := nI 0) hx hb d_S_restore_83 (by decide) ?_
                refine lv_istore_n hx hb d_S_restore_84 rfl hl (by decide) rfl (fun ls hl => ?_)
                have hl : lv_has ls 5 [(3, .int (nI 0)), (0, .ref (ad 1)), (1, .ref (ad 3)), (4, .int (nI k))] := hl
                refine lv_iload_n hx hb d_S_restore_85 rfl (lv_at hl 0 rfl) ?_
                refine lv_if_eq (tgt := 114) hx hb d_S_restore_86 (by decide) (fun c86 => ?_) (fun c86 => ?_)
                ·
                  refine lv_aload_n hx hb d_S_restore_114 rfl (lv_at hl 1 rfl) ?_
                  refine va_get (D := (dC, dI)) (ci := 3) (v := .ref (ad 6)) (C := R_S) (T := F_S) (N := 7) hx hb hts (fun w h => List.mem_cons_of_mem _ (in_S w h)) hown hK hP 1 rfl rfl 1 (by decide) (hts (.fieldLink R_S 18 R_S "livePages" "[I") (List.mem_cons_of_mem _ t_53)) (fun _ h9 => h9) rfl d_S_restore_115 ?_
                  refine lv_iload hx hb d_S_restore_118 (lv_at hl 3 rfl) ?_
                  refine lv_iconst (v := (-1)) hx hb d_S_restore_120 (by decide) ?_
                  refine va_iast hx hb hK hP hD hS 6 1 rfl rfl (vp_in_nI (by omega) (by decide)) d_S_restore_121 (fun H locs hP hD hS => ?_)
                  rw [nI_clamp (by omega)] at hP hD
                  have hP : va_P (dC, dI) vwCl (xw ad cd w wr fl pw sc lw rot vb (nI 0) (nI 0) (upd lv k (-1)) row (-1) (nI 0) dur (nI 0) bts us act rd rs) H := hP
                  have hD : va_D (xA 15 ad s.heap.size) (xw ad cd w wr fl pw sc lw rot vb (nI 0) (nI 0) (upd lv k (-1)) row (-1) (nI 0) dur (nI 0) bts us act rd rs) := hD
                  refine lv_iinc (k := 3) (v := nI (k + 1)) hx hb d_S_restore_122 hl rfl (nI_1 _) (by decide) rfl (fun ls hl => ?_)
                  have hl : lv_has ls 5 [(4, .int (nI (k + 1))), (3, .int (nI 0)), (0, .ref (ad 1)), (1, .ref (ad 3))] := hl
                  refine lv_goto (tgt := 57) hx hb d_S_restore_125 (by decide) ?_
                  exact ih57 (k + 1) (nI 0) (upd lv k (-1)) H locs ls (by omega) (by omega) (upd_all hf) (lv_sub hl [2, 3, 1, 0] rfl) hP hD hS
                ·
                  exact absurd c86 (by decide)
              ·
                exact absurd (hf k (by omega)) c76
      exact lp57 _ 0 (nI 1) u1 H locs ls (Nat.lt_succ_self _) (by omega) hlv (lv_sub hl [3, 4, 1, 0] rfl) hP hD hS
set_option maxHeartbeats 4000000 in
set_option maxRecDepth 100000 in
theorem c_R_forgetReadings (l : Launch) (dC : Nat → ClassId) (dI : Nat → Nat → Nat) (ad cd : Nat → Nat) (sz : Nat) (w wr fl : Nat → Int32) (pw sc : Int32) (lw rot vb : Nat → Int32) (rec tk : Int32) (live row : Nat → Int32) (cur ser dur wo : Int32) (bts : Nat → Int32) (us : Int32) (act : Nat → Int32) (rd rs : Int32)  : Met l y_R_forgetReadings w_R_forgetReadings ({ frames := 0, cells := 0, slots := 0, locals := 0 }) (xP (dC, dI) vwCl (xt cd) (xw ad cd w wr fl pw sc lw rot vb rec tk live row cur ser dur wo bts us act rd rs) sz [.ref (ad 0)]) (va_Qv (fun (u : Unit) => True) (fun (u : Unit) (t : State) => xB (dC, dI) vwCl (xt cd) (xA 15 ad sz) (xw ad cd w wr fl pw sc lw rot vb rec tk live row cur ser dur wo bts us act (nI 0) (nI 0)) t) (xA 15 ad sz)) 0 0 (xA 15 ad sz) := by
  refine Met.ofW (cc := b_R_forgetReadings) (maxL := 1) (ret := none) (by decide) rfl ?_
  intro P e s m args below meth c0 s₁ B hml hv
  obtain ⟨rfl, hsz, hP, hK, hD0⟩ := hv
  have hx := B.exec
  have hb := B.bytes
  have hr := B.returns
  have hts := atoms_spec (ws := w_R_forgetReadings) B.pre
  have hown : s.vm.findClass R_R = some m.cls := findClass_of_methodNamed B.named
  have hlocks := B.notSynchronized
  subst hsz
  have hD := xw_D (sz := s.heap.size) hD0
  have hS : va_S (xA 15 ad s.heap.size) s.heap s.heap [] := va_S.rf
  have hA : ∀ q : Nat, s.heap.size ≤ q → (xA 15 ad s.heap.size) q := fun q h => Or.inr h
  have hl := lv_entry ([.ref (ad 0)]) (n := 1) (Nat.le_of_ble_eq_true rfl)
  rw [lg_entry_eq]
  generalize (lg_sl ([.ref (ad 0)]) ++ List.replicate (1 - (lg_sl ([.ref (ad 0)])).length) Slot.unset).toArray = ls at hl ⊢
  have hl : lv_has ls 1 [(0, .ref (ad 0))] := hl
  refine lv_aload_n hx hb d_R_forgetReadings_0 rfl (lv_at hl 0 rfl) ?_
  refine lv_iconst (v := nI 0) hx hb d_R_forgetReadings_1 (by decide) ?_
  refine va_put (D := (dC, dI)) (ci := 4) (v := .int (nI 0)) (ty := .int) (C := R_R) (T := F_R) (N := 7) hx hb hts (fun w h => List.mem_cons_of_mem _ (in_R w h)) t_R ok_R nm_R hown hK hP hD hS 0 rfl rfl 5 (by decide) (hts (.fieldLink R_R 41 R_R "readings" "I") (List.mem_cons_of_mem _ t_119)) (fun _ h9 => h9) rfl (by decide +kernel) rfl rfl (Nat.le_of_ble_eq_true rfl) d_R_forgetReadings_2 (fun H locs hP hD hS => ?_)
  have hP : va_P (dC, dI) vwCl (xw ad cd w wr fl pw sc lw rot vb rec tk live row cur ser dur wo bts us act (nI 0) rs) H := hP
  have hD : va_D (xA 15 ad s.heap.size) (xw ad cd w wr fl pw sc lw rot vb rec tk live row cur ser dur wo bts us act (nI 0) rs) := hD
  refine lv_aload_n hx hb d_R_forgetReadings_5 rfl (lv_at hl 0 rfl) ?_
  refine lv_iconst (v := nI 0) hx hb d_R_forgetReadings_6 (by decide) ?_
  refine va_put (D := (dC, dI)) (ci := 4) (v := .int (nI 0)) (ty := .int) (C := R_R) (T := F_R) (N := 7) hx hb hts (fun w h => List.mem_cons_of_mem _ (in_R w h)) t_R ok_R nm_R hown hK hP hD hS 0 rfl rfl 6 (by decide) (hts (.fieldLink R_R 45 R_R "readSteps" "I") (List.mem_cons_of_mem _ t_120)) (fun _ h9 => h9) rfl (by decide +kernel) rfl rfl (Nat.le_of_ble_eq_true rfl) d_R_forgetReadings_7 (fun H locs hP hD hS => ?_)
  have hP : va_P (dC, dI) vwCl (xw ad cd w wr fl pw sc lw rot vb rec tk live row cur ser dur wo bts us act (nI 0) (nI 0)) H := hP
  have hD : va_D (xA 15 ad s.heap.size) (xw ad cd w wr fl pw sc lw rot vb rec tk live row cur ser dur wo bts us act (nI 0) (nI 0)) := hD
  exact W.vret hx hb hr (fun t ht hW => ⟨⟨(), rfl, by first | rfl | trivial | omega, ⟨by rw [ht]; exact hP, va_K.moved hW.alike hK, hD⟩⟩, hS.F ht⟩) hS.2.2 d_R_forgetReadings_10
set_option maxHeartbeats 4000000 in
set_option maxRecDepth 100000 in
theorem c_R_crash (l : Launch) (dC : Nat → ClassId) (dI : Nat → Nat → Nat) (ad cd : Nat → Nat) (sz : Nat) (w wr fl : Nat → Int32) (pw sc : Int32) (lw rot vb : Nat → Int32) (rec tk : Int32) (live row : Nat → Int32) (cur ser dur wo : Int32) (bts : Nat → Int32) (us : Int32) (act : Nat → Int32) (rd rs : Int32)  : Met l y_R_crash w_R_crash ({ frames := 1, cells := 0, slots := 0, locals := 20 }) (xP (dC, dI) vwCl (xt cd) (xw ad cd w wr fl (nI 1) (-1) lw rot vb (nI 0) (nI 0) live row (-1) (nI 0) (nI 0) (nI 0) bts (nI 0) act (nI 0) (nI 0)) sz [.ref (ad 0)]) (va_Qv (fun (u : Unit) => True) (fun (u : Unit) (t : State) => xB (dC, dI) vwCl (xt cd) (xA 15 ad sz) (xw ad cd w wr fl (nI 0) (-1) lw rot vb (nI 0) (nI 0) live row (-1) (nI 0) (nI 0) (nI 0) bts (nI 0) act (nI 0) (nI 0)) t) (xA 15 ad sz)) 0 0 (xA 15 ad sz) := by
  refine Met.ofW (cc := b_R_crash) (maxL := 1) (ret := none) (by decide) rfl ?_
  intro P e s m args below meth c0 s₁ B hml hv
  obtain ⟨rfl, hsz, hP, hK, hD0⟩ := hv
  have hx := B.exec
  have hb := B.bytes
  have hr := B.returns
  have hts := atoms_spec (ws := w_R_crash) B.pre
  have hown : s.vm.findClass R_R = some m.cls := findClass_of_methodNamed B.named
  have hlocks := B.notSynchronized
  subst hsz
  have hD := xw_D (sz := s.heap.size) hD0
  have hS : va_S (xA 15 ad s.heap.size) s.heap s.heap [] := va_S.rf
  have hA : ∀ q : Nat, s.heap.size ≤ q → (xA 15 ad s.heap.size) q := fun q h => Or.inr h
  have hl := lv_entry ([.ref (ad 0)]) (n := 1) (Nat.le_of_ble_eq_true rfl)
  rw [lg_entry_eq]
  generalize (lg_sl ([.ref (ad 0)]) ++ List.replicate (1 - (lg_sl ([.ref (ad 0)])).length) Slot.unset).toArray = ls at hl ⊢
  have hl : lv_has ls 1 [(0, .ref (ad 0))] := hl
  refine lv_aload_n hx hb d_R_crash_0 rfl (lv_at hl 0 rfl) ?_
  refine va_get (D := (dC, dI)) (ci := 4) (v := .ref (ad 2)) (C := R_R) (T := F_R) (N := 7) hx hb hts (fun w h => List.mem_cons_of_mem _ (in_R w h)) hown hK hP 0 rfl rfl 1 (by decide) (hts (.fieldLink R_R 20 R_R "chip" "LWeighRecorder$Chip;") (List.mem_cons_of_mem _ t_115)) (fun _ h9 => h9) rfl d_R_crash_1 ?_
  have hSz := hS.1
  refine va_callv (va_runV (C := R_C) (As := []) (rest := []) ⟨hx, hb, hml, hown, hts⟩ (c_C_turnOff l dC dI ad cd s.heap.size w wr fl (nI 1) (-1) lw rot vb (nI 0) (nI 0) live row (-1) (nI 0) (nI 0) (nI 0) bts (nI 0) act (nI 0) (nI 0)  ) (cwV 0 hts (g_V t_140 t_141 t_142 t_3 t_143) rfl rfl rfl (by decide +kernel) ⟨by decide, by decide⟩) (xP_v hP hK hD 2 rfl rfl) rfl rfl hl.1 rfl (lv_room (Nat.le_of_ble_eq_true rfl)) d_R_crash_4 ⟨Nat.le_refl _, Nat.le_refl _⟩) hS (fun q _ h => xA_up hS.1 q h) (fun q h => xA_up hS.1 q h) (fun u4 t H1 locs1 ht hvm q4 hB hz1 hk1 hS => ?_)
  obtain ⟨hP1, hK1, hD1⟩ := hB
  rw [ht] at hP1
  have hD : va_D (xA 15 ad s.heap.size) (xw ad cd w wr fl (nI 0) (-1) lw rot vb (nI 0) (nI 0) live row (-1) (nI 0) (nI 0) (nI 0) bts (nI 0) act (nI 0) (nI 0)) := hD1.weaken (fun _ q _ h => xA_up hSz _ h)
  have hP : va_P (dC, dI) vwCl (xw ad cd w wr fl (nI 0) (-1) lw rot vb (nI 0) (nI 0) live row (-1) (nI 0) (nI 0) (nI 0) bts (nI 0) act (nI 0) (nI 0)) H1 := hP1
  generalize H1 = H at hP hS ⊢
  generalize locs1 = locs at hS ⊢
  exact W.vret hx hb hr (fun t ht hW => ⟨⟨(), rfl, by first | rfl | trivial | omega, ⟨by rw [ht]; exact hP, va_K.moved hW.alike hK, hD⟩⟩, hS.F ht⟩) hS.2.2 d_R_crash_7
set_option maxHeartbeats 4000000 in
set_option maxRecDepth 100000 in
theorem c_R_mount_f (l : Launch) (dC : Nat → ClassId) (dI : Nat → Nat → Nat) (ad cd : Nat → Nat) (sz : Nat) (w wr fl : Nat → Int32) (pw sc : Int32) (lw rot vb : Nat → Int32) (rec tk : Int32) (live row : Nat → Int32) (cur ser dur wo : Int32) (bts : Nat → Int32) (us : Int32) (act : Nat → Int32) (rd rs : Int32)  (hw : ∀ i, i < 512 → w i = -1) : Met l y_R_mount w_R_mount ({ frames := 4, cells := 0, slots := 0, locals := 91 }) (xP (dC, dI) vwCl (xt cd) (xw ad cd w wr fl (nI 1) (-1) lw rot vb (nI 0) (nI 0) live row (-1) (nI 0) (nI 0) (nI 0) bts (nI 0) act (nI 0) (nI 0)) sz [.ref (ad 0)]) (va_Qi (fun r (u : Nat → Int32) => r = nI 0) (fun (u : Nat → Int32) (t : State) => xB (dC, dI) vwCl (xt cd) (xA 15 ad sz) (xw ad cd w wr fl (nI 1) (-1) lw rot vb (nI 0) (nI 0) u row (-1) (nI 0) (nI 0) (nI 0) bts (nI 0) act (nI 0) (nI 0)) t) (xA 15 ad sz)) 0 0 (xA 15 ad sz) := by
  refine Met.ofW (cc := b_R_mount) (maxL := 1) (ret := (some (.int))) (by decide) rfl ?_
  intro P e s m args below meth c0 s₁ B hml hv
  obtain ⟨rfl, hsz, hP, hK, hD0⟩ := hv
  have hx := B.exec
  have hb := B.bytes
  have hr := B.returns
  have hts := atoms_spec (ws := w_R_mount) B.pre
  have hown : s.vm.findClass R_R = some m.cls := findClass_of_methodNamed B.named
  have hlocks := B.notSynchronized
  subst hsz
  have hD := xw_D (sz := s.heap.size) hD0
  have hS : va_S (xA 15 ad s.heap.size) s.heap s.heap [] := va_S.rf
  have hA : ∀ q : Nat, s.heap.size ≤ q → (xA 15 ad s.heap.size) q := fun q h => Or.inr h
  have hl := lv_entry ([.ref (ad 0)]) (n := 1) (Nat.le_of_ble_eq_true rfl)
  rw [lg_entry_eq]
  generalize (lg_sl ([.ref (ad 0)]) ++ List.replicate (1 - (lg_sl ([.ref (ad 0)])).length) Slot.unset).toArray = ls at hl ⊢
  have hl : lv_has ls 1 [(0, .ref (ad 0))] := hl
  refine lv_aload_n hx hb d_R_mount_0 rfl (lv_at hl 0 rfl) ?_
  refine va_get (D := (dC, dI)) (ci := 4) (v := .ref (ad 2)) (C := R_R) (T := F_R) (N := 7) hx hb hts (fun w h => List.mem_cons_of_mem _ (in_R w h)) hown hK hP 0 rfl rfl 1 (by decide) (hts (.fieldLink R_R 20 R_R "chip" "LWeighRecorder$Chip;") (List.mem_cons_of_mem _ t_115)) (fun _ h9 => h9) rfl d_R_mount_1 ?_
  have hSz := hS.1
  refine va_callv (va_runV (C := R_C) (As := []) (rest := []) ⟨hx, hb, hml, hown, hts⟩ (c_C_turnOff l dC dI ad cd s.heap.size w wr fl (nI 1) (-1) lw rot vb (nI 0) (nI 0) live row (-1) (nI 0) (nI 0) (nI 0) bts (nI 0) act (nI 0) (nI 0)  ) (cwV 0 hts (g_V t_140 t_141 t_142 t_3 t_143) rfl rfl rfl (by decide +kernel) ⟨by decide, by decide⟩) (xP_v hP hK hD 2 rfl rfl) rfl rfl hl.1 rfl (lv_room (Nat.le_of_ble_eq_true rfl)) d_R_mount_4 ⟨Nat.le_refl _, Nat.le_refl _⟩) hS (fun q _ h => xA_up hS.1 q h) (fun q h => xA_up hS.1 q h) (fun u4 t H1 locs1 ht hvm q4 hB hz1 hk1 hS => ?_)
  obtain ⟨hP1, hK1, hD1⟩ := hB
  rw [ht] at hP1
  have hD : va_D (xA 15 ad s.heap.size) (xw ad cd w wr fl (nI 0) (-1) lw rot vb (nI 0) (nI 0) live row (-1) (nI 0) (nI 0) (nI 0) bts (nI 0) act (nI 0) (nI 0)) := hD1.weaken (fun _ q _ h => xA_up hSz _ h)
  have hP : va_P (dC, dI) vwCl (xw ad cd w wr fl (nI 0) (-1) lw rot vb (nI 0) (nI 0) live row (-1) (nI 0) (nI 0) (nI 0) bts (nI 0) act (nI 0) (nI 0)) H1 := hP1
  generalize H1 = H at hP hS ⊢
  generalize locs1 = locs at hS ⊢
  refine lv_aload_n hx hb d_R_mount_7 rfl (lv_at hl 0 rfl) ?_
  have hSz := hS.1
  refine va_callv (va_runV (C := R_R) (As := []) (rest := []) ⟨hx, hb, hml, hown, hts⟩ (c_R_forgetReadings l dC dI ad cd H.size w wr fl (nI 0) (-1) lw rot vb (nI 0) (nI 0) live row (-1) (nI 0) (nI 0) (nI 0) bts (nI 0) act (nI 0) (nI 0)  ) (cwV 0 hts (g_V t_148 t_150 s_0 t_1 t_151) rfl rfl rfl (by decide +kernel) ⟨by decide, by decide⟩) (xP_v hP hK hD 0 rfl rfl) rfl rfl hl.1 rfl (lv_room (Nat.le_of_ble_eq_true rfl)) d_R_mount_8 ⟨Nat.le_refl _, Nat.le_refl _⟩) hS (fun q _ h => xA_up hS.1 q h) (fun q h => xA_up hS.1 q h) (fun u8 t H1 locs1 ht hvm q8 hB hz1 hk1 hS => ?_)
  obtain ⟨hP1, hK1, hD1⟩ := hB
  rw [ht] at hP1
  have hD : va_D (xA 15 ad s.heap.size) (xw ad cd w wr fl (nI 0) (-1) lw rot vb (nI 0) (nI 0) live row (-1) (nI 0) (nI 0) (nI 0) bts (nI 0) act (nI 0) (nI 0)) := hD1.weaken (fun _ q _ h => xA_up hSz _ h)
  have hP : va_P (dC, dI) vwCl (xw ad cd w wr fl (nI 0) (-1) lw rot vb (nI 0) (nI 0) live row (-1) (nI 0) (nI 0) (nI 0) bts (nI 0) act (nI 0) (nI 0)) H1 := hP1
  generalize H1 = H at hP hS ⊢
  generalize locs1 = locs at hS ⊢
  refine lv_aload_n hx hb d_R_mount_11 rfl (lv_at hl 0 rfl) ?_
  refine va_get (D := (dC, dI)) (ci := 4) (v := .ref (ad 1)) (C := R_R) (T := F_R) (N := 7) hx hb hts (fun w h => List.mem_cons_of_mem _ (in_R w h)) hown hK hP 0 rfl rfl 0 (by decide) (hts (.fieldLink R_R 12 R_R "store" "LWeighRecorder$Store;") (List.mem_cons_of_mem _ t_114)) (fun _ h9 => h9) rfl d_R_mount_12 ?_
  refine lv_aload_n hx hb d_R_mount_15 rfl (lv_at hl 0 rfl) ?_
  refine va_get (D := (dC, dI)) (ci := 4) (v := .ref (ad 3)) (C := R_R) (T := F_R) (N := 7) hx hb hts (fun w h => List.mem_cons_of_mem _ (in_R w h)) hown hK hP 0 rfl rfl 2 (by decide) (hts (.fieldLink R_R 26 R_R "log" "LWeighRecorder$Log;") (List.mem_cons_of_mem _ t_116)) (fun _ h9 => h9) rfl d_R_mount_16 ?_
  have hSz := hS.1
  refine va_callv (va_runV (C := R_S) (As := [.ref (ad 3)]) (rest := []) ⟨hx, hb, hml, hown, hts⟩ (c_S_restore_f l dC dI ad cd H.size w wr fl (nI 0) (-1) lw rot vb (nI 0) (nI 0) live row (-1) (nI 0) (nI 0) (nI 0) bts (nI 0) act (nI 0) (nI 0)  (by first | omega | rfl | assumption | decide)) (cwV 1 hts (g_V t_152 t_153 t_154 t_2 t_155) rfl rfl rfl (by decide +kernel) ⟨by decide, by decide⟩) (xP_v hP hK hD 1 rfl rfl) rfl rfl hl.1 rfl (lv_room (Nat.le_of_ble_eq_true rfl)) d_R_mount_19 ⟨Nat.le_refl _, Nat.le_refl _⟩) hS (fun q _ h => xA_up hS.1 q h) (fun q h => xA_up hS.1 q h) (fun u19 t H1 locs1 ht hvm q19 hB hz1 hk1 hS => ?_)
  obtain ⟨hP1, hK1, hD1⟩ := hB
  rw [ht] at hP1
  have hD : va_D (xA 15 ad s.heap.size) (xw ad cd w wr fl (nI 0) (-1) lw rot vb (nI 0) (nI 0) u19 row (-1) (nI 0) (nI 0) (nI 0) bts (nI 0) act (nI 0) (nI 0)) := hD1.weaken (fun _ q _ h => xA_up hSz _ h)
  have hP : va_P (dC, dI) vwCl (xw ad cd w wr fl (nI 0) (-1) lw rot vb (nI 0) (nI 0) u19 row (-1) (nI 0) (nI 0) (nI 0) bts (nI 0) act (nI 0) (nI 0)) H1 := hP1
  generalize H1 = H at hP hS ⊢
  generalize locs1 = locs at hS ⊢
  refine lv_aload_n hx hb d_R_mount_22 rfl (lv_at hl 0 rfl) ?_
  refine va_get (D := (dC, dI)) (ci := 4) (v := .ref (ad 2)) (C := R_R) (T := F_R) (N := 7) hx hb hts (fun w h => List.mem_cons_of_mem _ (in_R w h)) hown hK hP 0 rfl rfl 1 (by decide) (hts (.fieldLink R_R 20 R_R "chip" "LWeighRecorder$Chip;") (List.mem_cons_of_mem _ t_115)) (fun _ h9 => h9) rfl d_R_mount_23 ?_
  have hSz := hS.1
  refine va_callv (va_runV (C := R_C) (As := []) (rest := []) ⟨hx, hb, hml, hown, hts⟩ (c_C_turnOn l dC dI ad cd H.size w wr fl (nI 0) (-1) lw rot vb (nI 0) (nI 0) u19 row (-1) (nI 0) (nI 0) (nI 0) bts (nI 0) act (nI 0) (nI 0)  ) (cwV 0 hts (g_V t_213 t_214 t_215 t_3 t_216) rfl rfl rfl (by decide +kernel) ⟨by decide, by decide⟩) (xP_v hP hK hD 2 rfl rfl) rfl rfl hl.1 rfl (lv_room (Nat.le_of_ble_eq_true rfl)) d_R_mount_26 ⟨Nat.le_refl _, Nat.le_refl _⟩) hS (fun q _ h => xA_up hS.1 q h) (fun q h => xA_up hS.1 q h) (fun u26 t H1 locs1 ht hvm q26 hB hz1 hk1 hS => ?_)
  obtain ⟨hP1, hK1, hD1⟩ := hB
  rw [ht] at hP1
  have hD : va_D (xA 15 ad s.heap.size) (xw ad cd w wr fl (nI 1) (-1) lw rot vb (nI 0) (nI 0) u19 row (-1) (nI 0) (nI 0) (nI 0) bts (nI 0) act (nI 0) (nI 0)) := hD1.weaken (fun _ q _ h => xA_up hSz _ h)
  have hP : va_P (dC, dI) vwCl (xw ad cd w wr fl (nI 1) (-1) lw rot vb (nI 0) (nI 0) u19 row (-1) (nI 0) (nI 0) (nI 0) bts (nI 0) act (nI 0) (nI 0)) H1 := hP1
  generalize H1 = H at hP hS ⊢
  generalize locs1 = locs at hS ⊢
  refine lv_aload_n hx hb d_R_mount_29 rfl (lv_at hl 0 rfl) ?_
  refine va_get (D := (dC, dI)) (ci := 4) (v := .ref (ad 3)) (C := R_R) (T := F_R) (N := 7) hx hb hts (fun w h => List.mem_cons_of_mem _ (in_R w h)) hown hK hP 0 rfl rfl 2 (by decide) (hts (.fieldLink R_R 26 R_R "log" "LWeighRecorder$Log;") (List.mem_cons_of_mem _ t_116)) (fun _ h9 => h9) rfl d_R_mount_30 ?_
  refine vp_callSi (va_runV (C := R_G) (As := []) (rest := []) ⟨hx, hb, hml, hown, hts⟩ (c_G_ticketCount l dC dI ad cd w wr fl (nI 1) (-1) lw rot vb (nI 0) (nI 0) u19 row (-1) (nI 0) (nI 0) (nI 0) bts (nI 0) act (nI 0) (nI 0)  ) (cwV 0 hts (g_V t_217 t_218 t_219 t_4 t_220) rfl rfl rfl (by decide +kernel) ⟨by decide, by decide⟩) (xR_v hP hK 3 rfl rfl) rfl rfl hl.1 rfl (lv_room (Nat.le_of_ble_eq_true rfl)) d_R_mount_33 ⟨Nat.le_refl _, Nat.le_refl _⟩).run (fun r33 q33 => ?_)
  subst q33
  exact W.iret (v := nI 0) hx hb hr (fun t ht hW => ⟨⟨nI 0, u19, rfl, by first | rfl | trivial | omega, ⟨by rw [ht]; exact hP, va_K.moved hW.alike hK, hD⟩⟩, hS.F ht⟩) hS.2.2 d_R_mount_36
