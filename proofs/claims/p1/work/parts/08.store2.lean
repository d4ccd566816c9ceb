set_option maxHeartbeats 4000000 in
set_option maxRecDepth 100000 in
theorem c_S_findNewestPages_f (l : Launch) (dC : Nat → ClassId) (dI : Nat → Nat → Nat) (ad cd : Nat → Nat) (sz : Nat) (w wr fl : Nat → Int32) (pw sc : Int32) (lw rot vb : Nat → Int32) (rec tk : Int32) (live row : Nat → Int32) (cur ser dur wo : Int32) (bts : Nat → Int32) (us : Int32) (act : Nat → Int32) (rd rs : Int32)  (hw : ∀ i, i < 512 → w i = -1) : Met l y_S_findNewestPages w_S_findNewestPages ({ frames := 2, cells := 0, slots := 0, locals := 44 }) (xP (dC, dI) vwCl (xt cd) (xw ad cd w wr fl pw sc lw rot vb rec tk live row cur ser dur wo bts us act rd rs) sz [.ref (ad 1)]) (va_Qi (fun r (u : Nat → Int32) => r = -1 ∧ ∀ i, i < 16 → u i = -1) (fun (u : Nat → Int32) (t : State) => xB (dC, dI) vwCl (xt cd) (xA 15 ad sz) (xw ad cd w wr fl pw sc lw rot vb rec tk u row cur ser dur wo bts us act rd rs) t) (xA 15 ad sz)) 0 0 (xA 15 ad sz) := by
  refine Met.ofW (cc := b_S_findNewestPages) (maxL := 4) (ret := (some (.int))) (by decide) rfl ?_
  intro P e s m args below meth c0 s₁ B hml hv
  obtain ⟨rfl, hsz, hP, hK, hD0⟩ := hv
  have hx := B.exec
  have hb := B.bytes
  have hr := B.returns
  have hts := atoms_spec (ws := w_S_findNewestPages) B.pre
  have hown : s.vm.findClass R_S = some m.cls := findClass_of_methodNamed B.named
  have hlocks := B.notSynchronized
  subst hsz
  have hD := xw_D (sz := s.heap.size) hD0
  have hS : va_S (xA 15 ad s.heap.size) s.heap s.heap [] := va_S.rf
  have hA : ∀ q : Nat, s.heap.size ≤ q → (xA 15 ad s.heap.size) q := fun q h => Or.inr h
  have hl := lv_entry ([.ref (ad 1)]) (n := 4) (Nat.le_of_ble_eq_true rfl)
  rw [lg_entry_eq]
  generalize (lg_sl ([.ref (ad 1)]) ++ List.replicate (4 - (lg_sl ([.ref (ad 1)])).length) Slot.unset).toArray = ls at hl ⊢
  have hl : lv_has ls 4 [(0, .ref (ad 1))] := hl
  refine lv_iconst (v := nI 0) hx hb d_S_findNewestPages_0 (by decide) ?_
  refine lv_istore_n hx hb d_S_findNewestPages_1 rfl hl (by decide) rfl (fun ls hl => ?_)
  have hl : lv_has ls 4 [(1, .int (nI 0)), (0, .ref (ad 1))] := hl
  have lp2 : ∀ (n : Nat) (k : Nat) (lv : Nat → Int32) (H : Heap) (locs : List Loc) (ls : Array Slot), (16 - k) < n → (k ≤ 16) → (∀ i, i < k → lv i = -1) → lv_has ls 4 [(0, .ref (ad 1)), (1, .int (nI k))] → va_P (dC, dI) vwCl (xw ad cd w wr fl pw sc lw rot vb rec tk lv row cur ser dur wo bts us act rd rs) H → va_D (xA 15 ad s.heap.size) (xw ad cd w wr fl pw sc lw rot vb rec tk lv row cur ser dur wo bts us act rd rs) → va_S (xA 15 ad s.heap.size) s.heap H locs → W P l e (headSpec w_S_findNewestPages ({ frames := 2, cells := 0, slots := 0, locals := 44 })).room s m (([.ref (ad 1)] : List Value).toArray) below meth c0 H locs 0 0 (MQ below (va_Qi (fun r (u : Nat → Int32) => r = -1 ∧ ∀ i, i < 16 → u i = -1) (fun (u : Nat → Int32) (t : State) => xB (dC, dI) vwCl (xt cd) (xA 15 ad s.heap.size) (xw ad cd w wr fl pw sc lw rot vb rec tk u row cur ser dur wo bts us act rd rs) t) (xA 15 ad s.heap.size)) (([.ref (ad 1)] : List Value).toArray) s 0 0 (xA 15 ad s.heap.size)) (F0 m 2 ls []) := by
    intro n
    induction n with
    | zero => intro k lv H locs ls hm; intros; omega
    | succ n ih2 =>
      intro k lv H locs ls hm hk hf hl hP hD hS
      refine lv_iload_n hx hb d_S_findNewestPages_2 rfl (lv_at hl 1 rfl) ?_
      refine lv_bipush (v := nI 16) hx hb d_S_findNewestPages_3 (by decide) ?_
      refine lv_icmp_ge (tgt := 21) hx hb d_S_findNewestPages_5 (by decide) (fun c5 => ?_) (fun c5 => ?_)
      ·
        have c5 := cd_ge_t (by omega) (by omega) c5
        refine lv_iconst (v := (-1)) hx hb d_S_findNewestPages_21 (by decide) ?_
        refine lv_istore_n hx hb d_S_findNewestPages_22 rfl hl (by decide) rfl (fun ls hl => ?_)
        have hl : lv_has ls 4 [(1, .int (-1)), (0, .ref (ad 1))] := hl
        refine lv_iconst (v := nI 0) hx hb d_S_findNewestPages_23 (by decide) ?_
        refine lv_istore_n hx hb d_S_findNewestPages_24 rfl hl (by decide) rfl (fun ls hl => ?_)
        have hl : lv_has ls 4 [(2, .int (nI 0)), (1, .int (-1)), (0, .ref (ad 1))] := hl
        have lp25 : ∀ (n : Nat) (k : Nat) (ls : Array Slot), (32 - k) < n → (k ≤ 32) → lv_has ls 4 [(0, .ref (ad 1)), (1, .int (-1)), (2, .int (nI k))] → W P l e (headSpec w_S_findNewestPages ({ frames := 2, cells := 0, slots := 0, locals := 44 })).room s m (([.ref (ad 1)] : List Value).toArray) below meth c0 H locs 0 0 (MQ below (va_Qi (fun r (u : Nat → Int32) => r = -1 ∧ ∀ i, i < 16 → u i = -1) (fun (u : Nat → Int32) (t : State) => xB (dC, dI) vwCl (xt cd) (xA 15 ad s.heap.size) (xw ad cd w wr fl pw sc lw rot vb rec tk u row cur ser dur wo bts us act rd rs) t) (xA 15 ad s.heap.size)) (([.ref (ad 1)] : List Value).toArray) s 0 0 (xA 15 ad s.heap.size)) (F0 m 25 ls []) := by
          intro n
          induction n with
          | zero => intro k ls hm; intros; omega
          | succ n ih25 =>
            intro k ls hm hk hl
            refine lv_iload_n hx hb d_S_findNewestPages_25 rfl (lv_at hl 2 rfl) ?_
            refine lv_bipush (v := nI 32) hx hb d_S_findNewestPages_26 (by decide) ?_
            refine lv_icmp_ge (tgt := 84) hx hb d_S_findNewestPages_28 (by decide) (fun c28 => ?_) (fun c28 => ?_)
            ·
              have c28 := cd_ge_t (by omega) (by omega) c28
              refine lv_iload_n hx hb d_S_findNewestPages_84 rfl (lv_at hl 1 rfl) ?_
              exact W.iret (v := (-1)) hx hb hr (fun t ht hW => ⟨⟨(-1), lv, rfl, ⟨rfl, fun i hi => hf i (by omega)⟩, ⟨by rw [ht]; exact hP, va_K.moved hW.alike hK, hD⟩⟩, hS.F ht⟩) hS.2.2 d_S_findNewestPages_85
            ·
              have c28 := cd_ge_f (by omega) (by omega) c28
              refine lv_aload_n hx hb d_S_findNewestPages_31 rfl (lv_at hl 0 rfl) ?_
              refine va_get (D := (dC, dI)) (ci := 3) (v := .ref (ad 2)) (C := R_S) (T := F_S) (N := 7) hx hb hts (fun w h => List.mem_cons_of_mem _ (in_S w h)) hown hK hP 1 rfl rfl 0 (by decide) (hts (.fieldLink R_S 12 R_S "chip" "LWeighRecorder$Chip;") (List.mem_cons_of_mem _ t_52)) (fun _ h9 => h9) rfl d_S_findNewestPages_32 ?_
              refine lv_iload_n hx hb d_S_findNewestPages_35 rfl (lv_at hl 2 rfl) ?_
              refine vp_callSi (va_runV (C := R_C) (As := [.int (nI k)]) (rest := []) ⟨hx, hb, hml, hown, hts⟩ (c_C_isRight_f l dC dI ad cd w wr fl pw sc lw rot vb rec tk lv row cur ser dur wo bts us act rd rs k (by omega) (hw _ (by omega))) (cwV 1 hts (g_V t_160 t_161 t_162 t_3 t_163) rfl rfl rfl (by decide +kernel) ⟨by decide, by decide⟩) (xR_v hP hK 2 rfl rfl) rfl rfl hl.1 rfl (lv_room (Nat.le_of_ble_eq_true rfl)) d_S_findNewestPages_36 ⟨Nat.le_refl _, Nat.le_refl _⟩).run (fun r36 q36 => ?_)
              subst q36
              refine lv_if_eq (tgt := 78) hx hb d_S_findNewestPages_39 (by decide) (fun c39 => ?_) (fun c39 => ?_)
              ·
                refine lv_iinc (k := 2) (v := nI (k + 1)) hx hb d_S_findNewestPages_78 hl rfl (nI_1 _) (by decide) rfl (fun ls hl => ?_)
                have hl : lv_has ls 4 [(2, .int (nI (k + 1))), (0, .ref (ad 1)), (1, .int (-1))] := hl
                refine lv_goto (tgt := 25) hx hb d_S_findNewestPages_81 (by decide) ?_
                exact ih25 (k + 1) ls (by omega) (by omega) (lv_sub hl [1, 2, 0] rfl)
              ·
                exact absurd c39 (by decide)
        exact lp25 _ 0 ls (Nat.lt_succ_self _) (by omega) (lv_sub hl [2, 1, 0] rfl)
      ·
        have c5 := cd_ge_f (by omega) (by omega) c5
        refine lv_aload_n hx hb d_S_findNewestPages_8 rfl (lv_at hl 0 rfl) ?_
        refine va_get (D := (dC, dI)) (ci := 3) (v := .ref (ad 6)) (C := R_S) (T := F_S) (N := 7) hx hb hts (fun w h => List.mem_cons_of_mem _ (in_S w h)) hown hK hP 1 rfl rfl 1 (by decide) (hts (.fieldLink R_S 18 R_S "livePages" "[I") (List.mem_cons_of_mem _ t_53)) (fun _ h9 => h9) rfl d_S_findNewestPages_9 ?_
        refine lv_iload_n hx hb d_S_findNewestPages_12 rfl (lv_at hl 1 rfl) ?_
        refine lv_iconst (v := (-1)) hx hb d_S_findNewestPages_13 (by decide) ?_
        refine va_iast hx hb hK hP hD hS 6 1 rfl rfl (vp_in_nI (by omega) (by decide)) d_S_findNewestPages_14 (fun H locs hP hD hS => ?_)
        rw [nI_clamp (by omega)] at hP hD
        have hP : va_P (dC, dI) vwCl (xw ad cd w wr fl pw sc lw rot vb rec tk (upd lv k (-1)) row cur ser dur wo bts us act rd rs) H := hP
        have hD : va_D (xA 15 ad s.heap.size) (xw ad cd w wr fl pw sc lw rot vb rec tk (upd lv k (-1)) row cur ser dur wo bts us act rd rs) := hD
        refine lv_iinc (k := 1) (v := nI (k + 1)) hx hb d_S_findNewestPages_15 hl rfl (nI_1 _) (by decide) rfl (fun ls hl => ?_)
        have hl : lv_has ls 4 [(1, .int (nI (k + 1))), (0, .ref (ad 1))] := hl
        refine lv_goto (tgt := 2) hx hb d_S_findNewestPages_18 (by decide) ?_
        exact ih2 (k + 1) (upd lv k (-1)) H locs ls (by omega) (by omega) (upd_lt hf) (lv_sub hl [1, 0] rfl) hP hD hS
  exact lp2 _ 0 live s.heap [] ls (Nat.lt_succ_self _) (by omega) (fun i hi => absurd hi (Nat.not_lt_zero i)) (lv_sub hl [1, 0] rfl) hP hD hS
