set_option maxHeartbeats 4000000 in
set_option maxRecDepth 100000 in
theorem c_C_isPowered (l : Launch) (dC : Nat → ClassId) (dI : Nat → Nat → Nat) (ad cd : Nat → Nat) (w wr fl : Nat → Int32) (pw sc : Int32) (lw rot vb : Nat → Int32) (rec tk : Int32) (live row : Nat → Int32) (cur ser dur wo : Int32) (bts : Nat → Int32) (us : Int32) (act : Nat → Int32) (rd rs : Int32)  (hpw : narrow .boolean (.int pw) = .int pw) : Met l y_C_isPowered w_C_isPowered ({ frames := 0, cells := 0, slots := 0, locals := 0 }) (xR (dC, dI) vwCl (xt cd) (xw ad cd w wr fl pw sc lw rot vb rec tk live row cur ser dur wo bts us act rd rs) [.ref (ad 2)]) (vp_Si (fun r => r = pw)) 0 0 (fun _ => False) := by
  refine Met.ofW (cc := b_C_isPowered) (maxL := 1) (ret := (some (.boolean))) (by decide) rfl ?_
  intro P e s m args below meth c0 s₁ B hml hv
  obtain ⟨rfl, hP, hK⟩ := hv
  have hx := B.exec
  have hb := B.bytes
  have hr := B.returns
  have hts := atoms_spec (ws := w_C_isPowered) B.pre
  have hown : s.vm.findClass R_C = some m.cls := findClass_of_methodNamed B.named
  have hlocks := B.notSynchronized
  have hl := lv_entry ([.ref (ad 2)]) (n := 1) (Nat.le_of_ble_eq_true rfl)
  rw [lg_entry_eq]
  generalize (lg_sl ([.ref (ad 2)]) ++ List.replicate (1 - (lg_sl ([.ref (ad 2)])).length) Slot.unset).toArray = ls at hl ⊢
  have hl : lv_has ls 1 [(0, .ref (ad 2))] := hl
  refine lv_aload_n hx hb d_C_isPowered_0 rfl (lv_at hl 0 rfl) ?_
  refine va_get (D := (dC, dI)) (ci := 0) (v := .int pw) (C := R_C) (T := F_C) (N := 5) hx hb hts (fun w h => List.mem_cons_of_mem _ (in_C w h)) hown hK hP 2 rfl rfl 3 (by decide) (hts (.fieldLink R_C 22 R_C "powered" "Z") (List.mem_cons_of_mem _ t_37)) (fun _ h9 => h9) rfl d_C_isPowered_1 ?_
  exact W.zret (v := pw) hx hb hr (hpw) (fun t ht hW => ⟨pw, rfl, by first | rfl | trivial | omega, ht⟩) (fun q hq => by cases hq) d_C_isPowered_4
set_option maxHeartbeats 4000000 in
set_option maxRecDepth 100000 in
theorem c_C_read (l : Launch) (dC : Nat → ClassId) (dI : Nat → Nat → Nat) (ad cd : Nat → Nat) (w wr fl : Nat → Int32) (pw sc : Int32) (lw rot vb : Nat → Int32) (rec tk : Int32) (live row : Nat → Int32) (cur ser dur wo : Int32) (bts : Nat → Int32) (us : Int32) (act : Nat → Int32) (rd rs : Int32) (p k : Nat) (hp : p < 32) (hk : k < 16) : Met l y_C_read w_C_read ({ frames := 0, cells := 0, slots := 0, locals := 0 }) (xR (dC, dI) vwCl (xt cd) (xw ad cd w wr fl pw sc lw rot vb rec tk live row cur ser dur wo bts us act rd rs) [.ref (ad 2), .int (nI p), .int (nI k)]) (vp_Si (fun r => r = w (16 * p + k))) 0 0 (fun _ => False) := by
  refine Met.ofW (cc := b_C_read) (maxL := 3) (ret := (some (.int))) (by decide) rfl ?_
  intro P e s m args below meth c0 s₁ B hml hv
  obtain ⟨rfl, hP, hK⟩ := hv
  have hx := B.exec
  have hb := B.bytes
  have hr := B.returns
  have hts := atoms_spec (ws := w_C_read) B.pre
  have hown : s.vm.findClass R_C = some m.cls := findClass_of_methodNamed B.named
  have hlocks := B.notSynchronized
  have hl := lv_entry ([.ref (ad 2), .int (nI p), .int (nI k)]) (n := 3) (Nat.le_of_ble_eq_true rfl)
  rw [lg_entry_eq]
  generalize (lg_sl ([.ref (ad 2), .int (nI p), .int (nI k)]) ++ List.replicate (3 - (lg_sl ([.ref (ad 2), .int (nI p), .int (nI k)])).length) Slot.unset).toArray = ls at hl ⊢
  have hl : lv_has ls 3 [(0, .ref (ad 2)), (1, .int (nI p)), (2, .int (nI k))] := hl
  refine lv_aload_n hx hb d_C_read_0 rfl (lv_at hl 0 rfl) ?_
  refine va_get (D := (dC, dI)) (ci := 0) (v := .ref (ad 8)) (C := R_C) (T := F_C) (N := 5) hx hb hts (fun w h => List.mem_cons_of_mem _ (in_C w h)) hown hK hP 2 rfl rfl 0 (by decide) (hts (.fieldLink R_C 9 R_C "words" "[I") (List.mem_cons_of_mem _ t_34)) (fun _ h9 => h9) rfl d_C_read_1 ?_
  refine lv_iload_n hx hb d_C_read_4 rfl (lv_at hl 1 rfl) ?_
  refine lv_bipush (v := nI 16) hx hb d_C_read_5 (by decide) ?_
  refine lv_imul hx hb d_C_read_7 ?_
  refine tp_i (y := nI (p * 16)) (pk_mul _ _) ?_
  refine lv_iload_n hx hb d_C_read_8 rfl (lv_at hl 2 rfl) ?_
  refine lv_iadd hx hb d_C_read_9 ?_
  refine tp_i (y := nI ((p * 16) + k)) (nI_add _ _) ?_
  refine va_iald hx hb hK hP 8 3 rfl rfl (vp_in_nI (by omega) (by decide)) d_C_read_10 ?_
  refine tp_i (y := w ((p * 16) + k)) (by rw [nI_clamp (by omega)]) ?_
  exact W.iret (v := w ((p * 16) + k)) hx hb hr (fun t ht hW => ⟨w ((p * 16) + k), rfl, by rw [Nat.mul_comm 16 p], ht⟩) (fun q hq => by cases hq) d_C_read_11
set_option maxHeartbeats 4000000 in
set_option maxRecDepth 100000 in
theorem c_C_isFree (l : Launch) (dC : Nat → ClassId) (dI : Nat → Nat → Nat) (ad cd : Nat → Nat) (w wr fl : Nat → Int32) (pw sc : Int32) (lw rot vb : Nat → Int32) (rec tk : Int32) (live row : Nat → Int32) (cur ser dur wo : Int32) (bts : Nat → Int32) (us : Int32) (act : Nat → Int32) (rd rs : Int32) (p : Nat) (hp : p < 32) : Met l y_C_isFree w_C_isFree ({ frames := 0, cells := 0, slots := 0, locals := 0 }) (xR (dC, dI) vwCl (xt cd) (xw ad cd w wr fl pw sc lw rot vb rec tk live row cur ser dur wo bts us act rd rs) [.ref (ad 2), .int (nI p)]) (vp_Si (fun r => (r = 1 ∧ fp w p) ∨ (r = 0 ∧ ¬ fp w p))) 0 0 (fun _ => False) := by
  refine Met.ofW (cc := b_C_isFree) (maxL := 4) (ret := (some (.boolean))) (by decide) rfl ?_
  intro P e s m args below meth c0 s₁ B hml hv
  obtain ⟨rfl, hP, hK⟩ := hv
  have hx := B.exec
  have hb := B.bytes
  have hr := B.returns
  have hts := atoms_spec (ws := w_C_isFree) B.pre
  have hown : s.vm.findClass R_C = some m.cls := findClass_of_methodNamed B.named
  have hlocks := B.notSynchronized
  have hl := lv_entry ([.ref (ad 2), .int (nI p)]) (n := 4) (Nat.le_of_ble_eq_true rfl)
  rw [lg_entry_eq]
  generalize (lg_sl ([.ref (ad 2), .int (nI p)]) ++ List.replicate (4 - (lg_sl ([.ref (ad 2), .int (nI p)])).length) Slot.unset).toArray = ls at hl ⊢
  have hl : lv_has ls 4 [(0, .ref (ad 2)), (1, .int (nI p))] := hl
  refine lv_iload_n hx hb d_C_isFree_0 rfl (lv_at hl 1 rfl) ?_
  refine lv_bipush (v := nI 16) hx hb d_C_isFree_1 (by decide) ?_
  refine lv_imul hx hb d_C_isFree_3 ?_
  refine tp_i (y := nI (p * 16)) (pk_mul _ _) ?_
  refine lv_istore_n hx hb d_C_isFree_4 rfl hl (by decide) rfl (fun ls hl => ?_)
  have hl : lv_has ls 4 [(2, .int (nI (p * 16))), (0, .ref (ad 2)), (1, .int (nI p))] := hl
  refine lv_iload_n hx hb d_C_isFree_5 rfl (lv_at hl 0 rfl) ?_
  refine lv_istore_n hx hb d_C_isFree_6 rfl hl (by decide) rfl (fun ls hl => ?_)
  have hl : lv_has ls 4 [(3, .int (nI (p * 16))), (2, .int (nI (p * 16))), (0, .ref (ad 2)), (1, .int (nI p))] := hl
  have lp7 : ∀ (n : Nat) (k : Nat) (ls : Array Slot), (16 - k) < n → (k ≤ 16) → (∀ i, i < k → w (16 * p + i) = -1) → lv_has ls 4 [(0, .ref (ad 2)), (1, .int (nI p)), (2, .int (nI (p * 16))), (3, .int (nI (p * 16 + k)))] → W P l e (headSpec w_C_isFree ({ frames := 0, cells := 0, slots := 0, locals := 0 })).room s m (([.ref (ad 2), .int (nI p)] : List Value).toArray) below meth c0 s.heap [] 0 0 (MQ below (vp_Si (fun r => (r = 1 ∧ fp w p) ∨ (r = 0 ∧ ¬ fp w p))) (([.ref (ad 2), .int (nI p)] : List Value).toArray) s 0 0 (fun _ => False)) (F0 m 7 ls []) := by
    intro n
    induction n with
    | zero => intro k ls hm; intros; omega
    | succ n ih7 =>
      intro k ls hm hk hf hl
      refine lv_iload_n hx hb d_C_isFree_7 rfl (lv_at hl 3 rfl) ?_
      refine lv_iload_n hx hb d_C_isFree_8 rfl (lv_at hl 2 rfl) ?_
      refine lv_bipush (v := nI 16) hx hb d_C_isFree_9 (by decide) ?_
      refine lv_iadd hx hb d_C_isFree_11 ?_
      refine tp_i (y := nI ((p * 16) + 16)) (nI_add _ _) ?_
      refine lv_icmp_ge (tgt := 33) hx hb d_C_isFree_12 (by decide) (fun c12 => ?_) (fun c12 => ?_)
      ·
        have c12 := cd_ge_t (by omega) (by omega) c12
        refine lv_iconst (v := 1) hx hb d_C_isFree_33 (by decide) ?_
        exact W.zret (v := 1) hx hb hr (by first | rfl | decide | assumption) (fun t ht hW => ⟨1, rfl, Or.inl ⟨rfl, fun i hi => hf i (by omega)⟩, ht⟩) (fun q hq => by cases hq) d_C_isFree_34
      ·
        have c12 := cd_ge_f (by omega) (by omega) c12
        refine lv_aload_n hx hb d_C_isFree_15 rfl (lv_at hl 0 rfl) ?_
        refine va_get (D := (dC, dI)) (ci := 0) (v := .ref (ad 8)) (C := R_C) (T := F_C) (N := 5) hx hb hts (fun w h => List.mem_cons_of_mem _ (in_C w h)) hown hK hP 2 rfl rfl 0 (by decide) (hts (.fieldLink R_C 9 R_C "words" "[I") (List.mem_cons_of_mem _ t_34)) (fun _ h9 => h9) rfl d_C_isFree_16 ?_
        refine lv_iload_n hx hb d_C_isFree_19 rfl (lv_at hl 3 rfl) ?_
        refine va_iald hx hb hK hP 8 3 rfl rfl (vp_in_nI (by omega) (by decide)) d_C_isFree_20 ?_
        refine tp_i (y := w (p * 16 + k)) (by rw [nI_clamp (by omega)]) ?_
        refine lv_iconst (v := (-1)) hx hb d_C_isFree_21 (by decide) ?_
        refine lv_icmp_eq (tgt := 27) hx hb d_C_isFree_22 (by decide) (fun c22 => ?_) (fun c22 => ?_)
        ·
          refine lv_iinc (k := 3) (v := nI ((p * 16 + k) + 1)) hx hb d_C_isFree_27 hl rfl (nI_1 _) (by decide) rfl (fun ls hl => ?_)
          have hl : lv_has ls 4 [(3, .int (nI ((p * 16 + k) + 1))), (0, .ref (ad 2)), (1, .int (nI p)), (2, .int (nI (p * 16)))] := hl
          refine lv_goto (tgt := 7) hx hb d_C_isFree_30 (by decide) ?_
          exact ih7 (k + 1) ls (by omega) (by omega) (lt_s hf (by rw [Nat.mul_comm 16 p]; exact c22)) (lv_sub hl [1, 2, 3, 0] rfl)
        ·
          refine lv_iconst (v := 0) hx hb d_C_isFree_25 (by decide) ?_
          exact W.zret (v := 0) hx hb hr (by first | rfl | decide | assumption) (fun t ht hW => ⟨0, rfl, Or.inr ⟨rfl, fun h => c22 (by have := h k (by omega); rw [Nat.mul_comm 16 p] at this; exact this)⟩, ht⟩) (fun q hq => by cases hq) d_C_isFree_26
  exact lp7 _ 0 ls (Nat.lt_succ_self _) (by omega) (fun i hi => absurd hi (Nat.not_lt_zero i)) (lv_sub hl [2, 3, 1, 0] rfl)
