set_option maxHeartbeats 4000000 in
set_option maxRecDepth 100000 in
theorem c_C_init (l : Launch) (dC : Nat → ClassId) (dI : Nat → Nat → Nat) (h0 sz : Nat) : Met l y_C_init w_C_init ({ frames := 1, cells := 3, slots := 528, locals := 20 }) (xP (dC, dI) vwCl [] [(h0, .inr (0, [.null, .null, .null, .int 0, .int 0]))] sz [.ref h0]) (va_Qv (fun (u : (Nat → Nat) × (Nat → Nat) × (Nat → Int32)) => ∀ i, i < 512 → u.2.2 i = -1) (fun (u : (Nat → Nat) × (Nat → Nat) × (Nat → Int32)) (t : State) => xB (dC, dI) vwCl [(u.2.1 0, .int), (u.2.1 1, .int), (u.2.1 2, .boolean)] (va_A [(h0, .inr (0, [.null, .null, .null, .int 0, .int 0]))] sz) [(h0, .inr (0, [.ref (u.1 0), .ref (u.1 1), .ref (u.1 2), .int (nI 1), .int (-1)])), (u.1 0, .inl (u.2.1 0, 512, .inl u.2.2)), (u.1 1, .inl (u.2.1 1, 8, .inl (fun _ => 0))), (u.1 2, .inl (u.2.1 2, 8, .inl (fun _ => 0)))] t) (va_A [(h0, .inr (0, [.null, .null, .null, .int 0, .int 0]))] sz)) 3 528 (va_A [(h0, .inr (0, [.null, .null, .null, .int 0, .int 0]))] sz) := by
  refine Met.ofW (cc := b_C_init) (maxL := 2) (ret := none) (by decide) rfl ?_
  intro P e s m args below meth c0 s₁ B hml hv
  obtain ⟨rfl, hsz, hP, hK, hD0, hN⟩ := hv
  have hx := B.exec
  have hb := B.bytes
  have hr := B.returns
  have hts := atoms_spec (ws := w_C_init) B.pre
  have hown : s.vm.findClass R_C = some m.cls := findClass_of_methodNamed B.named
  have hlocks := B.notSynchronized
  subst hsz
  have hD := hD0.self (sz := s.heap.size)
  have hS : va_S (va_A [(h0, .inr (0, [.null, .null, .null, .int 0, .int 0]))] s.heap.size) s.heap s.heap [] := va_S.rf
  have hA : ∀ q : Nat, s.heap.size ≤ q → (va_A [(h0, .inr (0, [.null, .null, .null, .int 0, .int 0]))] s.heap.size) q := fun q h => Or.inr h
  have hin : meth.name = "<init>" := (name_of_methodNamed B.named B.method).1
  have hl := lv_entry ([.ref h0]) (n := 2) (Nat.le_of_ble_eq_true rfl)
  rw [lg_entry_eq]
  generalize (lg_sl ([.ref h0]) ++ List.replicate (2 - (lg_sl ([.ref h0])).length) Slot.unset).toArray = ls at hl ⊢
  have hl : lv_has ls 2 [(0, .ref h0)] := hl
  refine lv_aload_n hx hb d_C_init_0 rfl (lv_at hl 0 rfl) ?_
  refine W.objInit hx hb hown (hts (.methodLink R_C 3 objectInit) (List.mem_cons_of_mem _ t_33)) (hts (.instanceMethod objectInit) (List.mem_cons_of_mem _ t_20)) (hts _ (List.mem_cons_of_mem _ t_21)) rfl (by rw [hml]; exact hl.1) rfl d_C_init_1 (Nat.le_of_ble_eq_true rfl) (Nat.le_of_ble_eq_true rfl) ?_
  refine W.eq (g2 := F0 m 4 ls []) rfl ?_
  refine lv_aload_n hx hb d_C_init_4 rfl (lv_at hl 0 rfl) ?_
  refine lv_sipush (v := nI 512) hx hb d_C_init_5 (by decide) ?_
  refine va_newa (atype := .int) (ty := .int) (a0 := (512, .inl (fun _ => 0))) (N' := 512) hx hb (hts (.arrayClass .int) (List.mem_cons_of_mem _ t_50)) rfl hK hP hD hS hA (fun cA => nw_i cA 512) (by decide +kernel) (by decide +kernel) (by decide +kernel) (show 1 ≤ 3 by decide) (show 512 ≤ 528 by decide) d_C_init_8 (fun q8 k8 H hK hP hD hS => ?_)
  have hP : va_P (dC, dI) vwCl [(h0, .inr (0, [.null, .null, .null, .int 0, .int 0])), (q8, .inl (k8, 512, .inl (fun _ => 0)))] H := hP
  have hD : va_D (va_A [(h0, .inr (0, [.null, .null, .null, .int 0, .int 0]))] s.heap.size) [(h0, .inr (0, [.null, .null, .null, .int 0, .int 0])), (q8, .inl (k8, 512, .inl (fun _ => 0)))] := hD
  have hK : va_K (dC, dI) vwCl [(k8, .int)] s := hK
  refine va_putF (D := (dC, dI)) (ci := 0) (v := .ref q8) (ty := (.array .int)) (C := R_C) (T := F_C) (N := 5) hx hb hts (fun w h => List.mem_cons_of_mem _ (in_C w h)) t_C ok_C nm_C hown hK hP hD hS 0 rfl rfl 0 (by decide) (hts (.fieldLink R_C 9 R_C "words" "[I") (List.mem_cons_of_mem _ t_34)) (fun _ h9 => h9) rfl hin rfl (by decide +kernel) rfl rfl (Nat.le_of_ble_eq_true rfl) d_C_init_10 (fun H locs hP hD hS => ?_)
  have hP : va_P (dC, dI) vwCl [(h0, .inr (0, [.ref q8, .null, .null, .int 0, .int 0])), (q8, .inl (k8, 512, .inl (fun _ => 0)))] H := hP
  have hD : va_D (va_A [(h0, .inr (0, [.null, .null, .null, .int 0, .int 0]))] s.heap.size) [(h0, .inr (0, [.ref q8, .null, .null, .int 0, .int 0])), (q8, .inl (k8, 512, .inl (fun _ => 0)))] := hD
  refine lv_aload_n hx hb d_C_init_13 rfl (lv_at hl 0 rfl) ?_
  refine lv_bipush (v := nI 8) hx hb d_C_init_14 (by decide) ?_
  refine va_newa (atype := .int) (ty := .int) (a0 := (8, .inl (fun _ => 0))) (N' := 8) hx hb (hts (.arrayClass .int) (List.mem_cons_of_mem _ t_50)) rfl hK hP hD hS hA (fun cA => nw_i cA 8) (by decide +kernel) (by decide +kernel) (by decide +kernel) (show 2 ≤ 3 by decide) (show 520 ≤ 528 by decide) d_C_init_16 (fun q16 k16 H hK hP hD hS => ?_)
  have hP : va_P (dC, dI) vwCl [(h0, .inr (0, [.ref q8, .null, .null, .int 0, .int 0])), (q8, .inl (k8, 512, .inl (fun _ => 0))), (q16, .inl (k16, 8, .inl (fun _ => 0)))] H := hP
  have hD : va_D (va_A [(h0, .inr (0, [.null, .null, .null, .int 0, .int 0]))] s.heap.size) [(h0, .inr (0, [.ref q8, .null, .null, .int 0, .int 0])), (q8, .inl (k8, 512, .inl (fun _ => 0))), (q16, .inl (k16, 8, .inl (fun _ => 0)))] := hD
  have hK : va_K (dC, dI) vwCl [(k8, .int), (k16, .int)] s := hK
  refine va_putF (D := (dC, dI)) (ci := 0) (v := .ref q16) (ty := (.array .int)) (C := R_C) (T := F_C) (N := 5) hx hb hts (fun w h => List.mem_cons_of_mem _ (in_C w h)) t_C ok_C nm_C hown hK hP hD hS 0 rfl rfl 1 (by decide) (hts (.fieldLink R_C 15 R_C "wear" "[I") (List.mem_cons_of_mem _ t_35)) (fun _ h9 => h9) rfl hin rfl (by decide +kernel) rfl rfl (Nat.le_of_ble_eq_true rfl) d_C_init_18 (fun H locs hP hD hS => ?_)
  have hP : va_P (dC, dI) vwCl [(h0, .inr (0, [.ref q8, .ref q16, .null, .int 0, .int 0])), (q8, .inl (k8, 512, .inl (fun _ => 0))), (q16, .inl (k16, 8, .inl (fun _ => 0)))] H := hP
  have hD : va_D (va_A [(h0, .inr (0, [.null, .null, .null, .int 0, .int 0]))] s.heap.size) [(h0, .inr (0, [.ref q8, .ref q16, .null, .int 0, .int 0])), (q8, .inl (k8, 512, .inl (fun _ => 0))), (q16, .inl (k16, 8, .inl (fun _ => 0)))] := hD
  refine lv_aload_n hx hb d_C_init_21 rfl (lv_at hl 0 rfl) ?_
  refine lv_bipush (v := nI 8) hx hb d_C_init_22 (by decide) ?_
  refine va_newa (atype := .boolean) (ty := .boolean) (a0 := (8, .inl (fun _ => 0))) (N' := 8) hx hb (hts (.arrayClass .boolean) (List.mem_cons_of_mem _ t_51)) rfl hK hP hD hS hA (fun cA => nw_z cA 8) (by decide +kernel) (by decide +kernel) (by decide +kernel) (show 3 ≤ 3 by decide) (show 528 ≤ 528 by decide) d_C_init_24 (fun q24 k24 H hK hP hD hS => ?_)
  have hP : va_P (dC, dI) vwCl [(h0, .inr (0, [.ref q8, .ref q16, .null, .int 0, .int 0])), (q8, .inl (k8, 512, .inl (fun _ => 0))), (q16, .inl (k16, 8, .inl (fun _ => 0))), (q24, .inl (k24, 8, .inl (fun _ => 0)))] H := hP
  have hD : va_D (va_A [(h0, .inr (0, [.null, .null, .null, .int 0, .int 0]))] s.heap.size) [(h0, .inr (0, [.ref q8, .ref q16, .null, .int 0, .int 0])), (q8, .inl (k8, 512, .inl (fun _ => 0))), (q16, .inl (k16, 8, .inl (fun _ => 0))), (q24, .inl (k24, 8, .inl (fun _ => 0)))] := hD
  have hK : va_K (dC, dI) vwCl [(k8, .int), (k16, .int), (k24, .boolean)] s := hK
  refine va_putF (D := (dC, dI)) (ci := 0) (v := .ref q24) (ty := (.array .boolean)) (C := R_C) (T := F_C) (N := 5) hx hb hts (fun w h => List.mem_cons_of_mem _ (in_C w h)) t_C ok_C nm_C hown hK hP hD hS 0 rfl rfl 2 (by decide) (hts (.fieldLink R_C 18 R_C "failed" "[Z") (List.mem_cons_of_mem _ t_36)) (fun _ h9 => h9) rfl hin rfl (by decide +kernel) rfl rfl (Nat.le_of_ble_eq_true rfl) d_C_init_26 (fun H locs hP hD hS => ?_)
  have hP : va_P (dC, dI) vwCl [(h0, .inr (0, [.ref q8, .ref q16, .ref q24, .int 0, .int 0])), (q8, .inl (k8, 512, .inl (fun _ => 0))), (q16, .inl (k16, 8, .inl (fun _ => 0))), (q24, .inl (k24, 8, .inl (fun _ => 0)))] H := hP
  have hD : va_D (va_A [(h0, .inr (0, [.null, .null, .null, .int 0, .int 0]))] s.heap.size) [(h0, .inr (0, [.ref q8, .ref q16, .ref q24, .int 0, .int 0])), (q8, .inl (k8, 512, .inl (fun _ => 0))), (q16, .inl (k16, 8, .inl (fun _ => 0))), (q24, .inl (k24, 8, .inl (fun _ => 0)))] := hD
  refine lv_aload_n hx hb d_C_init_29 rfl (lv_at hl 0 rfl) ?_
  refine lv_iconst (v := nI 1) hx hb d_C_init_30 (by decide) ?_
  refine va_put (D := (dC, dI)) (ci := 0) (v := .int (nI 1)) (ty := .boolean) (C := R_C) (T := F_C) (N := 5) hx hb hts (fun w h => List.mem_cons_of_mem _ (in_C w h)) t_C ok_C nm_C hown hK hP hD hS 0 rfl rfl 3 (by decide) (hts (.fieldLink R_C 22 R_C "powered" "Z") (List.mem_cons_of_mem _ t_37)) (fun _ h9 => h9) rfl (by decide +kernel) (by first | rfl | decide | assumption) rfl (Nat.le_of_ble_eq_true rfl) d_C_init_31 (fun H locs hP hD hS => ?_)
  have hP : va_P (dC, dI) vwCl [(h0, .inr (0, [.ref q8, .ref q16, .ref q24, .int (nI 1), .int 0])), (q8, .inl (k8, 512, .inl (fun _ => 0))), (q16, .inl (k16, 8, .inl (fun _ => 0))), (q24, .inl (k24, 8, .inl (fun _ => 0)))] H := hP
  have hD : va_D (va_A [(h0, .inr (0, [.null, .null, .null, .int 0, .int 0]))] s.heap.size) [(h0, .inr (0, [.ref q8, .ref q16, .ref q24, .int (nI 1), .int 0])), (q8, .inl (k8, 512, .inl (fun _ => 0))), (q16, .inl (k16, 8, .inl (fun _ => 0))), (q24, .inl (k24, 8, .inl (fun _ => 0)))] := hD
  refine lv_aload_n hx hb d_C_init_34 rfl (lv_at hl 0 rfl) ?_
  refine lv_iconst (v := (-1)) hx hb d_C_init_35 (by decide) ?_
  refine va_put (D := (dC, dI)) (ci := 0) (v := .int (-1)) (ty := .int) (C := R_C) (T := F_C) (N := 5) hx hb hts (fun w h => List.mem_cons_of_mem _ (in_C w h)) t_C ok_C nm_C hown hK hP hD hS 0 rfl rfl 4 (by decide) (hts (.fieldLink R_C 26 R_C "stepsToCut" "I") (List.mem_cons_of_mem _ t_38)) (fun _ h9 => h9) rfl (by decide +kernel) rfl rfl (Nat.le_of_ble_eq_true rfl) d_C_init_36 (fun H locs hP hD hS => ?_)
  have hP : va_P (dC, dI) vwCl [(h0, .inr (0, [.ref q8, .ref q16, .ref q24, .int (nI 1), .int (-1)])), (q8, .inl (k8, 512, .inl (fun _ => 0))), (q16, .inl (k16, 8, .inl (fun _ => 0))), (q24, .inl (k24, 8, .inl (fun _ => 0)))] H := hP
  have hD : va_D (va_A [(h0, .inr (0, [.null, .null, .null, .int 0, .int 0]))] s.heap.size) [(h0, .inr (0, [.ref q8, .ref q16, .ref q24, .int (nI 1), .int (-1)])), (q8, .inl (k8, 512, .inl (fun _ => 0))), (q16, .inl (k16, 8, .inl (fun _ => 0))), (q24, .inl (k24, 8, .inl (fun _ => 0)))] := hD
  refine lv_iconst (v := nI 0) hx hb d_C_init_39 (by decide) ?_
  refine lv_istore_n hx hb d_C_init_40 rfl hl (by decide) rfl (fun ls hl => ?_)
  have hl : lv_has ls 2 [(1, .int (nI 0)), (0, .ref h0)] := hl
  have lp41 : ∀ (n : Nat) (k : Nat) (wv : Nat → Int32) (H : Heap) (locs : List Loc) (ls : Array Slot), (512 - k) < n → (k ≤ 512) → (∀ i, i < k → wv i = -1) → lv_has ls 2 [(0, .ref h0), (1, .int (nI k))] → va_P (dC, dI) vwCl [(h0, .inr (0, [.ref q8, .ref q16, .ref q24, .int (nI 1), .int (-1)])), (q8, .inl (k8, 512, .inl wv)), (q16, .inl (k16, 8, .inl (fun _ => 0))), (q24, .inl (k24, 8, .inl (fun _ => 0)))] H → va_D (va_A [(h0, .inr (0, [.null, .null, .null, .int 0, .int 0]))] s.heap.size) [(h0, .inr (0, [.ref q8, .ref q16, .ref q24, .int (nI 1), .int (-1)])), (q8, .inl (k8, 512, .inl wv)), (q16, .inl (k16, 8, .inl (fun _ => 0))), (q24, .inl (k24, 8, .inl (fun _ => 0)))] → va_S (va_A [(h0, .inr (0, [.null, .null, .null, .int 0, .int 0]))] s.heap.size) s.heap H locs → W P l e (headSpec w_C_init ({ frames := 1, cells := 3, slots := 528, locals := 20 })).room s m (([.ref h0] : List Value).toArray) below meth c0 H locs 3 528 (MQ below (va_Qv (fun (u : (Nat → Nat) × (Nat → Nat) × (Nat → Int32)) => ∀ i, i < 512 → u.2.2 i = -1) (fun (u : (Nat → Nat) × (Nat → Nat) × (Nat → Int32)) (t : State) => xB (dC, dI) vwCl [(u.2.1 0, .int), (u.2.1 1, .int), (u.2.1 2, .boolean)] (va_A [(h0, .inr (0, [.null, .null, .null, .int 0, .int 0]))] s.heap.size) [(h0, .inr (0, [.ref (u.1 0), .ref (u.1 1), .ref (u.1 2), .int (nI 1), .int (-1)])), (u.1 0, .inl (u.2.1 0, 512, .inl u.2.2)), (u.1 1, .inl (u.2.1 1, 8, .inl (fun _ => 0))), (u.1 2, .inl (u.2.1 2, 8, .inl (fun _ => 0)))] t) (va_A [(h0, .inr (0, [.null, .null, .null, .int 0, .int 0]))] s.heap.size)) (([.ref h0] : List Value).toArray) s 3 528 (va_A [(h0, .inr (0, [.null, .null, .null, .int 0, .int 0]))] s.heap.size)) (F0 m 41 ls []) := by
    intro n
    induction n with
    | zero => intro k wv H locs ls hm; intros; omega
    | succ n ih41 =>
      intro k wv H locs ls hm hk hf hl hP hD hS
      refine lv_iload_n hx hb d_C_init_41 rfl (lv_at hl 1 rfl) ?_
      refine lv_aload_n hx hb d_C_init_42 rfl (lv_at hl 0 rfl) ?_
      refine va_get (D := (dC, dI)) (ci := 0) (v := .ref q8) (C := R_C) (T := F_C) (N := 5) hx hb hts (fun w h => List.mem_cons_of_mem _ (in_C w h)) hown hK hP 0 rfl rfl 0 (by decide) (hts (.fieldLink R_C 9 R_C "words" "[I") (List.mem_cons_of_mem _ t_34)) (fun _ h9 => h9) rfl d_C_init_43 ?_
      refine va_alen (v := nI 512) hx hb hK hP 1 0 rfl rfl rfl d_C_init_46 ?_
      refine lv_icmp_ge (tgt := 63) hx hb d_C_init_47 (by decide) (fun c47 => ?_) (fun c47 => ?_)
      ·
        have c47 := cd_ge_t (by omega) (by omega) c47
        exact W.vret hx hb hr (fun t ht hW => ⟨⟨(fun k => [q8, q16, q24].getD k 0, fun k => [k8, k16, k24].getD k 0, wv), rfl, fun i hi => hf i (by omega), ⟨by rw [ht]; exact hP, va_K.moved hW.alike (hK), hD⟩⟩, hS.F ht⟩) hS.2.2 d_C_init_63
      ·
        have c47 := cd_ge_f (by omega) (by omega) c47
        refine lv_aload_n hx hb d_C_init_50 rfl (lv_at hl 0 rfl) ?_
        refine va_get (D := (dC, dI)) (ci := 0) (v := .ref q8) (C := R_C) (T := F_C) (N := 5) hx hb hts (fun w h => List.mem_cons_of_mem _ (in_C w h)) hown hK hP 0 rfl rfl 0 (by decide) (hts (.fieldLink R_C 9 R_C "words" "[I") (List.mem_cons_of_mem _ t_34)) (fun _ h9 => h9) rfl d_C_init_51 ?_
        refine lv_iload_n hx hb d_C_init_54 rfl (lv_at hl 1 rfl) ?_
        refine lv_iconst (v := (-1)) hx hb d_C_init_55 (by decide) ?_
        refine va_iast hx hb hK hP hD hS 1 0 rfl rfl (vp_in_nI (by omega) (by decide)) d_C_init_56 (fun H locs hP hD hS => ?_)
        rw [nI_clamp (by omega)] at hP hD
        have hP : va_P (dC, dI) vwCl [(h0, .inr (0, [.ref q8, .ref q16, .ref q24, .int (nI 1), .int (-1)])), (q8, .inl (k8, 512, .inl (upd wv k (-1)))), (q16, .inl (k16, 8, .inl (fun _ => 0))), (q24, .inl (k24, 8, .inl (fun _ => 0)))] H := hP
        have hD : va_D (va_A [(h0, .inr (0, [.null, .null, .null, .int 0, .int 0]))] s.heap.size) [(h0, .inr (0, [.ref q8, .ref q16, .ref q24, .int (nI 1), .int (-1)])), (q8, .inl (k8, 512, .inl (upd wv k (-1)))), (q16, .inl (k16, 8, .inl (fun _ => 0))), (q24, .inl (k24, 8, .inl (fun _ => 0)))] := hD
        refine lv_iinc (k := 1) (v := nI (k + 1)) hx hb d_C_init_57 hl rfl (nI_1 _) (by decide) rfl (fun ls hl => ?_)
        have hl : lv_has ls 2 [(1, .int (nI (k + 1))), (0, .ref h0)] := hl
        refine lv_goto (tgt := 41) hx hb d_C_init_60 (by decide) ?_
        exact ih41 (k + 1) (upd wv k (-1)) H locs ls (by omega) (by omega) (upd_lt hf) (lv_sub hl [1, 0] rfl) hP hD hS
  exact lp41 _ 0 (fun _ => 0) H locs ls (Nat.lt_succ_self _) (by omega) (fun i hi => absurd hi (Nat.not_lt_zero i)) (lv_sub hl [1, 0] rfl) hP hD hS
set_option maxHeartbeats 4000000 in
set_option maxRecDepth 100000 in
theorem c_G_init (l : Launch) (dC : Nat → ClassId) (dI : Nat → Nat → Nat) (h0 sz : Nat) : Met l y_G_init w_G_init ({ frames := 1, cells := 3, slots := 288, locals := 20 }) (xP (dC, dI) vwCl [] [(h0, .inr (2, [.null, .null, .null, .int 0, .int 0]))] sz [.ref h0]) (va_Qv (fun (u : (Nat → Nat) × (Nat → Nat)) => True) (fun (u : (Nat → Nat) × (Nat → Nat)) (t : State) => xB (dC, dI) vwCl [(u.2 0, .int), (u.2 1, .int), (u.2 2, .int)] (va_A [(h0, .inr (2, [.null, .null, .null, .int 0, .int 0]))] sz) [(h0, .inr (2, [.ref (u.1 0), .ref (u.1 1), .ref (u.1 2), .int (nI 0), .int (nI 0)])), (u.1 0, .inl (u.2 0, 192, .inl (fun _ => 0))), (u.1 1, .inl (u.2 1, 48, .inl (fun _ => 0))), (u.1 2, .inl (u.2 2, 48, .inl (fun _ => 0)))] t) (va_A [(h0, .inr (2, [.null, .null, .null, .int 0, .int 0]))] sz)) 3 288 (va_A [(h0, .inr (2, [.null, .null, .null, .int 0, .int 0]))] sz) := by
  refine Met.ofW (cc := b_G_init) (maxL := 1) (ret := none) (by decide) rfl ?_
  intro P e s m args below meth c0 s₁ B hml hv
  obtain ⟨rfl, hsz, hP, hK, hD0, hN⟩ := hv
  have hx := B.exec
  have hb := B.bytes
  have hr := B.returns
  have hts := atoms_spec (ws := w_G_init) B.pre
  have hown : s.vm.findClass R_G = some m.cls := findClass_of_methodNamed B.named
  have hlocks := B.notSynchronized
  subst hsz
  have hD := hD0.self (sz := s.heap.size)
  have hS : va_S (va_A [(h0, .inr (2, [.null, .null, .null, .int 0, .int 0]))] s.heap.size) s.heap s.heap [] := va_S.rf
  have hA : ∀ q : Nat, s.heap.size ≤ q → (va_A [(h0, .inr (2, [.null, .null, .null, .int 0, .int 0]))] s.heap.size) q := fun q h => Or.inr h
  have hin : meth.name = "<init>" := (name_of_methodNamed B.named B.method).1
  have hl := lv_entry ([.ref h0]) (n := 1) (Nat.le_of_ble_eq_true rfl)
  rw [lg_entry_eq]
  generalize (lg_sl ([.ref h0]) ++ List.replicate (1 - (lg_sl ([.ref h0])).length) Slot.unset).toArray = ls at hl ⊢
  have hl : lv_has ls 1 [(0, .ref h0)] := hl
  refine lv_aload_n hx hb d_G_init_0 rfl (lv_at hl 0 rfl) ?_
  refine W.objInit hx hb hown (hts (.methodLink R_G 3 objectInit) (List.mem_cons_of_mem _ t_83)) (hts (.instanceMethod objectInit) (List.mem_cons_of_mem _ t_20)) (hts _ (List.mem_cons_of_mem _ t_21)) rfl (by rw [hml]; exact hl.1) rfl d_G_init_1 (Nat.le_of_ble_eq_true rfl) (Nat.le_of_ble_eq_true rfl) ?_
  refine W.eq (g2 := F0 m 4 ls []) rfl ?_
  refine lv_aload_n hx hb d_G_init_4 rfl (lv_at hl 0 rfl) ?_
  refine lv_sipush (v := nI 192) hx hb d_G_init_5 (by decide) ?_
  refine va_newa (atype := .int) (ty := .int) (a0 := (192, .inl (fun _ => 0))) (N' := 192) hx hb (hts (.arrayClass .int) (List.mem_cons_of_mem _ t_50)) rfl hK hP hD hS hA (fun cA => nw_i cA 192) (by decide +kernel) (by decide +kernel) (by decide +kernel) (show 1 ≤ 3 by decide) (show 192 ≤ 288 by decide) d_G_init_8 (fun q8 k8 H hK hP hD hS => ?_)
  have hP : va_P (dC, dI) vwCl [(h0, .inr (2, [.null, .null, .null, .int 0, .int 0])), (q8, .inl (k8, 192, .inl (fun _ => 0)))] H := hP
  have hD : va_D (va_A [(h0, .inr (2, [.null, .null, .null, .int 0, .int 0]))] s.heap.size) [(h0, .inr (2, [.null, .null, .null, .int 0, .int 0])), (q8, .inl (k8, 192, .inl (fun _ => 0)))] := hD
  have hK : va_K (dC, dI) vwCl [(k8, .int)] s := hK
  refine va_putF (D := (dC, dI)) (ci := 2) (v := .ref q8) (ty := (.array .int)) (C := R_G) (T := F_G) (N := 5) hx hb hts (fun w h => List.mem_cons_of_mem _ (in_G w h)) t_G ok_G nm_G hown hK hP hD hS 0 rfl rfl 0 (by decide) (hts (.fieldLink R_G 9 R_G "words" "[I") (List.mem_cons_of_mem _ t_84)) (fun _ h9 => h9) rfl hin rfl (by decide +kernel) rfl rfl (Nat.le_of_ble_eq_true rfl) d_G_init_10 (fun H locs hP hD hS => ?_)
  have hP : va_P (dC, dI) vwCl [(h0, .inr (2, [.ref q8, .null, .null, .int 0, .int 0])), (q8, .inl (k8, 192, .inl (fun _ => 0)))] H := hP
  have hD : va_D (va_A [(h0, .inr (2, [.null, .null, .null, .int 0, .int 0]))] s.heap.size) [(h0, .inr (2, [.ref q8, .null, .null, .int 0, .int 0])), (q8, .inl (k8, 192, .inl (fun _ => 0)))] := hD
  refine lv_aload_n hx hb d_G_init_13 rfl (lv_at hl 0 rfl) ?_
  refine lv_bipush (v := nI 48) hx hb d_G_init_14 (by decide) ?_
  refine va_newa (atype := .int) (ty := .int) (a0 := (48, .inl (fun _ => 0))) (N' := 48) hx hb (hts (.arrayClass .int) (List.mem_cons_of_mem _ t_50)) rfl hK hP hD hS hA (fun cA => nw_i cA 48) (by decide +kernel) (by decide +kernel) (by decide +kernel) (show 2 ≤ 3 by decide) (show 240 ≤ 288 by decide) d_G_init_16 (fun q16 k16 H hK hP hD hS => ?_)
  have hP : va_P (dC, dI) vwCl [(h0, .inr (2, [.ref q8, .null, .null, .int 0, .int 0])), (q8, .inl (k8, 192, .inl (fun _ => 0))), (q16, .inl (k16, 48, .inl (fun _ => 0)))] H := hP
  have hD : va_D (va_A [(h0, .inr (2, [.null, .null, .null, .int 0, .int 0]))] s.heap.size) [(h0, .inr (2, [.ref q8, .null, .null, .int 0, .int 0])), (q8, .inl (k8, 192, .inl (fun _ => 0))), (q16, .inl (k16, 48, .inl (fun _ => 0)))] := hD
  have hK : va_K (dC, dI) vwCl [(k8, .int), (k16, .int)] s := hK
  refine va_putF (D := (dC, dI)) (ci := 2) (v := .ref q16) (ty := (.array .int)) (C := R_G) (T := F_G) (N := 5) hx hb hts (fun w h => List.mem_cons_of_mem _ (in_G w h)) t_G ok_G nm_G hown hK hP hD hS 0 rfl rfl 1 (by decide) (hts (.fieldLink R_G 15 R_G "recordOfTicket" "[I") (List.mem_cons_of_mem _ t_85)) (fun _ h9 => h9) rfl hin rfl (by decide +kernel) rfl rfl (Nat.le_of_ble_eq_true rfl) d_G_init_18 (fun H locs hP hD hS => ?_)
  have hP : va_P (dC, dI) vwCl [(h0, .inr (2, [.ref q8, .ref q16, .null, .int 0, .int 0])), (q8, .inl (k8, 192, .inl (fun _ => 0))), (q16, .inl (k16, 48, .inl (fun _ => 0)))] H := hP
  have hD : va_D (va_A [(h0, .inr (2, [.null, .null, .null, .int 0, .int 0]))] s.heap.size) [(h0, .inr (2, [.ref q8, .ref q16, .null, .int 0, .int 0])), (q8, .inl (k8, 192, .inl (fun _ => 0))), (q16, .inl (k16, 48, .inl (fun _ => 0)))] := hD
  refine lv_aload_n hx hb d_G_init_21 rfl (lv_at hl 0 rfl) ?_
  refine lv_bipush (v := nI 48) hx hb d_G_init_22 (by decide) ?_
  refine va_newa (atype := .int) (ty := .int) (a0 := (48, .inl (fun _ => 0))) (N' := 48) hx hb (hts (.arrayClass .int) (List.mem_cons_of_mem _ t_50)) rfl hK hP hD hS hA (fun cA => nw_i cA 48) (by decide +kernel) (by decide +kernel) (by decide +kernel) (show 3 ≤ 3 by decide) (show 288 ≤ 288 by decide) d_G_init_24 (fun q24 k24 H hK hP hD hS => ?_)
  have hP : va_P (dC, dI) vwCl [(h0, .inr (2, [.ref q8, .ref q16, .null, .int 0, .int 0])), (q8, .inl (k8, 192, .inl (fun _ => 0))), (q16, .inl (k16, 48, .inl (fun _ => 0))), (q24, .inl (k24, 48, .inl (fun _ => 0)))] H := hP
  have hD : va_D (va_A [(h0, .inr (2, [.null, .null, .null, .int 0, .int 0]))] s.heap.size) [(h0, .inr (2, [.ref q8, .ref q16, .null, .int 0, .int 0])), (q8, .inl (k8, 192, .inl (fun _ => 0))), (q16, .inl (k16, 48, .inl (fun _ => 0))), (q24, .inl (k24, 48, .inl (fun _ => 0)))] := hD
  have hK : va_K (dC, dI) vwCl [(k8, .int), (k16, .int), (k24, .int)] s := hK
  refine va_putF (D := (dC, dI)) (ci := 2) (v := .ref q24) (ty := (.array .int)) (C := R_G) (T := F_G) (N := 5) hx hb hts (fun w h => List.mem_cons_of_mem _ (in_G w h)) t_G ok_G nm_G hown hK hP hD hS 0 rfl rfl 2 (by decide) (hts (.fieldLink R_G 18 R_G "voidedBy" "[I") (List.mem_cons_of_mem _ t_86)) (fun _ h9 => h9) rfl hin rfl (by decide +kernel) rfl rfl (Nat.le_of_ble_eq_true rfl) d_G_init_26 (fun H locs hP hD hS => ?_)
  have hP : va_P (dC, dI) vwCl [(h0, .inr (2, [.ref q8, .ref q16, .ref q24, .int 0, .int 0])), (q8, .inl (k8, 192, .inl (fun _ => 0))), (q16, .inl (k16, 48, .inl (fun _ => 0))), (q24, .inl (k24, 48, .inl (fun _ => 0)))] H := hP
  have hD : va_D (va_A [(h0, .inr (2, [.null, .null, .null, .int 0, .int 0]))] s.heap.size) [(h0, .inr (2, [.ref q8, .ref q16, .ref q24, .int 0, .int 0])), (q8, .inl (k8, 192, .inl (fun _ => 0))), (q16, .inl (k16, 48, .inl (fun _ => 0))), (q24, .inl (k24, 48, .inl (fun _ => 0)))] := hD
  refine lv_aload_n hx hb d_G_init_29 rfl (lv_at hl 0 rfl) ?_
  refine lv_iconst (v := nI 0) hx hb d_G_init_30 (by decide) ?_
  refine va_put (D := (dC, dI)) (ci := 2) (v := .int (nI 0)) (ty := .int) (C := R_G) (T := F_G) (N := 5) hx hb hts (fun w h => List.mem_cons_of_mem _ (in_G w h)) t_G ok_G nm_G hown hK hP hD hS 0 rfl rfl 3 (by decide) (hts (.fieldLink R_G 21 R_G "records" "I") (List.mem_cons_of_mem _ t_87)) (fun _ h9 => h9) rfl (by decide +kernel) rfl rfl (Nat.le_of_ble_eq_true rfl) d_G_init_31 (fun H locs hP hD hS => ?_)
  have hP : va_P (dC, dI) vwCl [(h0, .inr (2, [.ref q8, .ref q16, .ref q24, .int (nI 0), .int 0])), (q8, .inl (k8, 192, .inl (fun _ => 0))), (q16, .inl (k16, 48, .inl (fun _ => 0))), (q24, .inl (k24, 48, .inl (fun _ => 0)))] H := hP
  have hD : va_D (va_A [(h0, .inr (2, [.null, .null, .null, .int 0, .int 0]))] s.heap.size) [(h0, .inr (2, [.ref q8, .ref q16, .ref q24, .int (nI 0), .int 0])), (q8, .inl (k8, 192, .inl (fun _ => 0))), (q16, .inl (k16, 48, .inl (fun _ => 0))), (q24, .inl (k24, 48, .inl (fun _ => 0)))] := hD
  refine lv_aload_n hx hb d_G_init_34 rfl (lv_at hl 0 rfl) ?_
  refine lv_iconst (v := nI 0) hx hb d_G_init_35 (by decide) ?_
  refine va_put (D := (dC, dI)) (ci := 2) (v := .int (nI 0)) (ty := .int) (C := R_G) (T := F_G) (N := 5) hx hb hts (fun w h => List.mem_cons_of_mem _ (in_G w h)) t_G ok_G nm_G hown hK hP hD hS 0 rfl rfl 4 (by decide) (hts (.fieldLink R_G 25 R_G "tickets" "I") (List.mem_cons_of_mem _ t_88)) (fun _ h9 => h9) rfl (by decide +kernel) rfl rfl (Nat.le_of_ble_eq_true rfl) d_G_init_36 (fun H locs hP hD hS => ?_)
  have hP : va_P (dC, dI) vwCl [(h0, .inr (2, [.ref q8, .ref q16, .ref q24, .int (nI 0), .int (nI 0)])), (q8, .inl (k8, 192, .inl (fun _ => 0))), (q16, .inl (k16, 48, .inl (fun _ => 0))), (q24, .inl (k24, 48, .inl (fun _ => 0)))] H := hP
  have hD : va_D (va_A [(h0, .inr (2, [.null, .null, .null, .int 0, .int 0]))] s.heap.size) [(h0, .inr (2, [.ref q8, .ref q16, .ref q24, .int (nI 0), .int (nI 0)])), (q8, .inl (k8, 192, .inl (fun _ => 0))), (q16, .inl (k16, 48, .inl (fun _ => 0))), (q24, .inl (k24, 48, .inl (fun _ => 0)))] := hD
  exact W.vret hx hb hr (fun t ht hW => ⟨⟨(fun k => [q8, q16, q24].getD k 0, fun k => [k8, k16, k24].getD k 0), rfl, trivial, ⟨by rw [ht]; exact hP, va_K.moved hW.alike (hK), hD⟩⟩, hS.F ht⟩) hS.2.2 d_G_init_39
set_option maxHeartbeats 4000000 in
set_option maxRecDepth 100000 in
theorem c_N_init (l : Launch) (dC : Nat → ClassId) (dI : Nat → Nat → Nat) (h0 sz : Nat) : Met l y_N_init w_N_init ({ frames := 1, cells := 1, slots := 32, locals := 20 }) (xP (dC, dI) vwCl [] [(h0, .inr (1, [.null, .int 0]))] sz [.ref h0]) (va_Qv (fun (u : Nat × Nat) => True) (fun (u : Nat × Nat) (t : State) => xB (dC, dI) vwCl [(u.2, .byte)] (va_A [(h0, .inr (1, [.null, .int 0]))] sz) [(h0, .inr (1, [.ref u.1, .int (nI 0)])), (u.1, .inl (u.2, 32, .inl (fun _ => 0)))] t) (va_A [(h0, .inr (1, [.null, .int 0]))] sz)) 1 32 (va_A [(h0, .inr (1, [.null, .int 0]))] sz) := by
  refine Met.ofW (cc := b_N_init) (maxL := 1) (ret := none) (by decide) rfl ?_
  intro P e s m args below meth c0 s₁ B hml hv
  obtain ⟨rfl, hsz, hP, hK, hD0, hN⟩ := hv
  have hx := B.exec
  have hb := B.bytes
  have hr := B.returns
  have hts := atoms_spec (ws := w_N_init) B.pre
  have hown : s.vm.findClass R_N = some m.cls := findClass_of_methodNamed B.named
  have hlocks := B.notSynchronized
  subst hsz
  have hD := hD0.self (sz := s.heap.size)
  have hS : va_S (va_A [(h0, .inr (1, [.null, .int 0]))] s.heap.size) s.heap s.heap [] := va_S.rf
  have hA : ∀ q : Nat, s.heap.size ≤ q → (va_A [(h0, .inr (1, [.null, .int 0]))] s.heap.size) q := fun q h => Or.inr h
  have hin : meth.name = "<init>" := (name_of_methodNamed B.named B.method).1
  have hl := lv_entry ([.ref h0]) (n := 1) (Nat.le_of_ble_eq_true rfl)
  rw [lg_entry_eq]
  generalize (lg_sl ([.ref h0]) ++ List.replicate (1 - (lg_sl ([.ref h0])).length) Slot.unset).toArray = ls at hl ⊢
  have hl : lv_has ls 1 [(0, .ref h0)] := hl
  refine lv_aload_n hx hb d_N_init_0 rfl (lv_at hl 0 rfl) ?_
  refine W.objInit hx hb hown (hts (.methodLink R_N 1 objectInit) (List.mem_cons_of_mem _ t_105)) (hts (.instanceMethod objectInit) (List.mem_cons_of_mem _ t_20)) (hts _ (List.mem_cons_of_mem _ t_21)) rfl (by rw [hml]; exact hl.1) rfl d_N_init_1 (Nat.le_of_ble_eq_true rfl) (Nat.le_of_ble_eq_true rfl) ?_
  refine W.eq (g2 := F0 m 4 ls []) rfl ?_
  refine lv_aload_n hx hb d_N_init_4 rfl (lv_at hl 0 rfl) ?_
  refine lv_bipush (v := nI 32) hx hb d_N_init_5 (by decide) ?_
  refine va_newa (atype := .byte) (ty := .byte) (a0 := (32, .inl (fun _ => 0))) (N' := 32) hx hb (hts (.arrayClass .byte) (List.mem_cons_of_mem _ t_113)) rfl hK hP hD hS hA (fun cA => nw_b cA 32) (by decide +kernel) (by decide +kernel) (by decide +kernel) (show 1 ≤ 1 by decide) (show 32 ≤ 32 by decide) d_N_init_7 (fun q7 k7 H hK hP hD hS => ?_)
  have hP : va_P (dC, dI) vwCl [(h0, .inr (1, [.null, .int 0])), (q7, .inl (k7, 32, .inl (fun _ => 0)))] H := hP
  have hD : va_D (va_A [(h0, .inr (1, [.null, .int 0]))] s.heap.size) [(h0, .inr (1, [.null, .int 0])), (q7, .inl (k7, 32, .inl (fun _ => 0)))] := hD
  have hK : va_K (dC, dI) vwCl [(k7, .byte)] s := hK
  refine va_putF (D := (dC, dI)) (ci := 1) (v := .ref q7) (ty := (.array .byte)) (C := R_N) (T := F_N) (N := 2) hx hb hts (fun w h => List.mem_cons_of_mem _ (in_N w h)) t_N ok_N nm_N hown hK hP hD hS 0 rfl rfl 0 (by decide) (hts (.fieldLink R_N 9 R_N "bytes" "[B") (List.mem_cons_of_mem _ t_106)) (fun _ h9 => h9) rfl hin rfl (by decide +kernel) rfl rfl (Nat.le_of_ble_eq_true rfl) d_N_init_9 (fun H locs hP hD hS => ?_)
  have hP : va_P (dC, dI) vwCl [(h0, .inr (1, [.ref q7, .int 0])), (q7, .inl (k7, 32, .inl (fun _ => 0)))] H := hP
  have hD : va_D (va_A [(h0, .inr (1, [.null, .int 0]))] s.heap.size) [(h0, .inr (1, [.ref q7, .int 0])), (q7, .inl (k7, 32, .inl (fun _ => 0)))] := hD
  refine lv_aload_n hx hb d_N_init_12 rfl (lv_at hl 0 rfl) ?_
  refine lv_iconst (v := nI 0) hx hb d_N_init_13 (by decide) ?_
  refine va_put (D := (dC, dI)) (ci := 1) (v := .int (nI 0)) (ty := .int) (C := R_N) (T := F_N) (N := 2) hx hb hts (fun w h => List.mem_cons_of_mem _ (in_N w h)) t_N ok_N nm_N hown hK hP hD hS 0 rfl rfl 1 (by decide) (hts (.fieldLink R_N 13 R_N "used" "I") (List.mem_cons_of_mem _ t_107)) (fun _ h9 => h9) rfl (by decide +kernel) rfl rfl (Nat.le_of_ble_eq_true rfl) d_N_init_14 (fun H locs hP hD hS => ?_)
  have hP : va_P (dC, dI) vwCl [(h0, .inr (1, [.ref q7, .int (nI 0)])), (q7, .inl (k7, 32, .inl (fun _ => 0)))] H := hP
  have hD : va_D (va_A [(h0, .inr (1, [.null, .int 0]))] s.heap.size) [(h0, .inr (1, [.ref q7, .int (nI 0)])), (q7, .inl (k7, 32, .inl (fun _ => 0)))] := hD
  exact W.vret hx hb hr (fun t ht hW => ⟨⟨(q7, k7), rfl, trivial, ⟨by rw [ht]; exact hP, va_K.moved hW.alike (hK), hD⟩⟩, hS.F ht⟩) hS.2.2 d_N_init_17
