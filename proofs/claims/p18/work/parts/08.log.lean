set_option maxHeartbeats 4000000 in
set_option maxRecDepth 100000 in
theorem c_G_recordCount (l : Launch) (dC : Nat → ClassId) (dI : Nat → Nat → Nat) (ad cd : Nat → Nat) (w wr fl : Nat → Int32) (pw sc : Int32) (lw rot vb : Nat → Int32) (rec tk : Int32) (live row : Nat → Int32) (cur ser dur wo : Int32) (bts : Nat → Int32) (us : Int32) (act : Nat → Int32) (rd rs : Int32) (rn : Nat) : Met l y_G_recordCount w_G_recordCount ({ frames := 0, cells := 0, slots := 0, locals := 0 }) (xR (dC, dI) vwCl (xt cd) (xw ad cd w wr fl pw sc lw rot vb (nI rn) tk live row cur ser dur wo bts us act rd rs) [.ref (ad 3)]) (vp_Si (fun r => r = nI rn)) 0 0 (fun _ => False) := by
  refine Met.ofW (cc := b_G_recordCount) (maxL := 1) (ret := (some (.int))) (by decide) rfl ?_
  intro P e s m args below meth c0 s₁ B hml hv
  obtain ⟨rfl, hP, hK, hN⟩ := hv
  have hx := B.exec
  have hb := B.bytes
  have hr := B.returns
  have hts := atoms_spec (ws := w_G_recordCount) B.pre
  have hown : s.vm.findClass R_G = some m.cls := findClass_of_methodNamed B.named
  have hlocks := B.notSynchronized
  have hl := lv_entry ([.ref (ad 3)]) (n := 1) (Nat.le_of_ble_eq_true rfl)
  rw [lg_entry_eq]
  generalize (lg_sl ([.ref (ad 3)]) ++ List.replicate (1 - (lg_sl ([.ref (ad 3)])).length) Slot.unset).toArray = ls at hl ⊢
  have hl : lv_has ls 1 [(0, .ref (ad 3))] := hl
  refine lv_aload_n hx hb d_G_recordCount_0 rfl (lv_at hl 0 rfl) ?_
  refine va_get (D := (dC, dI)) (ci := 2) (v := .int (nI rn)) (C := R_G) (T := F_G) (N := 5) hx hb hts (fun w h => List.mem_cons_of_mem _ (in_G w h)) hown hK hP 3 rfl rfl 3 (by decide) (hts (.fieldLink R_G 21 R_G "records" "I") (List.mem_cons_of_mem _ t_87)) (fun _ h9 => h9) rfl d_G_recordCount_1 ?_
  exact W.iret (v := nI rn) hx hb hr (fun t ht hW => ⟨nI rn, rfl, by first | rfl | trivial | omega, ht⟩) (fun q hq => by cases hq) d_G_recordCount_4
set_option maxHeartbeats 4000000 in
set_option maxRecDepth 100000 in
theorem c_G_ticketCount (l : Launch) (dC : Nat → ClassId) (dI : Nat → Nat → Nat) (ad cd : Nat → Nat) (w wr fl : Nat → Int32) (pw sc : Int32) (lw rot vb : Nat → Int32) (rec tk : Int32) (live row : Nat → Int32) (cur ser dur wo : Int32) (bts : Nat → Int32) (us : Int32) (act : Nat → Int32) (rd rs : Int32) (tn : Nat) : Met l y_G_ticketCount w_G_ticketCount ({ frames := 0, cells := 0, slots := 0, locals := 0 }) (xR (dC, dI) vwCl (xt cd) (xw ad cd w wr fl pw sc lw rot vb rec (nI tn) live row cur ser dur wo bts us act rd rs) [.ref (ad 3)]) (vp_Si (fun r => r = nI tn)) 0 0 (fun _ => False) := by
  refine Met.ofW (cc := b_G_ticketCount) (maxL := 1) (ret := (some (.int))) (by decide) rfl ?_
  intro P e s m args below meth c0 s₁ B hml hv
  obtain ⟨rfl, hP, hK, hN⟩ := hv
  have hx := B.exec
  have hb := B.bytes
  have hr := B.returns
  have hts := atoms_spec (ws := w_G_ticketCount) B.pre
  have hown : s.vm.findClass R_G = some m.cls := findClass_of_methodNamed B.named
  have hlocks := B.notSynchronized
  have hl := lv_entry ([.ref (ad 3)]) (n := 1) (Nat.le_of_ble_eq_true rfl)
  rw [lg_entry_eq]
  generalize (lg_sl ([.ref (ad 3)]) ++ List.replicate (1 - (lg_sl ([.ref (ad 3)])).length) Slot.unset).toArray = ls at hl ⊢
  have hl : lv_has ls 1 [(0, .ref (ad 3))] := hl
  refine lv_aload_n hx hb d_G_ticketCount_0 rfl (lv_at hl 0 rfl) ?_
  refine va_get (D := (dC, dI)) (ci := 2) (v := .int (nI tn)) (C := R_G) (T := F_G) (N := 5) hx hb hts (fun w h => List.mem_cons_of_mem _ (in_G w h)) hown hK hP 3 rfl rfl 4 (by decide) (hts (.fieldLink R_G 25 R_G "tickets" "I") (List.mem_cons_of_mem _ t_88)) (fun _ h9 => h9) rfl d_G_ticketCount_1 ?_
  exact W.iret (v := nI tn) hx hb hr (fun t ht hW => ⟨nI tn, rfl, by first | rfl | trivial | omega, ht⟩) (fun q hq => by cases hq) d_G_ticketCount_4
set_option maxHeartbeats 4000000 in
set_option maxRecDepth 100000 in
theorem c_G_empty (l : Launch) (dC : Nat → ClassId) (dI : Nat → Nat → Nat) (ad cd : Nat → Nat) (sz : Nat) (w wr fl : Nat → Int32) (pw sc : Int32) (lw rot vb : Nat → Int32) (rec tk : Int32) (live row : Nat → Int32) (cur ser dur wo : Int32) (bts : Nat → Int32) (us : Int32) (act : Nat → Int32) (rd rs : Int32)  : Met l y_G_empty w_G_empty ({ frames := 0, cells := 0, slots := 0, locals := 0 }) (xP (dC, dI) vwCl (xt cd) (xw ad cd w wr fl pw sc lw rot vb rec tk live row cur ser dur wo bts us act rd rs) sz [.ref (ad 3)]) (va_Qv (fun (u : (Nat → Nat → Int32) × (Nat → Int32) × (Nat → Nat)) => (u.2.2 0) = 0 ∧ (u.2.2 1) = 0) (fun (u : (Nat → Nat → Int32) × (Nat → Int32) × (Nat → Nat)) (t : State) => xB (dC, dI) vwCl (xt cd) (xA 15 ad sz) (xw ad cd w wr fl pw sc lw rot vb (nI (u.2.2 0)) (nI (u.2.2 1)) live row cur ser dur wo bts us act rd rs) t) (xA 15 ad sz)) 0 0 (xA 15 ad sz) := by
  refine Met.ofW (cc := b_G_empty) (maxL := 1) (ret := none) (by decide) rfl ?_
  intro P e s m args below meth c0 s₁ B hml hv
  obtain ⟨rfl, hsz, hP, hK, hD0, hN⟩ := hv
  have hx := B.exec
  have hb := B.bytes
  have hr := B.returns
  have hts := atoms_spec (ws := w_G_empty) B.pre
  have hown : s.vm.findClass R_G = some m.cls := findClass_of_methodNamed B.named
  have hlocks := B.notSynchronized
  subst hsz
  have hD := xw_D (sz := s.heap.size) hD0
  have hS : va_S (xA 15 ad s.heap.size) s.heap s.heap [] := va_S.rf
  have hA : ∀ q : Nat, s.heap.size ≤ q → (xA 15 ad s.heap.size) q := fun q h => Or.inr h
  have hl := lv_entry ([.ref (ad 3)]) (n := 1) (Nat.le_of_ble_eq_true rfl)
  rw [lg_entry_eq]
  generalize (lg_sl ([.ref (ad 3)]) ++ List.replicate (1 - (lg_sl ([.ref (ad 3)])).length) Slot.unset).toArray = ls at hl ⊢
  have hl : lv_has ls 1 [(0, .ref (ad 3))] := hl
  refine lv_aload_n hx hb d_G_empty_0 rfl (lv_at hl 0 rfl) ?_
  refine lv_iconst (v := nI 0) hx hb d_G_empty_1 (by decide) ?_
  refine va_put (D := (dC, dI)) (ci := 2) (v := .int (nI 0)) (ty := .int) (C := R_G) (T := F_G) (N := 5) hx hb hts (fun w h => List.mem_cons_of_mem _ (in_G w h)) t_G ok_G nm_G hown hK hP hD hS 3 rfl rfl 3 (by decide) (hts (.fieldLink R_G 21 R_G "records" "I") (List.mem_cons_of_mem _ t_87)) (fun _ h9 => h9) rfl (by decide +kernel) rfl rfl (Nat.le_of_ble_eq_true rfl) d_G_empty_2 (fun H locs hP hD hS => ?_)
  have hP : va_P (dC, dI) vwCl (xw ad cd w wr fl pw sc lw rot vb (nI 0) tk live row cur ser dur wo bts us act rd rs) H := hP
  have hD : va_D (xA 15 ad s.heap.size) (xw ad cd w wr fl pw sc lw rot vb (nI 0) tk live row cur ser dur wo bts us act rd rs) := hD
  refine lv_aload_n hx hb d_G_empty_5 rfl (lv_at hl 0 rfl) ?_
  refine lv_iconst (v := nI 0) hx hb d_G_empty_6 (by decide) ?_
  refine va_put (D := (dC, dI)) (ci := 2) (v := .int (nI 0)) (ty := .int) (C := R_G) (T := F_G) (N := 5) hx hb hts (fun w h => List.mem_cons_of_mem _ (in_G w h)) t_G ok_G nm_G hown hK hP hD hS 3 rfl rfl 4 (by decide) (hts (.fieldLink R_G 25 R_G "tickets" "I") (List.mem_cons_of_mem _ t_88)) (fun _ h9 => h9) rfl (by decide +kernel) rfl rfl (Nat.le_of_ble_eq_true rfl) d_G_empty_7 (fun H locs hP hD hS => ?_)
  have hP : va_P (dC, dI) vwCl (xw ad cd w wr fl pw sc lw rot vb (nI 0) (nI 0) live row cur ser dur wo bts us act rd rs) H := hP
  have hD : va_D (xA 15 ad s.heap.size) (xw ad cd w wr fl pw sc lw rot vb (nI 0) (nI 0) live row cur ser dur wo bts us act rd rs) := hD
  exact W.vret hx hb hr (fun t ht hW => ⟨⟨(fun i => [].getD i (fun _ => 0), fun i => [].getD i 0, fun i => [0, 0].getD i 0), rfl, ⟨rfl, rfl⟩, ⟨by rw [ht]; exact hP, va_K.moved hW.alike hK, hD⟩⟩, hS.F ht⟩) hS.2.2 d_G_empty_10
set_option maxHeartbeats 4000000 in
set_option maxRecDepth 100000 in
theorem c_G_isFull (l : Launch) (dC : Nat → ClassId) (dI : Nat → Nat → Nat) (ad cd : Nat → Nat) (w wr fl : Nat → Int32) (pw sc : Int32) (lw rot vb : Nat → Int32) (rec tk : Int32) (live row : Nat → Int32) (cur ser dur wo : Int32) (bts : Nat → Int32) (us : Int32) (act : Nat → Int32) (rd rs : Int32) (rn : Nat) (hr48 : rn ≤ 48) : Met l y_G_isFull w_G_isFull ({ frames := 0, cells := 0, slots := 0, locals := 0 }) (xR (dC, dI) vwCl (xt cd) (xw ad cd w wr fl pw sc lw rot vb (nI rn) tk live row cur ser dur wo bts us act rd rs) [.ref (ad 3)]) (vp_Si (fun r => (r = nI 1 ∧ 48 ≤ rn) ∨ (r = nI 0 ∧ ¬ 48 ≤ rn))) 0 0 (fun _ => False) := by
  refine Met.ofW (cc := b_G_isFull) (maxL := 1) (ret := (some (.boolean))) (by decide) rfl ?_
  intro P e s m args below meth c0 s₁ B hml hv
  obtain ⟨rfl, hP, hK, hN⟩ := hv
  have hx := B.exec
  have hb := B.bytes
  have hr := B.returns
  have hts := atoms_spec (ws := w_G_isFull) B.pre
  have hown : s.vm.findClass R_G = some m.cls := findClass_of_methodNamed B.named
  have hlocks := B.notSynchronized
  have hl := lv_entry ([.ref (ad 3)]) (n := 1) (Nat.le_of_ble_eq_true rfl)
  rw [lg_entry_eq]
  generalize (lg_sl ([.ref (ad 3)]) ++ List.replicate (1 - (lg_sl ([.ref (ad 3)])).length) Slot.unset).toArray = ls at hl ⊢
  have hl : lv_has ls 1 [(0, .ref (ad 3))] := hl
  refine lv_aload_n hx hb d_G_isFull_0 rfl (lv_at hl 0 rfl) ?_
  refine va_get (D := (dC, dI)) (ci := 2) (v := .int (nI rn)) (C := R_G) (T := F_G) (N := 5) hx hb hts (fun w h => List.mem_cons_of_mem _ (in_G w h)) hown hK hP 3 rfl rfl 3 (by decide) (hts (.fieldLink R_G 21 R_G "records" "I") (List.mem_cons_of_mem _ t_87)) (fun _ h9 => h9) rfl d_G_isFull_1 ?_
  refine lv_bipush (v := nI 48) hx hb d_G_isFull_4 (by decide) ?_
  refine lv_icmp_lt (tgt := 13) hx hb d_G_isFull_6 (by decide) (fun c6 => ?_) (fun c6 => ?_)
  ·
    have c6 := cd_lt_t (by omega) (by omega) c6
    refine lv_iconst (v := nI 0) hx hb d_G_isFull_13 (by decide) ?_
    exact W.zret (v := nI 0) hx hb hr (by first | rfl | decide | assumption) (fun t ht hW => ⟨nI 0, rfl, Or.inr ⟨rfl, by omega⟩, ht⟩) (fun q hq => by cases hq) d_G_isFull_14
  ·
    have c6 := cd_lt_f (by omega) (by omega) c6
    refine lv_iconst (v := nI 1) hx hb d_G_isFull_9 (by decide) ?_
    refine lv_goto (tgt := 14) hx hb d_G_isFull_10 (by decide) ?_
    exact W.zret (v := nI 1) hx hb hr (by first | rfl | decide | assumption) (fun t ht hW => ⟨nI 1, rfl, Or.inl ⟨rfl, by omega⟩, ht⟩) (fun q hq => by cases hq) d_G_isFull_14
set_option maxHeartbeats 4000000 in
set_option maxRecDepth 100000 in
theorem c_G_nextFillsLeaf (l : Launch) (dC : Nat → ClassId) (dI : Nat → Nat → Nat) (ad cd : Nat → Nat) (w wr fl : Nat → Int32) (pw sc : Int32) (lw rot vb : Nat → Int32) (rec tk : Int32) (live row : Nat → Int32) (cur ser dur wo : Int32) (bts : Nat → Int32) (us : Int32) (act : Nat → Int32) (rd rs : Int32) (rn : Nat) (hr48 : rn ≤ 48) : Met l y_G_nextFillsLeaf w_G_nextFillsLeaf ({ frames := 0, cells := 0, slots := 0, locals := 0 }) (xR (dC, dI) vwCl (xt cd) (xw ad cd w wr fl pw sc lw rot vb (nI rn) tk live row cur ser dur wo bts us act rd rs) [.ref (ad 3)]) (vp_Si (fun r => B01 r)) 0 0 (fun _ => False) := by
  refine Met.ofW (cc := b_G_nextFillsLeaf) (maxL := 1) (ret := (some (.boolean))) (by decide) rfl ?_
  intro P e s m args below meth c0 s₁ B hml hv
  obtain ⟨rfl, hP, hK, hN⟩ := hv
  have hx := B.exec
  have hb := B.bytes
  have hr := B.returns
  have hts := atoms_spec (ws := w_G_nextFillsLeaf) B.pre
  have hown : s.vm.findClass R_G = some m.cls := findClass_of_methodNamed B.named
  have hlocks := B.notSynchronized
  have hl := lv_entry ([.ref (ad 3)]) (n := 1) (Nat.le_of_ble_eq_true rfl)
  rw [lg_entry_eq]
  generalize (lg_sl ([.ref (ad 3)]) ++ List.replicate (1 - (lg_sl ([.ref (ad 3)])).length) Slot.unset).toArray = ls at hl ⊢
  have hl : lv_has ls 1 [(0, .ref (ad 3))] := hl
  refine lv_aload_n hx hb d_G_nextFillsLeaf_0 rfl (lv_at hl 0 rfl) ?_
  refine va_get (D := (dC, dI)) (ci := 2) (v := .int (nI rn)) (C := R_G) (T := F_G) (N := 5) hx hb hts (fun w h => List.mem_cons_of_mem _ (in_G w h)) hown hK hP 3 rfl rfl 3 (by decide) (hts (.fieldLink R_G 21 R_G "records" "I") (List.mem_cons_of_mem _ t_87)) (fun _ h9 => h9) rfl d_G_nextFillsLeaf_1 ?_
  refine lv_iconst (v := nI 3) hx hb d_G_nextFillsLeaf_4 (by decide) ?_
  refine lv_irem hx hb d_G_nextFillsLeaf_5 (by decide) ?_
  refine tp_i (y := nI (rn % 3)) (pk_rem (by omega) (by omega) (by omega)) ?_
  refine lv_iconst (v := nI 2) hx hb d_G_nextFillsLeaf_6 (by decide) ?_
  refine lv_icmp_ne (tgt := 14) hx hb d_G_nextFillsLeaf_7 (by decide) (fun c7 => ?_) (fun c7 => ?_)
  ·
    have c7 := cd_ne_t (by omega) (by omega) c7
    refine lv_iconst (v := nI 0) hx hb d_G_nextFillsLeaf_14 (by decide) ?_
    exact W.zret (v := nI 0) hx hb hr (by first | rfl | decide | assumption) (fun t ht hW => ⟨nI 0, rfl, by first | exact Or.inl rfl | exact Or.inr rfl | assumption, ht⟩) (fun q hq => by cases hq) d_G_nextFillsLeaf_15
  ·
    have c7 := cd_ne_f (by omega) (by omega) c7
    refine lv_iconst (v := nI 1) hx hb d_G_nextFillsLeaf_10 (by decide) ?_
    refine lv_goto (tgt := 15) hx hb d_G_nextFillsLeaf_11 (by decide) ?_
    exact W.zret (v := nI 1) hx hb hr (by first | rfl | decide | assumption) (fun t ht hW => ⟨nI 1, rfl, by first | exact Or.inl rfl | exact Or.inr rfl | assumption, ht⟩) (fun q hq => by cases hq) d_G_nextFillsLeaf_15
set_option maxHeartbeats 4000000 in
set_option maxRecDepth 100000 in
theorem c_G_hasTicket (l : Launch) (dC : Nat → ClassId) (dI : Nat → Nat → Nat) (ad cd : Nat → Nat) (w wr fl : Nat → Int32) (pw sc : Int32) (lw rot vb : Nat → Int32) (rec tk : Int32) (live row : Nat → Int32) (cur ser dur wo : Int32) (bts : Nat → Int32) (us : Int32) (act : Nat → Int32) (rd rs : Int32) (tn : Nat) (n : Int32) : Met l y_G_hasTicket w_G_hasTicket ({ frames := 0, cells := 0, slots := 0, locals := 0 }) (xR (dC, dI) vwCl (xt cd) (xw ad cd w wr fl pw sc lw rot vb rec (nI tn) live row cur ser dur wo bts us act rd rs) [.ref (ad 3), .int n]) (vp_Si (fun r => (r = nI 1 ∧ (nI 1 ≤ n ∧ n ≤ nI tn)) ∨ (r = nI 0 ∧ ¬ (nI 1 ≤ n ∧ n ≤ nI tn)))) 0 0 (fun _ => False) := by
  refine Met.ofW (cc := b_G_hasTicket) (maxL := 2) (ret := (some (.boolean))) (by decide) rfl ?_
  intro P e s m args below meth c0 s₁ B hml hv
  obtain ⟨rfl, hP, hK, hN⟩ := hv
  have hx := B.exec
  have hb := B.bytes
  have hr := B.returns
  have hts := atoms_spec (ws := w_G_hasTicket) B.pre
  have hown : s.vm.findClass R_G = some m.cls := findClass_of_methodNamed B.named
  have hlocks := B.notSynchronized
  have hl := lv_entry ([.ref (ad 3), .int n]) (n := 2) (Nat.le_of_ble_eq_true rfl)
  rw [lg_entry_eq]
  generalize (lg_sl ([.ref (ad 3), .int n]) ++ List.replicate (2 - (lg_sl ([.ref (ad 3), .int n])).length) Slot.unset).toArray = ls at hl ⊢
  have hl : lv_has ls 2 [(0, .ref (ad 3)), (1, .int n)] := hl
  refine lv_iload_n hx hb d_G_hasTicket_0 rfl (lv_at hl 1 rfl) ?_
  refine lv_iconst (v := nI 1) hx hb d_G_hasTicket_1 (by decide) ?_
  refine lv_icmp_lt (tgt := 17) hx hb d_G_hasTicket_2 (by decide) (fun c2 => ?_) (fun c2 => ?_)
  ·
    refine lv_iconst (v := nI 0) hx hb d_G_hasTicket_17 (by decide) ?_
    exact W.zret (v := nI 0) hx hb hr (by first | rfl | decide | assumption) (fun t ht hW => ⟨nI 0, rfl, Or.inr ⟨rfl, fun z => by first | exact absurd z.1 (Int32.not_le.mpr c2) | exact absurd z.2 (Int32.not_le.mpr c10)⟩, ht⟩) (fun q hq => by cases hq) d_G_hasTicket_18
  ·
    refine lv_iload_n hx hb d_G_hasTicket_5 rfl (lv_at hl 1 rfl) ?_
    refine lv_aload_n hx hb d_G_hasTicket_6 rfl (lv_at hl 0 rfl) ?_
    refine va_get (D := (dC, dI)) (ci := 2) (v := .int (nI tn)) (C := R_G) (T := F_G) (N := 5) hx hb hts (fun w h => List.mem_cons_of_mem _ (in_G w h)) hown hK hP 3 rfl rfl 4 (by decide) (hts (.fieldLink R_G 25 R_G "tickets" "I") (List.mem_cons_of_mem _ t_88)) (fun _ h9 => h9) rfl d_G_hasTicket_7 ?_
    refine lv_icmp_gt (tgt := 17) hx hb d_G_hasTicket_10 (by decide) (fun c10 => ?_) (fun c10 => ?_)
    ·
      refine lv_iconst (v := nI 0) hx hb d_G_hasTicket_17 (by decide) ?_
      exact W.zret (v := nI 0) hx hb hr (by first | rfl | decide | assumption) (fun t ht hW => ⟨nI 0, rfl, Or.inr ⟨rfl, fun z => by first | exact absurd z.1 (Int32.not_le.mpr c2) | exact absurd z.2 (Int32.not_le.mpr c10)⟩, ht⟩) (fun q hq => by cases hq) d_G_hasTicket_18
    ·
      refine lv_iconst (v := nI 1) hx hb d_G_hasTicket_13 (by decide) ?_
      refine lv_goto (tgt := 18) hx hb d_G_hasTicket_14 (by decide) ?_
      exact W.zret (v := nI 1) hx hb hr (by first | rfl | decide | assumption) (fun t ht hW => ⟨nI 1, rfl, Or.inl ⟨rfl, Int32.not_lt.mp c2, Int32.not_lt.mp c10⟩, ht⟩) (fun q hq => by cases hq) d_G_hasTicket_18
set_option maxHeartbeats 4000000 in
set_option maxRecDepth 100000 in
theorem c_G_recordOf (l : Launch) (dC : Nat → ClassId) (dI : Nat → Nat → Nat) (ad cd : Nat → Nat) (w wr fl : Nat → Int32) (pw sc : Int32) (lw rot vb : Nat → Int32) (rec tk : Int32) (live row : Nat → Int32) (cur ser dur wo : Int32) (bts : Nat → Int32) (us : Int32) (act : Nat → Int32) (rd rs : Int32) (n : Nat) (hn1 : 1 ≤ n) (hn2 : n ≤ 48) (hrot : ∀ i, i < 48 → IX 48 (rot i)) : Met l y_G_recordOf w_G_recordOf ({ frames := 0, cells := 0, slots := 0, locals := 0 }) (xR (dC, dI) vwCl (xt cd) (xw ad cd w wr fl pw sc lw rot vb rec tk live row cur ser dur wo bts us act rd rs) [.ref (ad 3), .int (nI n)]) (vp_Si (fun r => IX 48 r)) 0 0 (fun _ => False) := by
  refine Met.ofW (cc := b_G_recordOf) (maxL := 2) (ret := (some (.int))) (by decide) rfl ?_
  intro P e s m args below meth c0 s₁ B hml hv
  obtain ⟨rfl, hP, hK, hN⟩ := hv
  have hx := B.exec
  have hb := B.bytes
  have hr := B.returns
  have hts := atoms_spec (ws := w_G_recordOf) B.pre
  have hown : s.vm.findClass R_G = some m.cls := findClass_of_methodNamed B.named
  have hlocks := B.notSynchronized
  have hl := lv_entry ([.ref (ad 3), .int (nI n)]) (n := 2) (Nat.le_of_ble_eq_true rfl)
  rw [lg_entry_eq]
  generalize (lg_sl ([.ref (ad 3), .int (nI n)]) ++ List.replicate (2 - (lg_sl ([.ref (ad 3), .int (nI n)])).length) Slot.unset).toArray = ls at hl ⊢
  have hl : lv_has ls 2 [(0, .ref (ad 3)), (1, .int (nI n))] := hl
  refine lv_aload_n hx hb d_G_recordOf_0 rfl (lv_at hl 0 rfl) ?_
  refine va_get (D := (dC, dI)) (ci := 2) (v := .ref (ad 12)) (C := R_G) (T := F_G) (N := 5) hx hb hts (fun w h => List.mem_cons_of_mem _ (in_G w h)) hown hK hP 3 rfl rfl 1 (by decide) (hts (.fieldLink R_G 15 R_G "recordOfTicket" "[I") (List.mem_cons_of_mem _ t_85)) (fun _ h9 => h9) rfl d_G_recordOf_1 ?_
  refine lv_iload_n hx hb d_G_recordOf_4 rfl (lv_at hl 1 rfl) ?_
  refine lv_iconst (v := nI 1) hx hb d_G_recordOf_5 (by decide) ?_
  refine lv_isub hx hb d_G_recordOf_6 ?_
  refine tp_i (y := nI (n - 1)) (pk_sub (by omega)) ?_
  refine va_iald hx hb hK hP 12 7 rfl rfl (vp_in_nI (by omega) (by decide)) d_G_recordOf_7 ?_
  refine tp_i (y := rot (n - 1)) (by rw [nI_clamp (by omega)]) ?_
  exact W.iret (v := rot (n - 1)) hx hb hr (fun t ht hW => ⟨rot (n - 1), rfl, hrot _ (by omega), ht⟩) (fun q hq => by cases hq) d_G_recordOf_8
set_option maxHeartbeats 4000000 in
set_option maxRecDepth 100000 in
theorem c_G_wordOf (l : Launch) (dC : Nat → ClassId) (dI : Nat → Nat → Nat) (ad cd : Nat → Nat) (w wr fl : Nat → Int32) (pw sc : Int32) (lw rot vb : Nat → Int32) (rec tk : Int32) (live row : Nat → Int32) (cur ser dur wo : Int32) (bts : Nat → Int32) (us : Int32) (act : Nat → Int32) (rd rs : Int32) (n : Nat) (k : Nat) (hn1 : 1 ≤ n) (hn2 : n ≤ 48) (hk : k < 4) (hrot : ∀ i, i < 48 → IX 48 (rot i)) : Met l y_G_wordOf w_G_wordOf ({ frames := 1, cells := 0, slots := 0, locals := 21 }) (xR (dC, dI) vwCl (xt cd) (xw ad cd w wr fl pw sc lw rot vb rec tk live row cur ser dur wo bts us act rd rs) [.ref (ad 3), .int (nI n), .int (nI k)]) (vp_Si (fun r => True)) 0 0 (fun _ => False) := by
  refine Met.ofW (cc := b_G_wordOf) (maxL := 3) (ret := (some (.int))) (by decide) rfl ?_
  intro P e s m args below meth c0 s₁ B hml hv
  obtain ⟨rfl, hP, hK, hN⟩ := hv
  have hx := B.exec
  have hb := B.bytes
  have hr := B.returns
  have hts := atoms_spec (ws := w_G_wordOf) B.pre
  have hown : s.vm.findClass R_G = some m.cls := findClass_of_methodNamed B.named
  have hlocks := B.notSynchronized
  have hl := lv_entry ([.ref (ad 3), .int (nI n), .int (nI k)]) (n := 3) (Nat.le_of_ble_eq_true rfl)
  rw [lg_entry_eq]
  generalize (lg_sl ([.ref (ad 3), .int (nI n), .int (nI k)]) ++ List.replicate (3 - (lg_sl ([.ref (ad 3), .int (nI n), .int (nI k)])).length) Slot.unset).toArray = ls at hl ⊢
  have hl : lv_has ls 3 [(0, .ref (ad 3)), (1, .int (nI n)), (2, .int (nI k))] := hl
  refine lv_aload_n hx hb d_G_wordOf_0 rfl (lv_at hl 0 rfl) ?_
  refine va_get (D := (dC, dI)) (ci := 2) (v := .ref (ad 11)) (C := R_G) (T := F_G) (N := 5) hx hb hts (fun w h => List.mem_cons_of_mem _ (in_G w h)) hown hK hP 3 rfl rfl 0 (by decide) (hts (.fieldLink R_G 9 R_G "words" "[I") (List.mem_cons_of_mem _ t_84)) (fun _ h9 => h9) rfl d_G_wordOf_1 ?_
  refine lv_aload_n hx hb d_G_wordOf_4 rfl (lv_at hl 0 rfl) ?_
  refine lv_iload_n hx hb d_G_wordOf_5 rfl (lv_at hl 1 rfl) ?_
  refine vp_callSi (va_runV (C := R_G) (As := [.int (nI n)]) (rest := [.ref (ad 11)]) ⟨hx, hb, hml, hown, hts⟩ (c_G_recordOf l dC dI ad cd w wr fl pw sc lw rot vb rec tk live row cur ser dur wo bts us act rd rs n (by first | omega | rfl | assumption | decide) (by first | omega | rfl | assumption | decide) (by first | omega | rfl | assumption | decide)) (cwV 1 hts (g_V t_517 t_518 t_519 t_4 t_520) rfl rfl rfl (by decide +kernel) ⟨by decide, by decide⟩) (xR_v hP hK hN 3 rfl rfl) rfl rfl hl.1 rfl (lv_room (Nat.le_of_ble_eq_true rfl)) d_G_wordOf_6 ⟨Nat.le_refl _, Nat.le_refl _⟩).run (fun r6 q6 => ?_)
  obtain ⟨p6, hp6, rfl⟩ := q6
  refine lv_iconst (v := nI 4) hx hb d_G_wordOf_9 (by decide) ?_
  refine lv_imul hx hb d_G_wordOf_10 ?_
  refine tp_i (y := nI (p6 * 4)) (pk_mul _ _) ?_
  refine lv_iload_n hx hb d_G_wordOf_11 rfl (lv_at hl 2 rfl) ?_
  refine lv_iadd hx hb d_G_wordOf_12 ?_
  refine tp_i (y := nI ((p6 * 4) + k)) (nI_add _ _) ?_
  refine va_iald hx hb hK hP 11 6 rfl rfl (vp_in_nI (by omega) (by decide)) d_G_wordOf_13 ?_
  refine tp_i (y := lw ((p6 * 4) + k)) (by rw [nI_clamp (by omega)]) ?_
  exact W.iret (v := lw ((p6 * 4) + k)) hx hb hr (fun t ht hW => ⟨lw ((p6 * 4) + k), rfl, by first | rfl | trivial | omega, ht⟩) (fun q hq => by cases hq) d_G_wordOf_14
set_option maxHeartbeats 4000000 in
set_option maxRecDepth 100000 in
theorem c_G_plateOf (l : Launch) (dC : Nat → ClassId) (dI : Nat → Nat → Nat) (ad cd : Nat → Nat) (w wr fl : Nat → Int32) (pw sc : Int32) (lw rot vb : Nat → Int32) (rec tk : Int32) (live row : Nat → Int32) (cur ser dur wo : Int32) (bts : Nat → Int32) (us : Int32) (act : Nat → Int32) (rd rs : Int32) (n : Nat) (hn1 : 1 ≤ n) (hn2 : n ≤ 48) (hrot : ∀ i, i < 48 → IX 48 (rot i)) : Met l y_G_plateOf w_G_plateOf ({ frames := 2, cells := 0, slots := 0, locals := 43 }) (xR (dC, dI) vwCl (xt cd) (xw ad cd w wr fl pw sc lw rot vb rec tk live row cur ser dur wo bts us act rd rs) [.ref (ad 3), .int (nI n)]) (vp_Si (fun r => True)) 0 0 (fun _ => False) := by
  refine Met.ofW (cc := b_G_plateOf) (maxL := 2) (ret := (some (.int))) (by decide) rfl ?_
  intro P e s m args below meth c0 s₁ B hml hv
  obtain ⟨rfl, hP, hK, hN⟩ := hv
  have hx := B.exec
  have hb := B.bytes
  have hr := B.returns
  have hts := atoms_spec (ws := w_G_plateOf) B.pre
  have hown : s.vm.findClass R_G = some m.cls := findClass_of_methodNamed B.named
  have hlocks := B.notSynchronized
  have hl := lv_entry ([.ref (ad 3), .int (nI n)]) (n := 2) (Nat.le_of_ble_eq_true rfl)
  rw [lg_entry_eq]
  generalize (lg_sl ([.ref (ad 3), .int (nI n)]) ++ List.replicate (2 - (lg_sl ([.ref (ad 3), .int (nI n)])).length) Slot.unset).toArray = ls at hl ⊢
  have hl : lv_has ls 2 [(0, .ref (ad 3)), (1, .int (nI n))] := hl
  refine lv_aload_n hx hb d_G_plateOf_0 rfl (lv_at hl 0 rfl) ?_
  refine lv_iload_n hx hb d_G_plateOf_1 rfl (lv_at hl 1 rfl) ?_
  refine lv_iconst (v := nI 0) hx hb d_G_plateOf_2 (by decide) ?_
  refine vp_callSi (va_runV (C := R_G) (As := [.int (nI n), .int (nI 0)]) (rest := []) ⟨hx, hb, hml, hown, hts⟩ (c_G_wordOf l dC dI ad cd w wr fl pw sc lw rot vb rec tk live row cur ser dur wo bts us act rd rs n 0 (by first | omega | rfl | assumption | decide) (by first | omega | rfl | assumption | decide) (by first | omega | rfl | assumption | decide) (by first | omega | rfl | assumption | decide)) (cwV 2 hts (g_V t_513 t_515 s_17 t_4 t_516) rfl rfl rfl (by decide +kernel) ⟨by decide, by decide⟩) (xR_v hP hK hN 3 rfl rfl) rfl rfl hl.1 rfl (lv_room (Nat.le_of_ble_eq_true rfl)) d_G_plateOf_3 ⟨Nat.le_refl _, Nat.le_refl _⟩).run (fun r3 q3 => ?_)
  have hk3 := q3
  exact W.iret (v := r3) hx hb hr (fun t ht hW => ⟨r3, rfl, by first | rfl | trivial | omega, ht⟩) (fun q hq => by cases hq) d_G_plateOf_6
set_option maxHeartbeats 4000000 in
set_option maxRecDepth 100000 in
theorem c_G_grossOf (l : Launch) (dC : Nat → ClassId) (dI : Nat → Nat → Nat) (ad cd : Nat → Nat) (w wr fl : Nat → Int32) (pw sc : Int32) (lw rot vb : Nat → Int32) (rec tk : Int32) (live row : Nat → Int32) (cur ser dur wo : Int32) (bts : Nat → Int32) (us : Int32) (act : Nat → Int32) (rd rs : Int32) (n : Nat) (hn1 : 1 ≤ n) (hn2 : n ≤ 48) (hrot : ∀ i, i < 48 → IX 48 (rot i)) : Met l y_G_grossOf w_G_grossOf ({ frames := 2, cells := 0, slots := 0, locals := 43 }) (xR (dC, dI) vwCl (xt cd) (xw ad cd w wr fl pw sc lw rot vb rec tk live row cur ser dur wo bts us act rd rs) [.ref (ad 3), .int (nI n)]) (vp_Si (fun r => True)) 0 0 (fun _ => False) := by
  refine Met.ofW (cc := b_G_grossOf) (maxL := 2) (ret := (some (.int))) (by decide) rfl ?_
  intro P e s m args below meth c0 s₁ B hml hv
  obtain ⟨rfl, hP, hK, hN⟩ := hv
  have hx := B.exec
  have hb := B.bytes
  have hr := B.returns
  have hts := atoms_spec (ws := w_G_grossOf) B.pre
  have hown : s.vm.findClass R_G = some m.cls := findClass_of_methodNamed B.named
  have hlocks := B.notSynchronized
  have hl := lv_entry ([.ref (ad 3), .int (nI n)]) (n := 2) (Nat.le_of_ble_eq_true rfl)
  rw [lg_entry_eq]
  generalize (lg_sl ([.ref (ad 3), .int (nI n)]) ++ List.replicate (2 - (lg_sl ([.ref (ad 3), .int (nI n)])).length) Slot.unset).toArray = ls at hl ⊢
  have hl : lv_has ls 2 [(0, .ref (ad 3)), (1, .int (nI n))] := hl
  refine lv_aload_n hx hb d_G_grossOf_0 rfl (lv_at hl 0 rfl) ?_
  refine lv_iload_n hx hb d_G_grossOf_1 rfl (lv_at hl 1 rfl) ?_
  refine lv_iconst (v := nI 1) hx hb d_G_grossOf_2 (by decide) ?_
  refine vp_callSi (va_runV (C := R_G) (As := [.int (nI n), .int (nI 1)]) (rest := []) ⟨hx, hb, hml, hown, hts⟩ (c_G_wordOf l dC dI ad cd w wr fl pw sc lw rot vb rec tk live row cur ser dur wo bts us act rd rs n 1 (by first | omega | rfl | assumption | decide) (by first | omega | rfl | assumption | decide) (by first | omega | rfl | assumption | decide) (by first | omega | rfl | assumption | decide)) (cwV 2 hts (g_V t_513 t_515 s_17 t_4 t_516) rfl rfl rfl (by decide +kernel) ⟨by decide, by decide⟩) (xR_v hP hK hN 3 rfl rfl) rfl rfl hl.1 rfl (lv_room (Nat.le_of_ble_eq_true rfl)) d_G_grossOf_3 ⟨Nat.le_refl _, Nat.le_refl _⟩).run (fun r3 q3 => ?_)
  have hk3 := q3
  refine lv_bipush (v := nI 18) hx hb d_G_grossOf_6 (by decide) ?_
  refine lv_iushr hx hb d_G_grossOf_8 rfl ?_
  refine lv_bipush (v := nI 20) hx hb d_G_grossOf_9 (by decide) ?_
  refine lv_imul hx hb d_G_grossOf_11 ?_
  exact W.iret (v := ((r3.toUInt32 >>> (Int32.toUInt32 (nI 18) &&& Int32.toUInt32 31)).toInt32) * (nI 20)) hx hb hr (fun t ht hW => ⟨((r3.toUInt32 >>> (Int32.toUInt32 (nI 18) &&& Int32.toUInt32 31)).toInt32) * (nI 20), rfl, by first | rfl | trivial | omega, ht⟩) (fun q hq => by cases hq) d_G_grossOf_12
set_option maxHeartbeats 4000000 in
set_option maxRecDepth 100000 in
theorem c_G_tareOf (l : Launch) (dC : Nat → ClassId) (dI : Nat → Nat → Nat) (ad cd : Nat → Nat) (w wr fl : Nat → Int32) (pw sc : Int32) (lw rot vb : Nat → Int32) (rec tk : Int32) (live row : Nat → Int32) (cur ser dur wo : Int32) (bts : Nat → Int32) (us : Int32) (act : Nat → Int32) (rd rs : Int32) (n : Nat) (hn1 : 1 ≤ n) (hn2 : n ≤ 48) (hrot : ∀ i, i < 48 → IX 48 (rot i)) : Met l y_G_tareOf w_G_tareOf ({ frames := 2, cells := 0, slots := 0, locals := 43 }) (xR (dC, dI) vwCl (xt cd) (xw ad cd w wr fl pw sc lw rot vb rec tk live row cur ser dur wo bts us act rd rs) [.ref (ad 3), .int (nI n)]) (vp_Si (fun r => True)) 0 0 (fun _ => False) := by
  refine Met.ofW (cc := b_G_tareOf) (maxL := 2) (ret := (some (.int))) (by decide) rfl ?_
  intro P e s m args below meth c0 s₁ B hml hv
  obtain ⟨rfl, hP, hK, hN⟩ := hv
  have hx := B.exec
  have hb := B.bytes
  have hr := B.returns
  have hts := atoms_spec (ws := w_G_tareOf) B.pre
  have hown : s.vm.findClass R_G = some m.cls := findClass_of_methodNamed B.named
  have hlocks := B.notSynchronized
  have hl := lv_entry ([.ref (ad 3), .int (nI n)]) (n := 2) (Nat.le_of_ble_eq_true rfl)
  rw [lg_entry_eq]
  generalize (lg_sl ([.ref (ad 3), .int (nI n)]) ++ List.replicate (2 - (lg_sl ([.ref (ad 3), .int (nI n)])).length) Slot.unset).toArray = ls at hl ⊢
  have hl : lv_has ls 2 [(0, .ref (ad 3)), (1, .int (nI n))] := hl
  refine lv_aload_n hx hb d_G_tareOf_0 rfl (lv_at hl 0 rfl) ?_
  refine lv_iload_n hx hb d_G_tareOf_1 rfl (lv_at hl 1 rfl) ?_
  refine lv_iconst (v := nI 1) hx hb d_G_tareOf_2 (by decide) ?_
  refine vp_callSi (va_runV (C := R_G) (As := [.int (nI n), .int (nI 1)]) (rest := []) ⟨hx, hb, hml, hown, hts⟩ (c_G_wordOf l dC dI ad cd w wr fl pw sc lw rot vb rec tk live row cur ser dur wo bts us act rd rs n 1 (by first | omega | rfl | assumption | decide) (by first | omega | rfl | assumption | decide) (by first | omega | rfl | assumption | decide) (by first | omega | rfl | assumption | decide)) (cwV 2 hts (g_V t_513 t_515 s_17 t_4 t_516) rfl rfl rfl (by decide +kernel) ⟨by decide, by decide⟩) (xR_v hP hK hN 3 rfl rfl) rfl rfl hl.1 rfl (lv_room (Nat.le_of_ble_eq_true rfl)) d_G_tareOf_3 ⟨Nat.le_refl _, Nat.le_refl _⟩).run (fun r3 q3 => ?_)
  have hk3 := q3
  refine lv_ldc (v := nI 262143) hx hb hown (hts (.constant R_G 63 262143) (List.mem_cons_of_mem _ t_529)) d_G_tareOf_6 ?_
  refine lv_iand hx hb d_G_tareOf_8 ?_
  exact W.iret (v := r3 &&& (nI 262143)) hx hb hr (fun t ht hW => ⟨r3 &&& (nI 262143), rfl, by first | rfl | trivial | omega, ht⟩) (fun q hq => by cases hq) d_G_tareOf_9
set_option maxHeartbeats 4000000 in
set_option maxRecDepth 100000 in
theorem c_G_netOf (l : Launch) (dC : Nat → ClassId) (dI : Nat → Nat → Nat) (ad cd : Nat → Nat) (w wr fl : Nat → Int32) (pw sc : Int32) (lw rot vb : Nat → Int32) (rec tk : Int32) (live row : Nat → Int32) (cur ser dur wo : Int32) (bts : Nat → Int32) (us : Int32) (act : Nat → Int32) (rd rs : Int32) (n : Nat) (hn1 : 1 ≤ n) (hn2 : n ≤ 48) (hrot : ∀ i, i < 48 → IX 48 (rot i)) : Met l y_G_netOf w_G_netOf ({ frames := 3, cells := 0, slots := 0, locals := 64 }) (xR (dC, dI) vwCl (xt cd) (xw ad cd w wr fl pw sc lw rot vb rec tk live row cur ser dur wo bts us act rd rs) [.ref (ad 3), .int (nI n)]) (vp_Si (fun r => True)) 0 0 (fun _ => False) := by
  refine Met.ofW (cc := b_G_netOf) (maxL := 2) (ret := (some (.int))) (by decide) rfl ?_
  intro P e s m args below meth c0 s₁ B hml hv
  obtain ⟨rfl, hP, hK, hN⟩ := hv
  have hx := B.exec
  have hb := B.bytes
  have hr := B.returns
  have hts := atoms_spec (ws := w_G_netOf) B.pre
  have hown : s.vm.findClass R_G = some m.cls := findClass_of_methodNamed B.named
  have hlocks := B.notSynchronized
  have hl := lv_entry ([.ref (ad 3), .int (nI n)]) (n := 2) (Nat.le_of_ble_eq_true rfl)
  rw [lg_entry_eq]
  generalize (lg_sl ([.ref (ad 3), .int (nI n)]) ++ List.replicate (2 - (lg_sl ([.ref (ad 3), .int (nI n)])).length) Slot.unset).toArray = ls at hl ⊢
  have hl : lv_has ls 2 [(0, .ref (ad 3)), (1, .int (nI n))] := hl
  refine lv_aload_n hx hb d_G_netOf_0 rfl (lv_at hl 0 rfl) ?_
  refine lv_iload_n hx hb d_G_netOf_1 rfl (lv_at hl 1 rfl) ?_
  refine vp_callSi (va_runV (C := R_G) (As := [.int (nI n)]) (rest := []) ⟨hx, hb, hml, hown, hts⟩ (c_G_grossOf l dC dI ad cd w wr fl pw sc lw rot vb rec tk live row cur ser dur wo bts us act rd rs n (by first | omega | rfl | assumption | decide) (by first | omega | rfl | assumption | decide) (by first | omega | rfl | assumption | decide)) (cwV 1 hts (g_V t_558 t_522 t_523 t_4 t_524) rfl rfl rfl (by decide +kernel) ⟨by decide, by decide⟩) (xR_v hP hK hN 3 rfl rfl) rfl rfl hl.1 rfl (lv_room (Nat.le_of_ble_eq_true rfl)) d_G_netOf_2 ⟨Nat.le_refl _, Nat.le_refl _⟩).run (fun r2 q2 => ?_)
  have hk2 := q2
  refine lv_aload_n hx hb d_G_netOf_5 rfl (lv_at hl 0 rfl) ?_
  refine lv_iload_n hx hb d_G_netOf_6 rfl (lv_at hl 1 rfl) ?_
  refine vp_callSi (va_runV (C := R_G) (As := [.int (nI n)]) (rest := [.int r2]) ⟨hx, hb, hml, hown, hts⟩ (c_G_tareOf l dC dI ad cd w wr fl pw sc lw rot vb rec tk live row cur ser dur wo bts us act rd rs n (by first | omega | rfl | assumption | decide) (by first | omega | rfl | assumption | decide) (by first | omega | rfl | assumption | decide)) (cwV 1 hts (g_V t_559 t_526 t_527 t_4 t_528) rfl rfl rfl (by decide +kernel) ⟨by decide, by decide⟩) (xR_v hP hK hN 3 rfl rfl) rfl rfl hl.1 rfl (lv_room (Nat.le_of_ble_eq_true rfl)) d_G_netOf_7 ⟨Nat.le_refl _, Nat.le_refl _⟩).run (fun r7 q7 => ?_)
  have hk7 := q7
  refine lv_isub hx hb d_G_netOf_10 ?_
  exact W.iret (v := r2 - r7) hx hb hr (fun t ht hW => ⟨r2 - r7, rfl, by first | rfl | trivial | omega, ht⟩) (fun q hq => by cases hq) d_G_netOf_11
set_option maxHeartbeats 4000000 in
set_option maxRecDepth 100000 in
theorem c_G_productOf (l : Launch) (dC : Nat → ClassId) (dI : Nat → Nat → Nat) (ad cd : Nat → Nat) (w wr fl : Nat → Int32) (pw sc : Int32) (lw rot vb : Nat → Int32) (rec tk : Int32) (live row : Nat → Int32) (cur ser dur wo : Int32) (bts : Nat → Int32) (us : Int32) (act : Nat → Int32) (rd rs : Int32) (n : Nat) (hn1 : 1 ≤ n) (hn2 : n ≤ 48) (hrot : ∀ i, i < 48 → IX 48 (rot i)) : Met l y_G_productOf w_G_productOf ({ frames := 2, cells := 0, slots := 0, locals := 43 }) (xR (dC, dI) vwCl (xt cd) (xw ad cd w wr fl pw sc lw rot vb rec tk live row cur ser dur wo bts us act rd rs) [.ref (ad 3), .int (nI n)]) (vp_Si (fun r => True)) 0 0 (fun _ => False) := by
  refine Met.ofW (cc := b_G_productOf) (maxL := 2) (ret := (some (.int))) (by decide) rfl ?_
  intro P e s m args below meth c0 s₁ B hml hv
  obtain ⟨rfl, hP, hK, hN⟩ := hv
  have hx := B.exec
  have hb := B.bytes
  have hr := B.returns
  have hts := atoms_spec (ws := w_G_productOf) B.pre
  have hown : s.vm.findClass R_G = some m.cls := findClass_of_methodNamed B.named
  have hlocks := B.notSynchronized
  have hl := lv_entry ([.ref (ad 3), .int (nI n)]) (n := 2) (Nat.le_of_ble_eq_true rfl)
  rw [lg_entry_eq]
  generalize (lg_sl ([.ref (ad 3), .int (nI n)]) ++ List.replicate (2 - (lg_sl ([.ref (ad 3), .int (nI n)])).length) Slot.unset).toArray = ls at hl ⊢
  have hl : lv_has ls 2 [(0, .ref (ad 3)), (1, .int (nI n))] := hl
  refine lv_aload_n hx hb d_G_productOf_0 rfl (lv_at hl 0 rfl) ?_
  refine lv_iload_n hx hb d_G_productOf_1 rfl (lv_at hl 1 rfl) ?_
  refine lv_iconst (v := nI 2) hx hb d_G_productOf_2 (by decide) ?_
  refine vp_callSi (va_runV (C := R_G) (As := [.int (nI n), .int (nI 2)]) (rest := []) ⟨hx, hb, hml, hown, hts⟩ (c_G_wordOf l dC dI ad cd w wr fl pw sc lw rot vb rec tk live row cur ser dur wo bts us act rd rs n 2 (by first | omega | rfl | assumption | decide) (by first | omega | rfl | assumption | decide) (by first | omega | rfl | assumption | decide) (by first | omega | rfl | assumption | decide)) (cwV 2 hts (g_V t_513 t_515 s_17 t_4 t_516) rfl rfl rfl (by decide +kernel) ⟨by decide, by decide⟩) (xR_v hP hK hN 3 rfl rfl) rfl rfl hl.1 rfl (lv_room (Nat.le_of_ble_eq_true rfl)) d_G_productOf_3 ⟨Nat.le_refl _, Nat.le_refl _⟩).run (fun r3 q3 => ?_)
  have hk3 := q3
  refine lv_bipush (v := nI 26) hx hb d_G_productOf_6 (by decide) ?_
  refine lv_iushr hx hb d_G_productOf_8 rfl ?_
  exact W.iret (v := (r3.toUInt32 >>> (Int32.toUInt32 (nI 26) &&& Int32.toUInt32 31)).toInt32) hx hb hr (fun t ht hW => ⟨(r3.toUInt32 >>> (Int32.toUInt32 (nI 26) &&& Int32.toUInt32 31)).toInt32, rfl, by first | rfl | trivial | omega, ht⟩) (fun q hq => by cases hq) d_G_productOf_9
set_option maxHeartbeats 4000000 in
set_option maxRecDepth 100000 in
theorem c_G_clockOf (l : Launch) (dC : Nat → ClassId) (dI : Nat → Nat → Nat) (ad cd : Nat → Nat) (w wr fl : Nat → Int32) (pw sc : Int32) (lw rot vb : Nat → Int32) (rec tk : Int32) (live row : Nat → Int32) (cur ser dur wo : Int32) (bts : Nat → Int32) (us : Int32) (act : Nat → Int32) (rd rs : Int32) (n : Nat) (hn1 : 1 ≤ n) (hn2 : n ≤ 48) (hrot : ∀ i, i < 48 → IX 48 (rot i)) : Met l y_G_clockOf w_G_clockOf ({ frames := 2, cells := 0, slots := 0, locals := 43 }) (xR (dC, dI) vwCl (xt cd) (xw ad cd w wr fl pw sc lw rot vb rec tk live row cur ser dur wo bts us act rd rs) [.ref (ad 3), .int (nI n)]) (vp_Si (fun r => True)) 0 0 (fun _ => False) := by
  refine Met.ofW (cc := b_G_clockOf) (maxL := 2) (ret := (some (.int))) (by decide) rfl ?_
  intro P e s m args below meth c0 s₁ B hml hv
  obtain ⟨rfl, hP, hK, hN⟩ := hv
  have hx := B.exec
  have hb := B.bytes
  have hr := B.returns
  have hts := atoms_spec (ws := w_G_clockOf) B.pre
  have hown : s.vm.findClass R_G = some m.cls := findClass_of_methodNamed B.named
  have hlocks := B.notSynchronized
  have hl := lv_entry ([.ref (ad 3), .int (nI n)]) (n := 2) (Nat.le_of_ble_eq_true rfl)
  rw [lg_entry_eq]
  generalize (lg_sl ([.ref (ad 3), .int (nI n)]) ++ List.replicate (2 - (lg_sl ([.ref (ad 3), .int (nI n)])).length) Slot.unset).toArray = ls at hl ⊢
  have hl : lv_has ls 2 [(0, .ref (ad 3)), (1, .int (nI n))] := hl
  refine lv_aload_n hx hb d_G_clockOf_0 rfl (lv_at hl 0 rfl) ?_
  refine lv_iload_n hx hb d_G_clockOf_1 rfl (lv_at hl 1 rfl) ?_
  refine lv_iconst (v := nI 2) hx hb d_G_clockOf_2 (by decide) ?_
  refine vp_callSi (va_runV (C := R_G) (As := [.int (nI n), .int (nI 2)]) (rest := []) ⟨hx, hb, hml, hown, hts⟩ (c_G_wordOf l dC dI ad cd w wr fl pw sc lw rot vb rec tk live row cur ser dur wo bts us act rd rs n 2 (by first | omega | rfl | assumption | decide) (by first | omega | rfl | assumption | decide) (by first | omega | rfl | assumption | decide) (by first | omega | rfl | assumption | decide)) (cwV 2 hts (g_V t_513 t_515 s_17 t_4 t_516) rfl rfl rfl (by decide +kernel) ⟨by decide, by decide⟩) (xR_v hP hK hN 3 rfl rfl) rfl rfl hl.1 rfl (lv_room (Nat.le_of_ble_eq_true rfl)) d_G_clockOf_3 ⟨Nat.le_refl _, Nat.le_refl _⟩).run (fun r3 q3 => ?_)
  have hk3 := q3
  refine lv_ldc (v := nI 67108863) hx hb hown (hts (.constant R_G 70 67108863) (List.mem_cons_of_mem _ t_538)) d_G_clockOf_6 ?_
  refine lv_iand hx hb d_G_clockOf_8 ?_
  exact W.iret (v := r3 &&& (nI 67108863)) hx hb hr (fun t ht hW => ⟨r3 &&& (nI 67108863), rfl, by first | rfl | trivial | omega, ht⟩) (fun q hq => by cases hq) d_G_clockOf_9
set_option maxHeartbeats 4000000 in
set_option maxRecDepth 100000 in
theorem c_G_linkOf (l : Launch) (dC : Nat → ClassId) (dI : Nat → Nat → Nat) (ad cd : Nat → Nat) (w wr fl : Nat → Int32) (pw sc : Int32) (lw rot vb : Nat → Int32) (rec tk : Int32) (live row : Nat → Int32) (cur ser dur wo : Int32) (bts : Nat → Int32) (us : Int32) (act : Nat → Int32) (rd rs : Int32) (n : Nat) (hn1 : 1 ≤ n) (hn2 : n ≤ 48) (hrot : ∀ i, i < 48 → IX 48 (rot i)) : Met l y_G_linkOf w_G_linkOf ({ frames := 2, cells := 0, slots := 0, locals := 43 }) (xR (dC, dI) vwCl (xt cd) (xw ad cd w wr fl pw sc lw rot vb rec tk live row cur ser dur wo bts us act rd rs) [.ref (ad 3), .int (nI n)]) (vp_Si (fun r => True)) 0 0 (fun _ => False) := by
  refine Met.ofW (cc := b_G_linkOf) (maxL := 2) (ret := (some (.int))) (by decide) rfl ?_
  intro P e s m args below meth c0 s₁ B hml hv
  obtain ⟨rfl, hP, hK, hN⟩ := hv
  have hx := B.exec
  have hb := B.bytes
  have hr := B.returns
  have hts := atoms_spec (ws := w_G_linkOf) B.pre
  have hown : s.vm.findClass R_G = some m.cls := findClass_of_methodNamed B.named
  have hlocks := B.notSynchronized
  have hl := lv_entry ([.ref (ad 3), .int (nI n)]) (n := 2) (Nat.le_of_ble_eq_true rfl)
  rw [lg_entry_eq]
  generalize (lg_sl ([.ref (ad 3), .int (nI n)]) ++ List.replicate (2 - (lg_sl ([.ref (ad 3), .int (nI n)])).length) Slot.unset).toArray = ls at hl ⊢
  have hl : lv_has ls 2 [(0, .ref (ad 3)), (1, .int (nI n))] := hl
  refine lv_aload_n hx hb d_G_linkOf_0 rfl (lv_at hl 0 rfl) ?_
  refine lv_iload_n hx hb d_G_linkOf_1 rfl (lv_at hl 1 rfl) ?_
  refine lv_iconst (v := nI 3) hx hb d_G_linkOf_2 (by decide) ?_
  refine vp_callSi (va_runV (C := R_G) (As := [.int (nI n), .int (nI 3)]) (rest := []) ⟨hx, hb, hml, hown, hts⟩ (c_G_wordOf l dC dI ad cd w wr fl pw sc lw rot vb rec tk live row cur ser dur wo bts us act rd rs n 3 (by first | omega | rfl | assumption | decide) (by first | omega | rfl | assumption | decide) (by first | omega | rfl | assumption | decide) (by first | omega | rfl | assumption | decide)) (cwV 2 hts (g_V t_513 t_515 s_17 t_4 t_516) rfl rfl rfl (by decide +kernel) ⟨by decide, by decide⟩) (xR_v hP hK hN 3 rfl rfl) rfl rfl hl.1 rfl (lv_room (Nat.le_of_ble_eq_true rfl)) d_G_linkOf_3 ⟨Nat.le_refl _, Nat.le_refl _⟩).run (fun r3 q3 => ?_)
  have hk3 := q3
  exact W.iret (v := r3) hx hb hr (fun t ht hW => ⟨r3, rfl, by first | rfl | trivial | omega, ht⟩) (fun q hq => by cases hq) d_G_linkOf_6
set_option maxHeartbeats 4000000 in
set_option maxRecDepth 100000 in
theorem c_G_voidedOf (l : Launch) (dC : Nat → ClassId) (dI : Nat → Nat → Nat) (ad cd : Nat → Nat) (w wr fl : Nat → Int32) (pw sc : Int32) (lw rot vb : Nat → Int32) (rec tk : Int32) (live row : Nat → Int32) (cur ser dur wo : Int32) (bts : Nat → Int32) (us : Int32) (act : Nat → Int32) (rd rs : Int32) (n : Nat) (hn1 : 1 ≤ n) (hn2 : n ≤ 48) : Met l y_G_voidedOf w_G_voidedOf ({ frames := 0, cells := 0, slots := 0, locals := 0 }) (xR (dC, dI) vwCl (xt cd) (xw ad cd w wr fl pw sc lw rot vb rec tk live row cur ser dur wo bts us act rd rs) [.ref (ad 3), .int (nI n)]) (vp_Si (fun r => True)) 0 0 (fun _ => False) := by
  refine Met.ofW (cc := b_G_voidedOf) (maxL := 2) (ret := (some (.int))) (by decide) rfl ?_
  intro P e s m args below meth c0 s₁ B hml hv
  obtain ⟨rfl, hP, hK, hN⟩ := hv
  have hx := B.exec
  have hb := B.bytes
  have hr := B.returns
  have hts := atoms_spec (ws := w_G_voidedOf) B.pre
  have hown : s.vm.findClass R_G = some m.cls := findClass_of_methodNamed B.named
  have hlocks := B.notSynchronized
  have hl := lv_entry ([.ref (ad 3), .int (nI n)]) (n := 2) (Nat.le_of_ble_eq_true rfl)
  rw [lg_entry_eq]
  generalize (lg_sl ([.ref (ad 3), .int (nI n)]) ++ List.replicate (2 - (lg_sl ([.ref (ad 3), .int (nI n)])).length) Slot.unset).toArray = ls at hl ⊢
  have hl : lv_has ls 2 [(0, .ref (ad 3)), (1, .int (nI n))] := hl
  refine lv_aload_n hx hb d_G_voidedOf_0 rfl (lv_at hl 0 rfl) ?_
  refine va_get (D := (dC, dI)) (ci := 2) (v := .ref (ad 13)) (C := R_G) (T := F_G) (N := 5) hx hb hts (fun w h => List.mem_cons_of_mem _ (in_G w h)) hown hK hP 3 rfl rfl 2 (by decide) (hts (.fieldLink R_G 18 R_G "voidedBy" "[I") (List.mem_cons_of_mem _ t_86)) (fun _ h9 => h9) rfl d_G_voidedOf_1 ?_
  refine lv_iload_n hx hb d_G_voidedOf_4 rfl (lv_at hl 1 rfl) ?_
  refine lv_iconst (v := nI 1) hx hb d_G_voidedOf_5 (by decide) ?_
  refine lv_isub hx hb d_G_voidedOf_6 ?_
  refine tp_i (y := nI (n - 1)) (pk_sub (by omega)) ?_
  refine va_iald hx hb hK hP 13 8 rfl rfl (vp_in_nI (by omega) (by decide)) d_G_voidedOf_7 ?_
  refine tp_i (y := vb (n - 1)) (by rw [nI_clamp (by omega)]) ?_
  exact W.iret (v := vb (n - 1)) hx hb hr (fun t ht hW => ⟨vb (n - 1), rfl, by first | rfl | trivial | omega, ht⟩) (fun q hq => by cases hq) d_G_voidedOf_8
set_option maxHeartbeats 4000000 in
set_option maxRecDepth 100000 in
theorem c_G_isVoided (l : Launch) (dC : Nat → ClassId) (dI : Nat → Nat → Nat) (ad cd : Nat → Nat) (w wr fl : Nat → Int32) (pw sc : Int32) (lw rot vb : Nat → Int32) (rec tk : Int32) (live row : Nat → Int32) (cur ser dur wo : Int32) (bts : Nat → Int32) (us : Int32) (act : Nat → Int32) (rd rs : Int32) (n : Nat) (hn1 : 1 ≤ n) (hn2 : n ≤ 48) : Met l y_G_isVoided w_G_isVoided ({ frames := 0, cells := 0, slots := 0, locals := 0 }) (xR (dC, dI) vwCl (xt cd) (xw ad cd w wr fl pw sc lw rot vb rec tk live row cur ser dur wo bts us act rd rs) [.ref (ad 3), .int (nI n)]) (vp_Si (fun r => B01 r)) 0 0 (fun _ => False) := by
  refine Met.ofW (cc := b_G_isVoided) (maxL := 2) (ret := (some (.boolean))) (by decide) rfl ?_
  intro P e s m args below meth c0 s₁ B hml hv
  obtain ⟨rfl, hP, hK, hN⟩ := hv
  have hx := B.exec
  have hb := B.bytes
  have hr := B.returns
  have hts := atoms_spec (ws := w_G_isVoided) B.pre
  have hown : s.vm.findClass R_G = some m.cls := findClass_of_methodNamed B.named
  have hlocks := B.notSynchronized
  have hl := lv_entry ([.ref (ad 3), .int (nI n)]) (n := 2) (Nat.le_of_ble_eq_true rfl)
  rw [lg_entry_eq]
  generalize (lg_sl ([.ref (ad 3), .int (nI n)]) ++ List.replicate (2 - (lg_sl ([.ref (ad 3), .int (nI n)])).length) Slot.unset).toArray = ls at hl ⊢
  have hl : lv_has ls 2 [(0, .ref (ad 3)), (1, .int (nI n))] := hl
  refine lv_aload_n hx hb d_G_isVoided_0 rfl (lv_at hl 0 rfl) ?_
  refine va_get (D := (dC, dI)) (ci := 2) (v := .ref (ad 13)) (C := R_G) (T := F_G) (N := 5) hx hb hts (fun w h => List.mem_cons_of_mem _ (in_G w h)) hown hK hP 3 rfl rfl 2 (by decide) (hts (.fieldLink R_G 18 R_G "voidedBy" "[I") (List.mem_cons_of_mem _ t_86)) (fun _ h9 => h9) rfl d_G_isVoided_1 ?_
  refine lv_iload_n hx hb d_G_isVoided_4 rfl (lv_at hl 1 rfl) ?_
  refine lv_iconst (v := nI 1) hx hb d_G_isVoided_5 (by decide) ?_
  refine lv_isub hx hb d_G_isVoided_6 ?_
  refine tp_i (y := nI (n - 1)) (pk_sub (by omega)) ?_
  refine va_iald hx hb hK hP 13 8 rfl rfl (vp_in_nI (by omega) (by decide)) d_G_isVoided_7 ?_
  refine tp_i (y := vb (n - 1)) (by rw [nI_clamp (by omega)]) ?_
  refine lv_if_eq (tgt := 15) hx hb d_G_isVoided_8 (by decide) (fun c8 => ?_) (fun c8 => ?_)
  ·
    refine lv_iconst (v := nI 0) hx hb d_G_isVoided_15 (by decide) ?_
    exact W.zret (v := nI 0) hx hb hr (by first | rfl | decide | assumption) (fun t ht hW => ⟨nI 0, rfl, by first | exact Or.inl rfl | exact Or.inr rfl | assumption, ht⟩) (fun q hq => by cases hq) d_G_isVoided_16
  ·
    refine lv_iconst (v := nI 1) hx hb d_G_isVoided_11 (by decide) ?_
    refine lv_goto (tgt := 16) hx hb d_G_isVoided_12 (by decide) ?_
    exact W.zret (v := nI 1) hx hb hr (by first | rfl | decide | assumption) (fun t ht hW => ⟨nI 1, rfl, by first | exact Or.inl rfl | exact Or.inr rfl | assumption, ht⟩) (fun q hq => by cases hq) d_G_isVoided_16
set_option maxHeartbeats 4000000 in
set_option maxRecDepth 100000 in
theorem c_R_isWithin (l : Launch) (dC : Nat → ClassId) (dI : Nat → Nat → Nat)  (v lo hi : Int32) : Met l y_R_isWithin w_R_isWithin ({ frames := 0, cells := 0, slots := 0, locals := 0 }) (xR (dC, dI) vwCl [] [] [.int v, .int lo, .int hi]) (vp_Si (fun r => (r = nI 1 ∧ (lo ≤ v ∧ v ≤ hi)) ∨ (r = nI 0 ∧ ¬ (lo ≤ v ∧ v ≤ hi)))) 0 0 (fun _ => False) := by
  refine Met.ofW (cc := b_R_isWithin) (maxL := 3) (ret := (some (.boolean))) (by decide) rfl ?_
  intro P e s m args below meth c0 s₁ B hml hv
  obtain ⟨rfl, hP, hK, hN⟩ := hv
  have hx := B.exec
  have hb := B.bytes
  have hr := B.returns
  have hts := atoms_spec (ws := w_R_isWithin) B.pre
  have hown : s.vm.findClass R_R = some m.cls := findClass_of_methodNamed B.named
  have hlocks := B.notSynchronized
  have hl := lv_entry ([.int v, .int lo, .int hi]) (n := 3) (Nat.le_of_ble_eq_true rfl)
  rw [lg_entry_eq]
  generalize (lg_sl ([.int v, .int lo, .int hi]) ++ List.replicate (3 - (lg_sl ([.int v, .int lo, .int hi])).length) Slot.unset).toArray = ls at hl ⊢
  have hl : lv_has ls 3 [(0, .int v), (1, .int lo), (2, .int hi)] := hl
  refine lv_iload_n hx hb d_R_isWithin_0 rfl (lv_at hl 0 rfl) ?_
  refine lv_iload_n hx hb d_R_isWithin_1 rfl (lv_at hl 1 rfl) ?_
  refine lv_icmp_lt (tgt := 14) hx hb d_R_isWithin_2 (by decide) (fun c2 => ?_) (fun c2 => ?_)
  ·
    refine lv_iconst (v := nI 0) hx hb d_R_isWithin_14 (by decide) ?_
    exact W.zret (v := nI 0) hx hb hr (by first | rfl | decide | assumption) (fun t ht hW => ⟨nI 0, rfl, Or.inr ⟨rfl, fun z => by first | exact absurd z.1 (Int32.not_le.mpr c2) | exact absurd z.2 (Int32.not_le.mpr c7)⟩, ht⟩) (fun q hq => by cases hq) d_R_isWithin_15
  ·
    refine lv_iload_n hx hb d_R_isWithin_5 rfl (lv_at hl 0 rfl) ?_
    refine lv_iload_n hx hb d_R_isWithin_6 rfl (lv_at hl 2 rfl) ?_
    refine lv_icmp_gt (tgt := 14) hx hb d_R_isWithin_7 (by decide) (fun c7 => ?_) (fun c7 => ?_)
    ·
      refine lv_iconst (v := nI 0) hx hb d_R_isWithin_14 (by decide) ?_
      exact W.zret (v := nI 0) hx hb hr (by first | rfl | decide | assumption) (fun t ht hW => ⟨nI 0, rfl, Or.inr ⟨rfl, fun z => by first | exact absurd z.1 (Int32.not_le.mpr c2) | exact absurd z.2 (Int32.not_le.mpr c7)⟩, ht⟩) (fun q hq => by cases hq) d_R_isWithin_15
    ·
      refine lv_iconst (v := nI 1) hx hb d_R_isWithin_10 (by decide) ?_
      refine lv_goto (tgt := 15) hx hb d_R_isWithin_11 (by decide) ?_
      exact W.zret (v := nI 1) hx hb hr (by first | rfl | decide | assumption) (fun t ht hW => ⟨nI 1, rfl, Or.inl ⟨rfl, Int32.not_lt.mp c2, Int32.not_lt.mp c7⟩, ht⟩) (fun q hq => by cases hq) d_R_isWithin_15
set_option maxHeartbeats 4000000 in
set_option maxRecDepth 100000 in
theorem c_G_applyVoiding (l : Launch) (dC : Nat → ClassId) (dI : Nat → Nat → Nat) (ad cd : Nat → Nat) (sz : Nat) (w wr fl : Nat → Int32) (pw sc : Int32) (lw rot vb : Nat → Int32) (rec tk : Int32) (live row : Nat → Int32) (cur ser dur wo : Int32) (bts : Nat → Int32) (us : Int32) (act : Nat → Int32) (rd rs : Int32) (tn : Nat) (num : Int32) (rea : Int32) (ht48 : tn ≤ 48) : Met l y_G_applyVoiding w_G_applyVoiding ({ frames := 1, cells := 0, slots := 0, locals := 22 }) (xP (dC, dI) vwCl (xt cd) (xw ad cd w wr fl pw sc lw rot vb rec (nI tn) live row cur ser dur wo bts us act rd rs) sz [.ref (ad 3), .int num, .int rea]) (va_Qv (fun (u : (Nat → Nat → Int32) × (Nat → Int32) × (Nat → Nat)) => True) (fun (u : (Nat → Nat → Int32) × (Nat → Int32) × (Nat → Nat)) (t : State) => xB (dC, dI) vwCl (xt cd) (xA 15 ad sz) (xw ad cd w wr fl pw sc lw rot (u.1 0) rec (nI tn) live row cur ser dur wo bts us act rd rs) t) (xA 15 ad sz)) 0 0 (xA 15 ad sz) := by
  refine Met.ofW (cc := b_G_applyVoiding) (maxL := 3) (ret := none) (by decide) rfl ?_
  intro P e s m args below meth c0 s₁ B hml hv
  obtain ⟨rfl, hsz, hP, hK, hD0, hN⟩ := hv
  have hx := B.exec
  have hb := B.bytes
  have hr := B.returns
  have hts := atoms_spec (ws := w_G_applyVoiding) B.pre
  have hown : s.vm.findClass R_G = some m.cls := findClass_of_methodNamed B.named
  have hlocks := B.notSynchronized
  subst hsz
  have hD := xw_D (sz := s.heap.size) hD0
  have hS : va_S (xA 15 ad s.heap.size) s.heap s.heap [] := va_S.rf
  have hA : ∀ q : Nat, s.heap.size ≤ q → (xA 15 ad s.heap.size) q := fun q h => Or.inr h
  have hl := lv_entry ([.ref (ad 3), .int num, .int rea]) (n := 3) (Nat.le_of_ble_eq_true rfl)
  rw [lg_entry_eq]
  generalize (lg_sl ([.ref (ad 3), .int num, .int rea]) ++ List.replicate (3 - (lg_sl ([.ref (ad 3), .int num, .int rea])).length) Slot.unset).toArray = ls at hl ⊢
  have hl : lv_has ls 3 [(0, .ref (ad 3)), (1, .int num), (2, .int rea)] := hl
  refine lv_aload_n hx hb d_G_applyVoiding_0 rfl (lv_at hl 0 rfl) ?_
  refine lv_iload_n hx hb d_G_applyVoiding_1 rfl (lv_at hl 1 rfl) ?_
  refine vp_callSi (va_runV (C := R_G) (As := [.int num]) (rest := []) ⟨hx, hb, hml, hown, hts⟩ (c_G_hasTicket l dC dI ad cd w wr fl pw sc lw rot vb rec (nI tn) live row cur ser dur wo bts us act rd rs tn num ) (cwV 1 hts (g_V t_198 t_199 t_200 t_4 t_201) rfl rfl rfl (by decide +kernel) ⟨by decide, by decide⟩) (xR_v hP hK hN 3 rfl rfl) rfl rfl hl.1 rfl (lv_room (Nat.le_of_ble_eq_true rfl)) d_G_applyVoiding_2 ⟨Nat.le_refl _, Nat.le_refl _⟩).run (fun r2 q2 => ?_)
  rcases q2 with ⟨rfl, ht⟩ | ⟨rfl, ht⟩
  ·
    obtain ⟨j, hj, rfl⟩ := tk_nat ht (by omega)
    refine lv_if_eq (tgt := 36) hx hb d_G_applyVoiding_5 (by decide) (fun c5 => ?_) (fun c5 => ?_)
    ·
      exact absurd c5 (by decide)
    ·
      refine lv_aload_n hx hb d_G_applyVoiding_8 rfl (lv_at hl 0 rfl) ?_
      refine lv_iload_n hx hb d_G_applyVoiding_9 rfl (lv_at hl 1 rfl) ?_
      refine vp_callSi (va_runV (C := R_G) (As := [.int (nI (j + 1))]) (rest := []) ⟨hx, hb, hml, hown, hts⟩ (c_G_isVoided l dC dI ad cd w wr fl pw sc lw rot vb rec (nI tn) live row cur ser dur wo bts us act rd rs (j + 1) (by first | omega | rfl | assumption | decide) (by first | omega | rfl | assumption | decide)) (cwV 1 hts (g_V t_202 t_203 t_204 t_4 t_205) rfl rfl rfl (by decide +kernel) ⟨by decide, by decide⟩) (xR_v hP hK hN 3 rfl rfl) rfl rfl hl.1 rfl (lv_room (Nat.le_of_ble_eq_true rfl)) d_G_applyVoiding_10 ⟨Nat.le_refl _, Nat.le_refl _⟩).run (fun r10 q10 => ?_)
      have hk10 := q10
      refine lv_if_ne (tgt := 36) hx hb d_G_applyVoiding_13 (by decide) (fun c13 => ?_) (fun c13 => ?_)
      ·
        exact W.vret hx hb hr (fun t ht hW => ⟨⟨(fun i => [vb].getD i (fun _ => 0), fun i => [].getD i 0, fun i => [].getD i 0), rfl, trivial, ⟨by rw [ht]; exact hP, va_K.moved hW.alike hK, hD⟩⟩, hS.F ht⟩) hS.2.2 d_G_applyVoiding_36
      ·
        refine lv_iload_n hx hb d_G_applyVoiding_16 rfl (lv_at hl 2 rfl) ?_
        refine lv_iconst (v := nI 0) hx hb d_G_applyVoiding_17 (by decide) ?_
        refine lv_iconst (v := nI 3) hx hb d_G_applyVoiding_18 (by decide) ?_
        refine vp_callSi (va_runSN (host := R_R) (As := [.int rea, .int (nI 0), .int (nI 3)]) (rest := []) ⟨hx, hb, hml, hown, hts⟩ (c_R_isWithin l dC dI rea (nI 0) (nI 3) ) ⟨va_cnB 3 hts (g_c t_208) rfl rfl rfl hN.2.2.1 (hts _ (List.mem_cons_of_mem _ t_1)) (by decide +kernel) ⟨by decide, by decide⟩, (hts (.static y_R_isWithin) (List.mem_cons_of_mem _ t_207)), trivial⟩ (xR_s (va_P.sub hP [] rfl) (hK.sub [] rfl) hN) rfl rfl hl.1 rfl (lv_room (Nat.le_of_ble_eq_true rfl)) d_G_applyVoiding_19 ⟨Nat.le_refl _, Nat.le_refl _⟩).run (fun r19 q19 => ?_)
        rcases q19 with ⟨rfl, hin19⟩ | ⟨rfl, hin19⟩
        ·
          refine lv_if_eq (tgt := 36) hx hb d_G_applyVoiding_22 (by decide) (fun c22 => ?_) (fun c22 => ?_)
          ·
            exact absurd c22 (by decide)
          ·
            refine lv_aload_n hx hb d_G_applyVoiding_25 rfl (lv_at hl 0 rfl) ?_
            refine va_get (D := (dC, dI)) (ci := 2) (v := .ref (ad 13)) (C := R_G) (T := F_G) (N := 5) hx hb hts (fun w h => List.mem_cons_of_mem _ (in_G w h)) hown hK hP 3 rfl rfl 2 (by decide) (hts (.fieldLink R_G 18 R_G "voidedBy" "[I") (List.mem_cons_of_mem _ t_86)) (fun _ h9 => h9) rfl d_G_applyVoiding_26 ?_
            refine lv_iload_n hx hb d_G_applyVoiding_29 rfl (lv_at hl 1 rfl) ?_
            refine lv_iconst (v := nI 1) hx hb d_G_applyVoiding_30 (by decide) ?_
            refine lv_isub hx hb d_G_applyVoiding_31 ?_
            refine tp_i (y := nI ((j + 1) - 1)) (pk_sub (by omega)) ?_
            refine lv_iload_n hx hb d_G_applyVoiding_32 rfl (lv_at hl 2 rfl) ?_
            refine lv_iconst (v := nI 1) hx hb d_G_applyVoiding_33 (by decide) ?_
            refine lv_iadd hx hb d_G_applyVoiding_34 ?_
            refine va_iast hx hb hK hP hD hS 13 8 rfl rfl (vp_in_nI (by omega) (by decide)) d_G_applyVoiding_35 (fun H locs hP hD hS => ?_)
            rw [nI_clamp (by omega)] at hP hD
            have hP : va_P (dC, dI) vwCl (xw ad cd w wr fl pw sc lw rot (upd vb ((j + 1) - 1) (rea + (nI 1))) rec (nI tn) live row cur ser dur wo bts us act rd rs) H := hP
            have hD : va_D (xA 15 ad s.heap.size) (xw ad cd w wr fl pw sc lw rot (upd vb ((j + 1) - 1) (rea + (nI 1))) rec (nI tn) live row cur ser dur wo bts us act rd rs) := hD
            exact W.vret hx hb hr (fun t ht hW => ⟨⟨(fun i => [upd vb ((j + 1) - 1) (rea + (nI 1))].getD i (fun _ => 0), fun i => [].getD i 0, fun i => [].getD i 0), rfl, trivial, ⟨by rw [ht]; exact hP, va_K.moved hW.alike hK, hD⟩⟩, hS.F ht⟩) hS.2.2 d_G_applyVoiding_36
        ·
          refine lv_if_eq (tgt := 36) hx hb d_G_applyVoiding_22 (by decide) (fun c22 => ?_) (fun c22 => ?_)
          ·
            exact W.vret hx hb hr (fun t ht hW => ⟨⟨(fun i => [vb].getD i (fun _ => 0), fun i => [].getD i 0, fun i => [].getD i 0), rfl, trivial, ⟨by rw [ht]; exact hP, va_K.moved hW.alike hK, hD⟩⟩, hS.F ht⟩) hS.2.2 d_G_applyVoiding_36
          ·
            exact absurd c22 (by decide)
  ·
    refine lv_if_eq (tgt := 36) hx hb d_G_applyVoiding_5 (by decide) (fun c5 => ?_) (fun c5 => ?_)
    ·
      exact W.vret hx hb hr (fun t ht hW => ⟨⟨(fun i => [vb].getD i (fun _ => 0), fun i => [].getD i 0, fun i => [].getD i 0), rfl, trivial, ⟨by rw [ht]; exact hP, va_K.moved hW.alike hK, hD⟩⟩, hS.F ht⟩) hS.2.2 d_G_applyVoiding_36
    ·
      exact absurd c5 (by decide)
set_option maxHeartbeats 4000000 in
set_option maxRecDepth 100000 in
theorem c_G_addLinked (l : Launch) (dC : Nat → ClassId) (dI : Nat → Nat → Nat) (ad cd : Nat → Nat) (sz : Nat) (w wr fl : Nat → Int32) (pw sc : Int32) (lw rot vb : Nat → Int32) (rec tk : Int32) (live row : Nat → Int32) (cur ser dur wo : Int32) (bts : Nat → Int32) (us : Int32) (act : Nat → Int32) (rd rs : Int32) (rn : Nat) (tn : Nat) (fi : Int32) (se : Int32) (thi : Int32) (lk : Int32) (hrt : tn ≤ rn) (hr48 : rn ≤ 48) (hrot : ∀ i, i < 48 → IX 48 (rot i)) : Met l y_G_addLinked w_G_addLinked ({ frames := 2, cells := 0, slots := 0, locals := 44 }) (xP (dC, dI) vwCl (xt cd) (xw ad cd w wr fl pw sc lw rot vb (nI rn) (nI tn) live row cur ser dur wo bts us act rd rs) sz [.ref (ad 3), .int fi, .int se, .int thi, .int lk]) (va_Qv (fun (u : (Nat → Nat → Int32) × (Nat → Int32) × (Nat → Nat)) => (u.2.2 1) ≤ (u.2.2 0) ∧ (u.2.2 0) ≤ 48 ∧ ∀ i, i < 48 → IX 48 ((u.1 1) i)) (fun (u : (Nat → Nat → Int32) × (Nat → Int32) × (Nat → Nat)) (t : State) => xB (dC, dI) vwCl (xt cd) (xA 15 ad sz) (xw ad cd w wr fl pw sc (u.1 0) (u.1 1) (u.1 2) (nI (u.2.2 0)) (nI (u.2.2 1)) live row cur ser dur wo bts us act rd rs) t) (xA 15 ad sz)) 0 0 (xA 15 ad sz) := by
  refine Met.ofW (cc := b_G_addLinked) (maxL := 6) (ret := none) (by decide) rfl ?_
  intro P e s m args below meth c0 s₁ B hml hv
  obtain ⟨rfl, hsz, hP, hK, hD0, hN⟩ := hv
  have hx := B.exec
  have hb := B.bytes
  have hr := B.returns
  have hts := atoms_spec (ws := w_G_addLinked) B.pre
  have hown : s.vm.findClass R_G = some m.cls := findClass_of_methodNamed B.named
  have hlocks := B.notSynchronized
  subst hsz
  have hD := xw_D (sz := s.heap.size) hD0
  have hS : va_S (xA 15 ad s.heap.size) s.heap s.heap [] := va_S.rf
  have hA : ∀ q : Nat, s.heap.size ≤ q → (xA 15 ad s.heap.size) q := fun q h => Or.inr h
  have hl := lv_entry ([.ref (ad 3), .int fi, .int se, .int thi, .int lk]) (n := 6) (Nat.le_of_ble_eq_true rfl)
  rw [lg_entry_eq]
  generalize (lg_sl ([.ref (ad 3), .int fi, .int se, .int thi, .int lk]) ++ List.replicate (6 - (lg_sl ([.ref (ad 3), .int fi, .int se, .int thi, .int lk])).length) Slot.unset).toArray = ls at hl ⊢
  have hl : lv_has ls 6 [(0, .ref (ad 3)), (1, .int fi), (2, .int se), (3, .int thi), (4, .int lk)] := hl
  refine lv_aload_n hx hb d_G_addLinked_0 rfl (lv_at hl 0 rfl) ?_
  refine vp_callSi (va_runV (C := R_G) (As := []) (rest := []) ⟨hx, hb, hml, hown, hts⟩ (c_G_isFull l dC dI ad cd w wr fl pw sc lw rot vb (nI rn) (nI tn) live row cur ser dur wo bts us act rd rs rn (by first | omega | rfl | assumption | decide)) (cwV 0 hts (g_V t_190 t_191 t_192 t_4 t_193) rfl rfl rfl (by decide +kernel) ⟨by decide, by decide⟩) (xR_v hP hK hN 3 rfl rfl) rfl rfl hl.1 rfl (lv_room (Nat.le_of_ble_eq_true rfl)) d_G_addLinked_1 ⟨Nat.le_refl _, Nat.le_refl _⟩).run (fun r1 q1 => ?_)
  rcases q1 with ⟨rfl, hfu1⟩ | ⟨rfl, hfu1⟩
  ·
    refine lv_if_eq (tgt := 8) hx hb d_G_addLinked_4 (by decide) (fun c4 => ?_) (fun c4 => ?_)
    ·
      exact absurd c4 (by decide)
    ·
      exact W.vret hx hb hr (fun t ht hW => ⟨⟨(fun i => [lw, rot, vb].getD i (fun _ => 0), fun i => [].getD i 0, fun i => [rn, tn].getD i 0), rfl, ⟨(show tn ≤ rn by omega), (show rn ≤ 48 by omega), by first | exact hrot | exact IX_upd hrot (IX.of (by omega))⟩, ⟨by rw [ht]; exact hP, va_K.moved hW.alike hK, hD⟩⟩, hS.F ht⟩) hS.2.2 d_G_addLinked_7
  ·
    refine lv_if_eq (tgt := 8) hx hb d_G_addLinked_4 (by decide) (fun c4 => ?_) (fun c4 => ?_)
    ·
      refine lv_aload_n hx hb d_G_addLinked_8 rfl (lv_at hl 0 rfl) ?_
      refine va_get (D := (dC, dI)) (ci := 2) (v := .int (nI rn)) (C := R_G) (T := F_G) (N := 5) hx hb hts (fun w h => List.mem_cons_of_mem _ (in_G w h)) hown hK hP 3 rfl rfl 3 (by decide) (hts (.fieldLink R_G 21 R_G "records" "I") (List.mem_cons_of_mem _ t_87)) (fun _ h9 => h9) rfl d_G_addLinked_9 ?_
      refine lv_iconst (v := nI 4) hx hb d_G_addLinked_12 (by decide) ?_
      refine lv_imul hx hb d_G_addLinked_13 ?_
      refine tp_i (y := nI (rn * 4)) (pk_mul _ _) ?_
      refine lv_istore hx hb d_G_addLinked_14 hl (by decide) rfl (fun ls hl => ?_)
      have hl : lv_has ls 6 [(5, .int (nI (rn * 4))), (0, .ref (ad 3)), (1, .int fi), (2, .int se), (3, .int thi), (4, .int lk)] := hl
      refine lv_aload_n hx hb d_G_addLinked_16 rfl (lv_at hl 1 rfl) ?_
      refine va_get (D := (dC, dI)) (ci := 2) (v := .ref (ad 11)) (C := R_G) (T := F_G) (N := 5) hx hb hts (fun w h => List.mem_cons_of_mem _ (in_G w h)) hown hK hP 3 rfl rfl 0 (by decide) (hts (.fieldLink R_G 9 R_G "words" "[I") (List.mem_cons_of_mem _ t_84)) (fun _ h9 => h9) rfl d_G_addLinked_17 ?_
      refine lv_iload hx hb d_G_addLinked_20 (lv_at hl 0 rfl) ?_
      refine lv_iload_n hx hb d_G_addLinked_22 rfl (lv_at hl 2 rfl) ?_
      refine va_iast hx hb hK hP hD hS 11 6 rfl rfl (vp_in_nI (by omega) (by decide)) d_G_addLinked_23 (fun H locs hP hD hS => ?_)
      rw [nI_clamp (by omega)] at hP hD
      have hP : va_P (dC, dI) vwCl (xw ad cd w wr fl pw sc (upd lw (rn * 4) fi) rot vb (nI rn) (nI tn) live row cur ser dur wo bts us act rd rs) H := hP
      have hD : va_D (xA 15 ad s.heap.size) (xw ad cd w wr fl pw sc (upd lw (rn * 4) fi) rot vb (nI rn) (nI tn) live row cur ser dur wo bts us act rd rs) := hD
      refine lv_aload_n hx hb d_G_addLinked_24 rfl (lv_at hl 1 rfl) ?_
      refine va_get (D := (dC, dI)) (ci := 2) (v := .ref (ad 11)) (C := R_G) (T := F_G) (N := 5) hx hb hts (fun w h => List.mem_cons_of_mem _ (in_G w h)) hown hK hP 3 rfl rfl 0 (by decide) (hts (.fieldLink R_G 9 R_G "words" "[I") (List.mem_cons_of_mem _ t_84)) (fun _ h9 => h9) rfl d_G_addLinked_25 ?_
      refine lv_iload hx hb d_G_addLinked_28 (lv_at hl 0 rfl) ?_
      refine lv_iconst (v := nI 1) hx hb d_G_addLinked_30 (by decide) ?_
      refine lv_iadd hx hb d_G_addLinked_31 ?_
      refine tp_i (y := nI ((rn * 4) + 1)) (nI_add _ _) ?_
      refine lv_iload_n hx hb d_G_addLinked_32 rfl (lv_at hl 3 rfl) ?_
      refine va_iast hx hb hK hP hD hS 11 6 rfl rfl (vp_in_nI (by omega) (by decide)) d_G_addLinked_33 (fun H locs hP hD hS => ?_)
      rw [nI_clamp (by omega)] at hP hD
      have hP : va_P (dC, dI) vwCl (xw ad cd w wr fl pw sc (upd (upd lw (rn * 4) fi) ((rn * 4) + 1) se) rot vb (nI rn) (nI tn) live row cur ser dur wo bts us act rd rs) H := hP
      have hD : va_D (xA 15 ad s.heap.size) (xw ad cd w wr fl pw sc (upd (upd lw (rn * 4) fi) ((rn * 4) + 1) se) rot vb (nI rn) (nI tn) live row cur ser dur wo bts us act rd rs) := hD
      refine lv_aload_n hx hb d_G_addLinked_34 rfl (lv_at hl 1 rfl) ?_
      refine va_get (D := (dC, dI)) (ci := 2) (v := .ref (ad 11)) (C := R_G) (T := F_G) (N := 5) hx hb hts (fun w h => List.mem_cons_of_mem _ (in_G w h)) hown hK hP 3 rfl rfl 0 (by decide) (hts (.fieldLink R_G 9 R_G "words" "[I") (List.mem_cons_of_mem _ t_84)) (fun _ h9 => h9) rfl d_G_addLinked_35 ?_
      refine lv_iload hx hb d_G_addLinked_38 (lv_at hl 0 rfl) ?_
      refine lv_iconst (v := nI 2) hx hb d_G_addLinked_40 (by decide) ?_
      refine lv_iadd hx hb d_G_addLinked_41 ?_
      refine tp_i (y := nI ((rn * 4) + 2)) (nI_add _ _) ?_
      refine lv_iload_n hx hb d_G_addLinked_42 rfl (lv_at hl 4 rfl) ?_
      refine va_iast hx hb hK hP hD hS 11 6 rfl rfl (vp_in_nI (by omega) (by decide)) d_G_addLinked_43 (fun H locs hP hD hS => ?_)
      rw [nI_clamp (by omega)] at hP hD
      have hP : va_P (dC, dI) vwCl (xw ad cd w wr fl pw sc (upd (upd (upd lw (rn * 4) fi) ((rn * 4) + 1) se) ((rn * 4) + 2) thi) rot vb (nI rn) (nI tn) live row cur ser dur wo bts us act rd rs) H := hP
      have hD : va_D (xA 15 ad s.heap.size) (xw ad cd w wr fl pw sc (upd (upd (upd lw (rn * 4) fi) ((rn * 4) + 1) se) ((rn * 4) + 2) thi) rot vb (nI rn) (nI tn) live row cur ser dur wo bts us act rd rs) := hD
      refine lv_aload_n hx hb d_G_addLinked_44 rfl (lv_at hl 1 rfl) ?_
      refine va_get (D := (dC, dI)) (ci := 2) (v := .ref (ad 11)) (C := R_G) (T := F_G) (N := 5) hx hb hts (fun w h => List.mem_cons_of_mem _ (in_G w h)) hown hK hP 3 rfl rfl 0 (by decide) (hts (.fieldLink R_G 9 R_G "words" "[I") (List.mem_cons_of_mem _ t_84)) (fun _ h9 => h9) rfl d_G_addLinked_45 ?_
      refine lv_iload hx hb d_G_addLinked_48 (lv_at hl 0 rfl) ?_
      refine lv_iconst (v := nI 3) hx hb d_G_addLinked_50 (by decide) ?_
      refine lv_iadd hx hb d_G_addLinked_51 ?_
      refine tp_i (y := nI ((rn * 4) + 3)) (nI_add _ _) ?_
      refine lv_iload hx hb d_G_addLinked_52 (lv_at hl 5 rfl) ?_
      refine va_iast hx hb hK hP hD hS 11 6 rfl rfl (vp_in_nI (by omega) (by decide)) d_G_addLinked_54 (fun H locs hP hD hS => ?_)
      rw [nI_clamp (by omega)] at hP hD
      have hP : va_P (dC, dI) vwCl (xw ad cd w wr fl pw sc (upd (upd (upd (upd lw (rn * 4) fi) ((rn * 4) + 1) se) ((rn * 4) + 2) thi) ((rn * 4) + 3) lk) rot vb (nI rn) (nI tn) live row cur ser dur wo bts us act rd rs) H := hP
      have hD : va_D (xA 15 ad s.heap.size) (xw ad cd w wr fl pw sc (upd (upd (upd (upd lw (rn * 4) fi) ((rn * 4) + 1) se) ((rn * 4) + 2) thi) ((rn * 4) + 3) lk) rot vb (nI rn) (nI tn) live row cur ser dur wo bts us act rd rs) := hD
      refine lv_iload_n hx hb d_G_addLinked_55 rfl (lv_at hl 4 rfl) ?_
      refine lv_bipush (v := nI 26) hx hb d_G_addLinked_56 (by decide) ?_
      refine lv_iushr hx hb d_G_addLinked_58 rfl ?_
      refine lv_bipush (v := nI 63) hx hb d_G_addLinked_59 (by decide) ?_
      refine lv_icmp_ne (tgt := 73) hx hb d_G_addLinked_61 (by decide) (fun c61 => ?_) (fun c61 => ?_)
      ·
        refine lv_aload_n hx hb d_G_addLinked_73 rfl (lv_at hl 1 rfl) ?_
        refine va_get (D := (dC, dI)) (ci := 2) (v := .ref (ad 12)) (C := R_G) (T := F_G) (N := 5) hx hb hts (fun w h => List.mem_cons_of_mem _ (in_G w h)) hown hK hP 3 rfl rfl 1 (by decide) (hts (.fieldLink R_G 15 R_G "recordOfTicket" "[I") (List.mem_cons_of_mem _ t_85)) (fun _ h9 => h9) rfl d_G_addLinked_74 ?_
        refine lv_aload_n hx hb d_G_addLinked_77 rfl (lv_at hl 1 rfl) ?_
        refine va_get (D := (dC, dI)) (ci := 2) (v := .int (nI tn)) (C := R_G) (T := F_G) (N := 5) hx hb hts (fun w h => List.mem_cons_of_mem _ (in_G w h)) hown hK hP 3 rfl rfl 4 (by decide) (hts (.fieldLink R_G 25 R_G "tickets" "I") (List.mem_cons_of_mem _ t_88)) (fun _ h9 => h9) rfl d_G_addLinked_78 ?_
        refine lv_aload_n hx hb d_G_addLinked_81 rfl (lv_at hl 1 rfl) ?_
        refine va_get (D := (dC, dI)) (ci := 2) (v := .int (nI rn)) (C := R_G) (T := F_G) (N := 5) hx hb hts (fun w h => List.mem_cons_of_mem _ (in_G w h)) hown hK hP 3 rfl rfl 3 (by decide) (hts (.fieldLink R_G 21 R_G "records" "I") (List.mem_cons_of_mem _ t_87)) (fun _ h9 => h9) rfl d_G_addLinked_82 ?_
        refine va_iast hx hb hK hP hD hS 12 7 rfl rfl (vp_in_nI (by omega) (by decide)) d_G_addLinked_85 (fun H locs hP hD hS => ?_)
        rw [nI_clamp (by omega)] at hP hD
        have hP : va_P (dC, dI) vwCl (xw ad cd w wr fl pw sc (upd (upd (upd (upd lw (rn * 4) fi) ((rn * 4) + 1) se) ((rn * 4) + 2) thi) ((rn * 4) + 3) lk) (upd rot tn (nI rn)) vb (nI rn) (nI tn) live row cur ser dur wo bts us act rd rs) H := hP
        have hD : va_D (xA 15 ad s.heap.size) (xw ad cd w wr fl pw sc (upd (upd (upd (upd lw (rn * 4) fi) ((rn * 4) + 1) se) ((rn * 4) + 2) thi) ((rn * 4) + 3) lk) (upd rot tn (nI rn)) vb (nI rn) (nI tn) live row cur ser dur wo bts us act rd rs) := hD
        refine lv_aload_n hx hb d_G_addLinked_86 rfl (lv_at hl 1 rfl) ?_
        refine va_get (D := (dC, dI)) (ci := 2) (v := .ref (ad 13)) (C := R_G) (T := F_G) (N := 5) hx hb hts (fun w h => List.mem_cons_of_mem _ (in_G w h)) hown hK hP 3 rfl rfl 2 (by decide) (hts (.fieldLink R_G 18 R_G "voidedBy" "[I") (List.mem_cons_of_mem _ t_86)) (fun _ h9 => h9) rfl d_G_addLinked_87 ?_
        refine lv_aload_n hx hb d_G_addLinked_90 rfl (lv_at hl 1 rfl) ?_
        refine va_get (D := (dC, dI)) (ci := 2) (v := .int (nI tn)) (C := R_G) (T := F_G) (N := 5) hx hb hts (fun w h => List.mem_cons_of_mem _ (in_G w h)) hown hK hP 3 rfl rfl 4 (by decide) (hts (.fieldLink R_G 25 R_G "tickets" "I") (List.mem_cons_of_mem _ t_88)) (fun _ h9 => h9) rfl d_G_addLinked_91 ?_
        refine lv_iconst (v := nI 0) hx hb d_G_addLinked_94 (by decide) ?_
        refine va_iast hx hb hK hP hD hS 13 8 rfl rfl (vp_in_nI (by omega) (by decide)) d_G_addLinked_95 (fun H locs hP hD hS => ?_)
        rw [nI_clamp (by omega)] at hP hD
        have hP : va_P (dC, dI) vwCl (xw ad cd w wr fl pw sc (upd (upd (upd (upd lw (rn * 4) fi) ((rn * 4) + 1) se) ((rn * 4) + 2) thi) ((rn * 4) + 3) lk) (upd rot tn (nI rn)) (upd vb tn (nI 0)) (nI rn) (nI tn) live row cur ser dur wo bts us act rd rs) H := hP
        have hD : va_D (xA 15 ad s.heap.size) (xw ad cd w wr fl pw sc (upd (upd (upd (upd lw (rn * 4) fi) ((rn * 4) + 1) se) ((rn * 4) + 2) thi) ((rn * 4) + 3) lk) (upd rot tn (nI rn)) (upd vb tn (nI 0)) (nI rn) (nI tn) live row cur ser dur wo bts us act rd rs) := hD
        refine lv_aload_n hx hb d_G_addLinked_96 rfl (lv_at hl 1 rfl) ?_
        refine lv_dup hx hb d_G_addLinked_97 rfl ?_
        refine va_get (D := (dC, dI)) (ci := 2) (v := .int (nI tn)) (C := R_G) (T := F_G) (N := 5) hx hb hts (fun w h => List.mem_cons_of_mem _ (in_G w h)) hown hK hP 3 rfl rfl 4 (by decide) (hts (.fieldLink R_G 25 R_G "tickets" "I") (List.mem_cons_of_mem _ t_88)) (fun _ h9 => h9) rfl d_G_addLinked_98 ?_
        refine lv_iconst (v := nI 1) hx hb d_G_addLinked_101 (by decide) ?_
        refine lv_iadd hx hb d_G_addLinked_102 ?_
        refine tp_i (y := nI (tn + 1)) (nI_add _ _) ?_
        refine va_put (D := (dC, dI)) (ci := 2) (v := .int (nI (tn + 1))) (ty := .int) (C := R_G) (T := F_G) (N := 5) hx hb hts (fun w h => List.mem_cons_of_mem _ (in_G w h)) t_G ok_G nm_G hown hK hP hD hS 3 rfl rfl 4 (by decide) (hts (.fieldLink R_G 25 R_G "tickets" "I") (List.mem_cons_of_mem _ t_88)) (fun _ h9 => h9) rfl (by decide +kernel) rfl rfl (Nat.le_of_ble_eq_true rfl) d_G_addLinked_103 (fun H locs hP hD hS => ?_)
        have hP : va_P (dC, dI) vwCl (xw ad cd w wr fl pw sc (upd (upd (upd (upd lw (rn * 4) fi) ((rn * 4) + 1) se) ((rn * 4) + 2) thi) ((rn * 4) + 3) lk) (upd rot tn (nI rn)) (upd vb tn (nI 0)) (nI rn) (nI (tn + 1)) live row cur ser dur wo bts us act rd rs) H := hP
        have hD : va_D (xA 15 ad s.heap.size) (xw ad cd w wr fl pw sc (upd (upd (upd (upd lw (rn * 4) fi) ((rn * 4) + 1) se) ((rn * 4) + 2) thi) ((rn * 4) + 3) lk) (upd rot tn (nI rn)) (upd vb tn (nI 0)) (nI rn) (nI (tn + 1)) live row cur ser dur wo bts us act rd rs) := hD
        refine lv_aload_n hx hb d_G_addLinked_106 rfl (lv_at hl 1 rfl) ?_
        refine lv_dup hx hb d_G_addLinked_107 rfl ?_
        refine va_get (D := (dC, dI)) (ci := 2) (v := .int (nI rn)) (C := R_G) (T := F_G) (N := 5) hx hb hts (fun w h => List.mem_cons_of_mem _ (in_G w h)) hown hK hP 3 rfl rfl 3 (by decide) (hts (.fieldLink R_G 21 R_G "records" "I") (List.mem_cons_of_mem _ t_87)) (fun _ h9 => h9) rfl d_G_addLinked_108 ?_
        refine lv_iconst (v := nI 1) hx hb d_G_addLinked_111 (by decide) ?_
        refine lv_iadd hx hb d_G_addLinked_112 ?_
        refine tp_i (y := nI (rn + 1)) (nI_add _ _) ?_
        refine va_put (D := (dC, dI)) (ci := 2) (v := .int (nI (rn + 1))) (ty := .int) (C := R_G) (T := F_G) (N := 5) hx hb hts (fun w h => List.mem_cons_of_mem _ (in_G w h)) t_G ok_G nm_G hown hK hP hD hS 3 rfl rfl 3 (by decide) (hts (.fieldLink R_G 21 R_G "records" "I") (List.mem_cons_of_mem _ t_87)) (fun _ h9 => h9) rfl (by decide +kernel) rfl rfl (Nat.le_of_ble_eq_true rfl) d_G_addLinked_113 (fun H locs hP hD hS => ?_)
        have hP : va_P (dC, dI) vwCl (xw ad cd w wr fl pw sc (upd (upd (upd (upd lw (rn * 4) fi) ((rn * 4) + 1) se) ((rn * 4) + 2) thi) ((rn * 4) + 3) lk) (upd rot tn (nI rn)) (upd vb tn (nI 0)) (nI (rn + 1)) (nI (tn + 1)) live row cur ser dur wo bts us act rd rs) H := hP
        have hD : va_D (xA 15 ad s.heap.size) (xw ad cd w wr fl pw sc (upd (upd (upd (upd lw (rn * 4) fi) ((rn * 4) + 1) se) ((rn * 4) + 2) thi) ((rn * 4) + 3) lk) (upd rot tn (nI rn)) (upd vb tn (nI 0)) (nI (rn + 1)) (nI (tn + 1)) live row cur ser dur wo bts us act rd rs) := hD
        exact W.vret hx hb hr (fun t ht hW => ⟨⟨(fun i => [upd (upd (upd (upd lw (rn * 4) fi) ((rn * 4) + 1) se) ((rn * 4) + 2) thi) ((rn * 4) + 3) lk, upd rot tn (nI rn), upd vb tn (nI 0)].getD i (fun _ => 0), fun i => [].getD i 0, fun i => [rn + 1, tn + 1].getD i 0), rfl, ⟨(show (tn + 1) ≤ (rn + 1) by omega), (show (rn + 1) ≤ 48 by omega), by first | exact hrot | exact IX_upd hrot (IX.of (by omega))⟩, ⟨by rw [ht]; exact hP, va_K.moved hW.alike hK, hD⟩⟩, hS.F ht⟩) hS.2.2 d_G_addLinked_116
      ·
        refine lv_aload_n hx hb d_G_addLinked_64 rfl (lv_at hl 1 rfl) ?_
        refine lv_iload_n hx hb d_G_addLinked_65 rfl (lv_at hl 2 rfl) ?_
        refine lv_iload_n hx hb d_G_addLinked_66 rfl (lv_at hl 3 rfl) ?_
        have hSz := hS.1
        refine va_callv (va_runV (C := R_G) (As := [.int fi, .int se]) (rest := []) ⟨hx, hb, hml, hown, hts⟩ (c_G_applyVoiding l dC dI ad cd H.size w wr fl pw sc (upd (upd (upd (upd lw (rn * 4) fi) ((rn * 4) + 1) se) ((rn * 4) + 2) thi) ((rn * 4) + 3) lk) rot vb (nI rn) (nI tn) live row cur ser dur wo bts us act rd rs tn fi se (by first | omega | rfl | assumption | decide)) (cwV 2 hts (g_V t_194 t_196 s_4 t_4 t_197) rfl rfl rfl (by decide +kernel) ⟨by decide, by decide⟩) (xP_v hP hK hD hN 3 rfl rfl) rfl rfl hl.1 rfl (lv_room (Nat.le_of_ble_eq_true rfl)) d_G_addLinked_67 ⟨Nat.le_refl _, Nat.le_refl _⟩) hS (fun q _ h => xA_up hS.1 q h) (fun q h => xA_up hS.1 q h) (fun u67 t H1 locs1 ht hvm q67 hB hz1 hk1 hS => ?_)
        obtain ⟨hP1, hK1, hD1⟩ := hB
        rw [ht] at hP1
        have hD : va_D (xA 15 ad s.heap.size) (xw ad cd w wr fl pw sc (upd (upd (upd (upd lw (rn * 4) fi) ((rn * 4) + 1) se) ((rn * 4) + 2) thi) ((rn * 4) + 3) lk) rot (u67.1 0) (nI rn) (nI tn) live row cur ser dur wo bts us act rd rs) := hD1.weaken (fun _ q _ h => xA_up hSz _ h)
        have hP : va_P (dC, dI) vwCl (xw ad cd w wr fl pw sc (upd (upd (upd (upd lw (rn * 4) fi) ((rn * 4) + 1) se) ((rn * 4) + 2) thi) ((rn * 4) + 3) lk) rot (u67.1 0) (nI rn) (nI tn) live row cur ser dur wo bts us act rd rs) H1 := hP1
        generalize H1 = H at hP hS ⊢
        generalize locs1 = locs at hS ⊢
        have hk67 := q67
        refine lv_goto (tgt := 106) hx hb d_G_addLinked_70 (by decide) ?_
        refine lv_aload_n hx hb d_G_addLinked_106 rfl (lv_at hl 1 rfl) ?_
        refine lv_dup hx hb d_G_addLinked_107 rfl ?_
        refine va_get (D := (dC, dI)) (ci := 2) (v := .int (nI rn)) (C := R_G) (T := F_G) (N := 5) hx hb hts (fun w h => List.mem_cons_of_mem _ (in_G w h)) hown hK hP 3 rfl rfl 3 (by decide) (hts (.fieldLink R_G 21 R_G "records" "I") (List.mem_cons_of_mem _ t_87)) (fun _ h9 => h9) rfl d_G_addLinked_108 ?_
        refine lv_iconst (v := nI 1) hx hb d_G_addLinked_111 (by decide) ?_
        refine lv_iadd hx hb d_G_addLinked_112 ?_
        refine tp_i (y := nI (rn + 1)) (nI_add _ _) ?_
        refine va_put (D := (dC, dI)) (ci := 2) (v := .int (nI (rn + 1))) (ty := .int) (C := R_G) (T := F_G) (N := 5) hx hb hts (fun w h => List.mem_cons_of_mem _ (in_G w h)) t_G ok_G nm_G hown hK hP hD hS 3 rfl rfl 3 (by decide) (hts (.fieldLink R_G 21 R_G "records" "I") (List.mem_cons_of_mem _ t_87)) (fun _ h9 => h9) rfl (by decide +kernel) rfl rfl (Nat.le_of_ble_eq_true rfl) d_G_addLinked_113 (fun H locs hP hD hS => ?_)
        have hP : va_P (dC, dI) vwCl (xw ad cd w wr fl pw sc (upd (upd (upd (upd lw (rn * 4) fi) ((rn * 4) + 1) se) ((rn * 4) + 2) thi) ((rn * 4) + 3) lk) rot (u67.1 0) (nI (rn + 1)) (nI tn) live row cur ser dur wo bts us act rd rs) H := hP
        have hD : va_D (xA 15 ad s.heap.size) (xw ad cd w wr fl pw sc (upd (upd (upd (upd lw (rn * 4) fi) ((rn * 4) + 1) se) ((rn * 4) + 2) thi) ((rn * 4) + 3) lk) rot (u67.1 0) (nI (rn + 1)) (nI tn) live row cur ser dur wo bts us act rd rs) := hD
        exact W.vret hx hb hr (fun t ht hW => ⟨⟨(fun i => [upd (upd (upd (upd lw (rn * 4) fi) ((rn * 4) + 1) se) ((rn * 4) + 2) thi) ((rn * 4) + 3) lk, rot, u67.1 0].getD i (fun _ => 0), fun i => [].getD i 0, fun i => [rn + 1, tn].getD i 0), rfl, ⟨(show tn ≤ (rn + 1) by omega), (show (rn + 1) ≤ 48 by omega), by first | exact hrot | exact IX_upd hrot (IX.of (by omega))⟩, ⟨by rw [ht]; exact hP, va_K.moved hW.alike hK, hD⟩⟩, hS.F ht⟩) hS.2.2 d_G_addLinked_116
    ·
      exact absurd c4 (by decide)
set_option maxHeartbeats 4000000 in
set_option maxRecDepth 100000 in
theorem c_G_add (l : Launch) (dC : Nat → ClassId) (dI : Nat → Nat → Nat) (ad cd : Nat → Nat) (sz : Nat) (w wr fl : Nat → Int32) (pw sc : Int32) (lw rot vb : Nat → Int32) (rec tk : Int32) (live row : Nat → Int32) (cur ser dur wo : Int32) (bts : Nat → Int32) (us : Int32) (act : Nat → Int32) (rd rs : Int32) (rn : Nat) (tn : Nat) (fi : Int32) (se : Int32) (thi : Int32) (hrt : tn ≤ rn) (hr48 : rn ≤ 48) (hrot : ∀ i, i < 48 → IX 48 (rot i)) : Met l y_G_add w_G_add ({ frames := 3, cells := 0, slots := 0, locals := 69 }) (xP (dC, dI) vwCl (xt cd) (xw ad cd w wr fl pw sc lw rot vb (nI rn) (nI tn) live row cur ser dur wo bts us act rd rs) sz [.ref (ad 3), .int fi, .int se, .int thi]) (va_Qv (fun (u : (Nat → Nat → Int32) × (Nat → Int32) × (Nat → Nat)) => (u.2.2 1) ≤ (u.2.2 0) ∧ (u.2.2 0) ≤ 48 ∧ ∀ i, i < 48 → IX 48 ((u.1 1) i)) (fun (u : (Nat → Nat → Int32) × (Nat → Int32) × (Nat → Nat)) (t : State) => xB (dC, dI) vwCl (xt cd) (xA 15 ad sz) (xw ad cd w wr fl pw sc (u.1 0) (u.1 1) (u.1 2) (nI (u.2.2 0)) (nI (u.2.2 1)) live row cur ser dur wo bts us act rd rs) t) (xA 15 ad sz)) 0 0 (xA 15 ad sz) := by
  refine Met.ofW (cc := b_G_add) (maxL := 6) (ret := none) (by decide) rfl ?_
  intro P e s m args below meth c0 s₁ B hml hv
  obtain ⟨rfl, hsz, hP, hK, hD0, hN⟩ := hv
  have hx := B.exec
  have hb := B.bytes
  have hr := B.returns
  have hts := atoms_spec (ws := w_G_add) B.pre
  have hown : s.vm.findClass R_G = some m.cls := findClass_of_methodNamed B.named
  have hlocks := B.notSynchronized
  subst hsz
  have hD := xw_D (sz := s.heap.size) hD0
  have hS : va_S (xA 15 ad s.heap.size) s.heap s.heap [] := va_S.rf
  have hA : ∀ q : Nat, s.heap.size ≤ q → (xA 15 ad s.heap.size) q := fun q h => Or.inr h
  have hl := lv_entry ([.ref (ad 3), .int fi, .int se, .int thi]) (n := 6) (Nat.le_of_ble_eq_true rfl)
  rw [lg_entry_eq]
  generalize (lg_sl ([.ref (ad 3), .int fi, .int se, .int thi]) ++ List.replicate (6 - (lg_sl ([.ref (ad 3), .int fi, .int se, .int thi])).length) Slot.unset).toArray = ls at hl ⊢
  have hl : lv_has ls 6 [(0, .ref (ad 3)), (1, .int fi), (2, .int se), (3, .int thi)] := hl
  rcases Nat.eq_zero_or_pos rn with hz | hz
  ·
    subst hz
    refine lv_aload_n hx hb d_G_add_0 rfl (lv_at hl 0 rfl) ?_
    refine va_get (D := (dC, dI)) (ci := 2) (v := .int (nI 0)) (C := R_G) (T := F_G) (N := 5) hx hb hts (fun w h => List.mem_cons_of_mem _ (in_G w h)) hown hK hP 3 rfl rfl 3 (by decide) (hts (.fieldLink R_G 21 R_G "records" "I") (List.mem_cons_of_mem _ t_87)) (fun _ h9 => h9) rfl d_G_add_1 ?_
    refine lv_iconst (v := nI 1) hx hb d_G_add_4 (by decide) ?_
    refine lv_isub hx hb d_G_add_5 ?_
    refine lv_iconst (v := nI 4) hx hb d_G_add_6 (by decide) ?_
    refine lv_imul hx hb d_G_add_7 ?_
    refine lv_istore hx hb d_G_add_8 hl (by decide) rfl (fun ls hl => ?_)
    have hl : lv_has ls 6 [(4, .int (((nI 0) - (nI 1)) * (nI 4))), (0, .ref (ad 3)), (1, .int fi), (2, .int se), (3, .int thi)] := hl
    refine lv_aload_n hx hb d_G_add_10 rfl (lv_at hl 1 rfl) ?_
    refine va_get (D := (dC, dI)) (ci := 2) (v := .int (nI 0)) (C := R_G) (T := F_G) (N := 5) hx hb hts (fun w h => List.mem_cons_of_mem _ (in_G w h)) hown hK hP 3 rfl rfl 3 (by decide) (hts (.fieldLink R_G 21 R_G "records" "I") (List.mem_cons_of_mem _ t_87)) (fun _ h9 => h9) rfl d_G_add_11 ?_
    refine lv_if_ne (tgt := 23) hx hb d_G_add_14 (by decide) (fun c14 => ?_) (fun c14 => ?_)
    ·
      exact absurd c14 (by decide)
    ·
      refine lv_sipush (v := nI 7989) hx hb d_G_add_17 (by decide) ?_
      refine lv_goto (tgt := 33) hx hb d_G_add_20 (by decide) ?_
      refine lv_istore hx hb d_G_add_33 hl (by decide) rfl (fun ls hl => ?_)
      have hl : lv_has ls 6 [(5, .int (nI 7989)), (4, .int (((nI 0) - (nI 1)) * (nI 4))), (0, .ref (ad 3)), (1, .int fi), (2, .int se), (3, .int thi)] := hl
      refine lv_aload_n hx hb d_G_add_35 rfl (lv_at hl 2 rfl) ?_
      refine lv_iload_n hx hb d_G_add_36 rfl (lv_at hl 3 rfl) ?_
      refine lv_iload_n hx hb d_G_add_37 rfl (lv_at hl 4 rfl) ?_
      refine lv_iload_n hx hb d_G_add_38 rfl (lv_at hl 5 rfl) ?_
      refine lv_iload hx hb d_G_add_39 (lv_at hl 0 rfl) ?_
      have hSz := hS.1
      refine va_callv (va_runV (C := R_G) (As := [.int fi, .int se, .int thi, .int (nI 7989)]) (rest := []) ⟨hx, hb, hml, hown, hts⟩ (c_G_addLinked l dC dI ad cd s.heap.size w wr fl pw sc lw rot vb (nI 0) (nI tn) live row cur ser dur wo bts us act rd rs 0 tn fi se thi (nI 7989) (by first | omega | rfl | assumption | decide) (by first | omega | rfl | assumption | decide) (by first | omega | rfl | assumption | decide)) (cwV 4 hts (g_V t_386 t_187 t_188 t_4 t_189) rfl rfl rfl (by decide +kernel) ⟨by decide, by decide⟩) (xP_v hP hK hD hN 3 rfl rfl) rfl rfl hl.1 rfl (lv_room (Nat.le_of_ble_eq_true rfl)) d_G_add_41 ⟨Nat.le_refl _, Nat.le_refl _⟩) hS (fun q _ h => xA_up hS.1 q h) (fun q h => xA_up hS.1 q h) (fun u41 t H1 locs1 ht hvm q41 hB hz1 hk1 hS => ?_)
      obtain ⟨hP1, hK1, hD1⟩ := hB
      rw [ht] at hP1
      have hD : va_D (xA 15 ad s.heap.size) (xw ad cd w wr fl pw sc (u41.1 0) (u41.1 1) (u41.1 2) (nI (u41.2.2 0)) (nI (u41.2.2 1)) live row cur ser dur wo bts us act rd rs) := hD1.weaken (fun _ q _ h => xA_up hSz _ h)
      have hP : va_P (dC, dI) vwCl (xw ad cd w wr fl pw sc (u41.1 0) (u41.1 1) (u41.1 2) (nI (u41.2.2 0)) (nI (u41.2.2 1)) live row cur ser dur wo bts us act rd rs) H1 := hP1
      generalize H1 = H at hP hS ⊢
      generalize locs1 = locs at hS ⊢
      obtain ⟨hrt, hr48, hrot⟩ := q41
      exact W.vret hx hb hr (fun t ht hW => ⟨⟨(fun i => [u41.1 0, u41.1 1, u41.1 2].getD i (fun _ => 0), fun i => [].getD i 0, fun i => [u41.2.2 0, u41.2.2 1].getD i 0), rfl, ⟨hrt, hr48, hrot⟩, ⟨by rw [ht]; exact hP, va_K.moved hW.alike hK, hD⟩⟩, hS.F ht⟩) hS.2.2 d_G_add_44
  ·
    refine lv_aload_n hx hb d_G_add_0 rfl (lv_at hl 0 rfl) ?_
    refine va_get (D := (dC, dI)) (ci := 2) (v := .int (nI rn)) (C := R_G) (T := F_G) (N := 5) hx hb hts (fun w h => List.mem_cons_of_mem _ (in_G w h)) hown hK hP 3 rfl rfl 3 (by decide) (hts (.fieldLink R_G 21 R_G "records" "I") (List.mem_cons_of_mem _ t_87)) (fun _ h9 => h9) rfl d_G_add_1 ?_
    refine lv_iconst (v := nI 1) hx hb d_G_add_4 (by decide) ?_
    refine lv_isub hx hb d_G_add_5 ?_
    refine tp_i (y := nI (rn - 1)) (pk_sub (by omega)) ?_
    refine lv_iconst (v := nI 4) hx hb d_G_add_6 (by decide) ?_
    refine lv_imul hx hb d_G_add_7 ?_
    refine tp_i (y := nI ((rn - 1) * 4)) (pk_mul _ _) ?_
    refine lv_istore hx hb d_G_add_8 hl (by decide) rfl (fun ls hl => ?_)
    have hl : lv_has ls 6 [(4, .int (nI ((rn - 1) * 4))), (0, .ref (ad 3)), (1, .int fi), (2, .int se), (3, .int thi)] := hl
    refine lv_aload_n hx hb d_G_add_10 rfl (lv_at hl 1 rfl) ?_
    refine va_get (D := (dC, dI)) (ci := 2) (v := .int (nI rn)) (C := R_G) (T := F_G) (N := 5) hx hb hts (fun w h => List.mem_cons_of_mem _ (in_G w h)) hown hK hP 3 rfl rfl 3 (by decide) (hts (.fieldLink R_G 21 R_G "records" "I") (List.mem_cons_of_mem _ t_87)) (fun _ h9 => h9) rfl d_G_add_11 ?_
    refine lv_if_ne (tgt := 23) hx hb d_G_add_14 (by decide) (fun c14 => ?_) (fun c14 => ?_)
    ·
      have c14 := cz_ne_t (by omega) c14
      refine lv_aload_n hx hb d_G_add_23 rfl (lv_at hl 1 rfl) ?_
      refine va_get (D := (dC, dI)) (ci := 2) (v := .ref (ad 11)) (C := R_G) (T := F_G) (N := 5) hx hb hts (fun w h => List.mem_cons_of_mem _ (in_G w h)) hown hK hP 3 rfl rfl 0 (by decide) (hts (.fieldLink R_G 9 R_G "words" "[I") (List.mem_cons_of_mem _ t_84)) (fun _ h9 => h9) rfl d_G_add_24 ?_
      refine lv_iload hx hb d_G_add_27 (lv_at hl 0 rfl) ?_
      refine lv_iconst (v := nI 4) hx hb d_G_add_29 (by decide) ?_
      refine vp_callSi (va_runSN (host := R_R) (As := [.ref (ad 11), .int (nI ((rn - 1) * 4)), .int (nI 4)]) (rest := []) ⟨hx, hb, hml, hown, hts⟩ (c_R_sumOf_g l dC dI ad cd w wr fl pw sc lw rot vb (nI rn) (nI tn) live row cur ser dur wo bts us act rd rs ((rn - 1) * 4) 4 (by first | omega | rfl | assumption | decide)) ⟨va_cnB 3 hts (g_c t_171) rfl rfl rfl hN.2.1 (hts _ (List.mem_cons_of_mem _ t_1)) (by decide +kernel) ⟨by decide, by decide⟩, (hts (.static y_R_sumOf) (List.mem_cons_of_mem _ t_170)), trivial⟩ (xR_s hP hK hN) rfl rfl hl.1 rfl (lv_room (Nat.le_of_ble_eq_true rfl)) d_G_add_30 ⟨Nat.le_refl _, Nat.le_refl _⟩).run (fun r30 q30 => ?_)
      refine lv_istore hx hb d_G_add_33 hl (by decide) rfl (fun ls hl => ?_)
      have hl : lv_has ls 6 [(5, .int r30), (4, .int (nI ((rn - 1) * 4))), (0, .ref (ad 3)), (1, .int fi), (2, .int se), (3, .int thi)] := hl
      refine lv_aload_n hx hb d_G_add_35 rfl (lv_at hl 2 rfl) ?_
      refine lv_iload_n hx hb d_G_add_36 rfl (lv_at hl 3 rfl) ?_
      refine lv_iload_n hx hb d_G_add_37 rfl (lv_at hl 4 rfl) ?_
      refine lv_iload_n hx hb d_G_add_38 rfl (lv_at hl 5 rfl) ?_
      refine lv_iload hx hb d_G_add_39 (lv_at hl 0 rfl) ?_
      have hSz := hS.1
      refine va_callv (va_runV (C := R_G) (As := [.int fi, .int se, .int thi, .int r30]) (rest := []) ⟨hx, hb, hml, hown, hts⟩ (c_G_addLinked l dC dI ad cd s.heap.size w wr fl pw sc lw rot vb (nI rn) (nI tn) live row cur ser dur wo bts us act rd rs rn tn fi se thi r30 (by first | omega | rfl | assumption | decide) (by first | omega | rfl | assumption | decide) (by first | omega | rfl | assumption | decide)) (cwV 4 hts (g_V t_386 t_187 t_188 t_4 t_189) rfl rfl rfl (by decide +kernel) ⟨by decide, by decide⟩) (xP_v hP hK hD hN 3 rfl rfl) rfl rfl hl.1 rfl (lv_room (Nat.le_of_ble_eq_true rfl)) d_G_add_41 ⟨Nat.le_refl _, Nat.le_refl _⟩) hS (fun q _ h => xA_up hS.1 q h) (fun q h => xA_up hS.1 q h) (fun u41 t H1 locs1 ht hvm q41 hB hz1 hk1 hS => ?_)
      obtain ⟨hP1, hK1, hD1⟩ := hB
      rw [ht] at hP1
      have hD : va_D (xA 15 ad s.heap.size) (xw ad cd w wr fl pw sc (u41.1 0) (u41.1 1) (u41.1 2) (nI (u41.2.2 0)) (nI (u41.2.2 1)) live row cur ser dur wo bts us act rd rs) := hD1.weaken (fun _ q _ h => xA_up hSz _ h)
      have hP : va_P (dC, dI) vwCl (xw ad cd w wr fl pw sc (u41.1 0) (u41.1 1) (u41.1 2) (nI (u41.2.2 0)) (nI (u41.2.2 1)) live row cur ser dur wo bts us act rd rs) H1 := hP1
      generalize H1 = H at hP hS ⊢
      generalize locs1 = locs at hS ⊢
      obtain ⟨hrt, hr48, hrot⟩ := q41
      exact W.vret hx hb hr (fun t ht hW => ⟨⟨(fun i => [u41.1 0, u41.1 1, u41.1 2].getD i (fun _ => 0), fun i => [].getD i 0, fun i => [u41.2.2 0, u41.2.2 1].getD i 0), rfl, ⟨hrt, hr48, hrot⟩, ⟨by rw [ht]; exact hP, va_K.moved hW.alike hK, hD⟩⟩, hS.F ht⟩) hS.2.2 d_G_add_44
    ·
      have c14 := cz_ne_f (by omega) c14
      refine lv_sipush (v := nI 7989) hx hb d_G_add_17 (by decide) ?_
      refine lv_goto (tgt := 33) hx hb d_G_add_20 (by decide) ?_
      refine lv_istore hx hb d_G_add_33 hl (by decide) rfl (fun ls hl => ?_)
      have hl : lv_has ls 6 [(5, .int (nI 7989)), (4, .int (nI ((rn - 1) * 4))), (0, .ref (ad 3)), (1, .int fi), (2, .int se), (3, .int thi)] := hl
      refine lv_aload_n hx hb d_G_add_35 rfl (lv_at hl 2 rfl) ?_
      refine lv_iload_n hx hb d_G_add_36 rfl (lv_at hl 3 rfl) ?_
      refine lv_iload_n hx hb d_G_add_37 rfl (lv_at hl 4 rfl) ?_
      refine lv_iload_n hx hb d_G_add_38 rfl (lv_at hl 5 rfl) ?_
      refine lv_iload hx hb d_G_add_39 (lv_at hl 0 rfl) ?_
      have hSz := hS.1
      refine va_callv (va_runV (C := R_G) (As := [.int fi, .int se, .int thi, .int (nI 7989)]) (rest := []) ⟨hx, hb, hml, hown, hts⟩ (c_G_addLinked l dC dI ad cd s.heap.size w wr fl pw sc lw rot vb (nI rn) (nI tn) live row cur ser dur wo bts us act rd rs rn tn fi se thi (nI 7989) (by first | omega | rfl | assumption | decide) (by first | omega | rfl | assumption | decide) (by first | omega | rfl | assumption | decide)) (cwV 4 hts (g_V t_386 t_187 t_188 t_4 t_189) rfl rfl rfl (by decide +kernel) ⟨by decide, by decide⟩) (xP_v hP hK hD hN 3 rfl rfl) rfl rfl hl.1 rfl (lv_room (Nat.le_of_ble_eq_true rfl)) d_G_add_41 ⟨Nat.le_refl _, Nat.le_refl _⟩) hS (fun q _ h => xA_up hS.1 q h) (fun q h => xA_up hS.1 q h) (fun u41 t H1 locs1 ht hvm q41 hB hz1 hk1 hS => ?_)
      obtain ⟨hP1, hK1, hD1⟩ := hB
      rw [ht] at hP1
      have hD : va_D (xA 15 ad s.heap.size) (xw ad cd w wr fl pw sc (u41.1 0) (u41.1 1) (u41.1 2) (nI (u41.2.2 0)) (nI (u41.2.2 1)) live row cur ser dur wo bts us act rd rs) := hD1.weaken (fun _ q _ h => xA_up hSz _ h)
      have hP : va_P (dC, dI) vwCl (xw ad cd w wr fl pw sc (u41.1 0) (u41.1 1) (u41.1 2) (nI (u41.2.2 0)) (nI (u41.2.2 1)) live row cur ser dur wo bts us act rd rs) H1 := hP1
      generalize H1 = H at hP hS ⊢
      generalize locs1 = locs at hS ⊢
      obtain ⟨hrt, hr48, hrot⟩ := q41
      exact W.vret hx hb hr (fun t ht hW => ⟨⟨(fun i => [u41.1 0, u41.1 1, u41.1 2].getD i (fun _ => 0), fun i => [].getD i 0, fun i => [u41.2.2 0, u41.2.2 1].getD i 0), rfl, ⟨hrt, hr48, hrot⟩, ⟨by rw [ht]; exact hP, va_K.moved hW.alike hK, hD⟩⟩, hS.F ht⟩) hS.2.2 d_G_add_44
set_option maxHeartbeats 4000000 in
set_option maxRecDepth 100000 in
theorem c_G_copyRecords (l : Launch) (dC : Nat → ClassId) (dI : Nat → Nat → Nat) (ad cd : Nat → Nat) (sz : Nat) (w wr fl : Nat → Int32) (pw sc : Int32) (lw rot vb : Nat → Int32) (rec tk : Int32) (live row : Nat → Int32) (cur ser dur wo : Int32) (bts : Nat → Int32) (us : Int32) (act : Nat → Int32) (rd rs : Int32) (fr : Nat) (cnt : Nat) (st : Nat) (h1 : fr * 4 + cnt * 4 ≤ 192) (h2 : st + cnt * 4 ≤ 16) : Met l y_G_copyRecords w_G_copyRecords ({ frames := 0, cells := 0, slots := 0, locals := 0 }) (xP (dC, dI) vwCl (xt cd) (xw ad cd w wr fl pw sc lw rot vb rec tk live row cur ser dur wo bts us act rd rs) sz [.ref (ad 3), .int (nI fr), .int (nI cnt), .ref (ad 7), .int (nI st)]) (va_Qv (fun (u : (Nat → Nat → Int32) × (Nat → Int32) × (Nat → Nat)) => True) (fun (u : (Nat → Nat → Int32) × (Nat → Int32) × (Nat → Nat)) (t : State) => xB (dC, dI) vwCl (xt cd) (xA 15 ad sz) (xw ad cd w wr fl pw sc lw rot vb rec tk live (u.1 0) cur ser dur wo bts us act rd rs) t) (xA 15 ad sz)) 0 0 (xA 15 ad sz) := by
  refine Met.ofW (cc := b_G_copyRecords) (maxL := 6) (ret := none) (by decide) rfl ?_
  intro P e s m args below meth c0 s₁ B hml hv
  obtain ⟨rfl, hsz, hP, hK, hD0, hN⟩ := hv
  have hx := B.exec
  have hb := B.bytes
  have hr := B.returns
  have hts := atoms_spec (ws := w_G_copyRecords) B.pre
  have hown : s.vm.findClass R_G = some m.cls := findClass_of_methodNamed B.named
  have hlocks := B.notSynchronized
  subst hsz
  have hD := xw_D (sz := s.heap.size) hD0
  have hS : va_S (xA 15 ad s.heap.size) s.heap s.heap [] := va_S.rf
  have hA : ∀ q : Nat, s.heap.size ≤ q → (xA 15 ad s.heap.size) q := fun q h => Or.inr h
  have hl := lv_entry ([.ref (ad 3), .int (nI fr), .int (nI cnt), .ref (ad 7), .int (nI st)]) (n := 6) (Nat.le_of_ble_eq_true rfl)
  rw [lg_entry_eq]
  generalize (lg_sl ([.ref (ad 3), .int (nI fr), .int (nI cnt), .ref (ad 7), .int (nI st)]) ++ List.replicate (6 - (lg_sl ([.ref (ad 3), .int (nI fr), .int (nI cnt), .ref (ad 7), .int (nI st)])).length) Slot.unset).toArray = ls at hl ⊢
  have hl : lv_has ls 6 [(0, .ref (ad 3)), (1, .int (nI fr)), (2, .int (nI cnt)), (3, .ref (ad 7)), (4, .int (nI st))] := hl
  refine lv_iconst (v := nI 0) hx hb d_G_copyRecords_0 (by decide) ?_
  refine lv_istore hx hb d_G_copyRecords_1 hl (by decide) rfl (fun ls hl => ?_)
  have hl : lv_has ls 6 [(5, .int (nI 0)), (0, .ref (ad 3)), (1, .int (nI fr)), (2, .int (nI cnt)), (3, .ref (ad 7)), (4, .int (nI st))] := hl
  have lp3 : ∀ (n : Nat) (k : Nat) (rv : Nat → Int32) (H : Heap) (locs : List Loc) (ls : Array Slot), (cnt * 4 - k) < n → (k ≤ cnt * 4) → lv_has ls 6 [(0, .ref (ad 3)), (1, .int (nI fr)), (2, .int (nI cnt)), (3, .ref (ad 7)), (4, .int (nI st)), (5, .int (nI k))] → va_P (dC, dI) vwCl (xw ad cd w wr fl pw sc lw rot vb rec tk live rv cur ser dur wo bts us act rd rs) H → va_D (xA 15 ad s.heap.size) (xw ad cd w wr fl pw sc lw rot vb rec tk live rv cur ser dur wo bts us act rd rs) → va_S (xA 15 ad s.heap.size) s.heap H locs → W P l e (headSpec w_G_copyRecords ({ frames := 0, cells := 0, slots := 0, locals := 0 })).room s m (([.ref (ad 3), .int (nI fr), .int (nI cnt), .ref (ad 7), .int (nI st)] : List Value).toArray) below meth c0 H locs 0 0 (MQ below (va_Qv (fun (u : (Nat → Nat → Int32) × (Nat → Int32) × (Nat → Nat)) => True) (fun (u : (Nat → Nat → Int32) × (Nat → Int32) × (Nat → Nat)) (t : State) => xB (dC, dI) vwCl (xt cd) (xA 15 ad s.heap.size) (xw ad cd w wr fl pw sc lw rot vb rec tk live (u.1 0) cur ser dur wo bts us act rd rs) t) (xA 15 ad s.heap.size)) (([.ref (ad 3), .int (nI fr), .int (nI cnt), .ref (ad 7), .int (nI st)] : List Value).toArray) s 0 0 (xA 15 ad s.heap.size)) (F0 m 3 ls []) := by
    intro n
    induction n with
    | zero => intro k rv H locs ls hm; intros; omega
    | succ n ih3 =>
      intro k rv H locs ls hm hk hl hP hD hS
      refine lv_iload hx hb d_G_copyRecords_3 (lv_at hl 5 rfl) ?_
      refine lv_iload_n hx hb d_G_copyRecords_5 rfl (lv_at hl 2 rfl) ?_
      refine lv_iconst (v := nI 4) hx hb d_G_copyRecords_6 (by decide) ?_
      refine lv_imul hx hb d_G_copyRecords_7 ?_
      refine tp_i (y := nI (cnt * 4)) (pk_mul _ _) ?_
      refine lv_icmp_ge (tgt := 35) hx hb d_G_copyRecords_8 (by decide) (fun c8 => ?_) (fun c8 => ?_)
      ·
        have c8 := cd_ge_t (by omega) (by omega) c8
        exact W.vret hx hb hr (fun t ht hW => ⟨⟨(fun i => [rv].getD i (fun _ => 0), fun i => [].getD i 0, fun i => [].getD i 0), rfl, by first | rfl | trivial | omega, ⟨by rw [ht]; exact hP, va_K.moved hW.alike hK, hD⟩⟩, hS.F ht⟩) hS.2.2 d_G_copyRecords_35
      ·
        have c8 := cd_ge_f (by omega) (by omega) c8
        refine lv_aload_n hx hb d_G_copyRecords_11 rfl (lv_at hl 3 rfl) ?_
        refine lv_iload hx hb d_G_copyRecords_12 (lv_at hl 4 rfl) ?_
        refine lv_iload hx hb d_G_copyRecords_14 (lv_at hl 5 rfl) ?_
        refine lv_iadd hx hb d_G_copyRecords_16 ?_
        refine tp_i (y := nI (st + k)) (nI_add _ _) ?_
        refine lv_aload_n hx hb d_G_copyRecords_17 rfl (lv_at hl 0 rfl) ?_
        refine va_get (D := (dC, dI)) (ci := 2) (v := .ref (ad 11)) (C := R_G) (T := F_G) (N := 5) hx hb hts (fun w h => List.mem_cons_of_mem _ (in_G w h)) hown hK hP 3 rfl rfl 0 (by decide) (hts (.fieldLink R_G 9 R_G "words" "[I") (List.mem_cons_of_mem _ t_84)) (fun _ h9 => h9) rfl d_G_copyRecords_18 ?_
        refine lv_iload_n hx hb d_G_copyRecords_21 rfl (lv_at hl 1 rfl) ?_
        refine lv_iconst (v := nI 4) hx hb d_G_copyRecords_22 (by decide) ?_
        refine lv_imul hx hb d_G_copyRecords_23 ?_
        refine tp_i (y := nI (fr * 4)) (pk_mul _ _) ?_
        refine lv_iload hx hb d_G_copyRecords_24 (lv_at hl 5 rfl) ?_
        refine lv_iadd hx hb d_G_copyRecords_26 ?_
        refine tp_i (y := nI ((fr * 4) + k)) (nI_add _ _) ?_
        refine va_iald hx hb hK hP 11 6 rfl rfl (vp_in_nI (by omega) (by decide)) d_G_copyRecords_27 ?_
        refine tp_i (y := lw ((fr * 4) + k)) (by rw [nI_clamp (by omega)]) ?_
        refine va_iast hx hb hK hP hD hS 7 2 rfl rfl (vp_in_nI (by omega) (by decide)) d_G_copyRecords_28 (fun H locs hP hD hS => ?_)
        rw [nI_clamp (by omega)] at hP hD
        have hP : va_P (dC, dI) vwCl (xw ad cd w wr fl pw sc lw rot vb rec tk live (upd rv (st + k) (lw ((fr * 4) + k))) cur ser dur wo bts us act rd rs) H := hP
        have hD : va_D (xA 15 ad s.heap.size) (xw ad cd w wr fl pw sc lw rot vb rec tk live (upd rv (st + k) (lw ((fr * 4) + k))) cur ser dur wo bts us act rd rs) := hD
        refine lv_iinc (k := 5) (v := nI (k + 1)) hx hb d_G_copyRecords_29 hl rfl (nI_1 _) (by decide) rfl (fun ls hl => ?_)
        have hl : lv_has ls 6 [(5, .int (nI (k + 1))), (0, .ref (ad 3)), (1, .int (nI fr)), (2, .int (nI cnt)), (3, .ref (ad 7)), (4, .int (nI st))] := hl
        refine lv_goto (tgt := 3) hx hb d_G_copyRecords_32 (by decide) ?_
        exact ih3 (k + 1) (upd rv (st + k) (lw ((fr * 4) + k))) H locs ls (by omega) (by omega) (lv_sub hl [1, 2, 3, 4, 5, 0] rfl) hP hD hS
  exact lp3 _ 0 row s.heap [] ls (Nat.lt_succ_self _) (by omega) (lv_sub hl [1, 2, 3, 4, 5, 0] rfl) hP hD hS
