set_option maxHeartbeats 4000000 in
set_option maxRecDepth 100000 in
theorem c_G_recordCount (l : Launch) (dC : Nat → ClassId) (dI : Nat → Nat → Nat) (ad cd : Nat → Nat) (w wr fl : Nat → Int32) (pw sc : Int32) (lw rot vb : Nat → Int32) (rec tk : Int32) (live row : Nat → Int32) (cur ser dur wo : Int32) (bts : Nat → Int32) (us : Int32) (act : Nat → Int32) (rd rs : Int32)  : Met l y_G_recordCount w_G_recordCount ({ frames := 0, cells := 0, slots := 0, locals := 0 }) (xR (dC, dI) vwCl (xt cd) (xw ad cd w wr fl pw sc lw rot vb rec tk live row cur ser dur wo bts us act rd rs) [.ref (ad 3)]) (vp_Si (fun r => r = rec)) 0 0 (fun _ => False) := by
  refine Met.ofW (cc := b_G_recordCount) (maxL := 1) (ret := (some (.int))) (by decide) rfl ?_
  intro P e s m args below meth c0 s₁ B hml hv
  obtain ⟨rfl, hP, hK⟩ := hv
  have hx := B.exec
  have hb := B.bytes
  have hr := B.returns
  have hts := atoms_spec (ws := w_G_recordCount) B.pre
  have hown : s.vm.findClass R_G = some m.cls := findClass_of_methodNamed B.named
  have hlocks := B.notSynchronized
  have hl := lv_entry ([.ref (ad 3)]) (n := 1) (Nat.le_of_ble_eq_true rfl)
  rw [lg_entry_eq]
  generalize (lg_sl ([.ref (ad 3)]) ++ List.replicate (1 - (lg_sl ([.ref (ad 3)])).length) Slot.unset).toArray = ls at hl ⊢
  have hl : lv_has ls 1 [(0, .ref (ad 3))] := hl
  refine lv_aload_n hx hb d_G_recordCount_0 rfl (lv_at hl 0 rfl) ?_
  refine va_get (D := (dC, dI)) (ci := 2) (v := .int rec) (C := R_G) (T := F_G) (N := 5) hx hb hts (fun w h => List.mem_cons_of_mem _ (in_G w h)) hown hK hP 3 rfl rfl 3 (by decide) (hts (.fieldLink R_G 21 R_G "records" "I") (List.mem_cons_of_mem _ t_87)) (fun _ h9 => h9) rfl d_G_recordCount_1 ?_
  exact W.iret (v := rec) hx hb hr (fun t ht hW => ⟨rec, rfl, by first | rfl | trivial | omega, ht⟩) (fun q hq => by cases hq) d_G_recordCount_4
set_option maxHeartbeats 4000000 in
set_option maxRecDepth 100000 in
theorem c_G_ticketCount (l : Launch) (dC : Nat → ClassId) (dI : Nat → Nat → Nat) (ad cd : Nat → Nat) (w wr fl : Nat → Int32) (pw sc : Int32) (lw rot vb : Nat → Int32) (rec tk : Int32) (live row : Nat → Int32) (cur ser dur wo : Int32) (bts : Nat → Int32) (us : Int32) (act : Nat → Int32) (rd rs : Int32)  : Met l y_G_ticketCount w_G_ticketCount ({ frames := 0, cells := 0, slots := 0, locals := 0 }) (xR (dC, dI) vwCl (xt cd) (xw ad cd w wr fl pw sc lw rot vb rec tk live row cur ser dur wo bts us act rd rs) [.ref (ad 3)]) (vp_Si (fun r => r = tk)) 0 0 (fun _ => False) := by
  refine Met.ofW (cc := b_G_ticketCount) (maxL := 1) (ret := (some (.int))) (by decide) rfl ?_
  intro P e s m args below meth c0 s₁ B hml hv
  obtain ⟨rfl, hP, hK⟩ := hv
  have hx := B.exec
  have hb := B.bytes
  have hr := B.returns
  have hts := atoms_spec (ws := w_G_ticketCount) B.pre
  have hown : s.vm.findClass R_G = some m.cls := findClass_of_methodNamed B.named
  have hlocks := B.notSynchronized
  have hl := lv_entry ([.ref (ad 3)]) (n := 1) (Nat.le_of_ble_eq_true rfl)
  rw [lg_entry_eq]
  generalize (lg_sl ([.ref (ad 3)]) ++ List.replicate (1 - (lg_sl ([.ref (ad 3)])).length) Slot.unset).toArray = ls at hl ⊢
  have hl : lv_has ls 1 [(0, .ref (ad 3))] := hl
  refine lv_aload_n hx hb d_G_ticketCount_0 rfl (lv_at hl 0 rfl) ?_
  refine va_get (D := (dC, dI)) (ci := 2) (v := .int tk) (C := R_G) (T := F_G) (N := 5) hx hb hts (fun w h => List.mem_cons_of_mem _ (in_G w h)) hown hK hP 3 rfl rfl 4 (by decide) (hts (.fieldLink R_G 25 R_G "tickets" "I") (List.mem_cons_of_mem _ t_88)) (fun _ h9 => h9) rfl d_G_ticketCount_1 ?_
  exact W.iret (v := tk) hx hb hr (fun t ht hW => ⟨tk, rfl, by first | rfl | trivial | omega, ht⟩) (fun q hq => by cases hq) d_G_ticketCount_4
set_option maxHeartbeats 4000000 in
set_option maxRecDepth 100000 in
theorem c_G_hasTicket (l : Launch) (dC : Nat → ClassId) (dI : Nat → Nat → Nat) (ad cd : Nat → Nat) (w wr fl : Nat → Int32) (pw sc : Int32) (lw rot vb : Nat → Int32) (rec tk : Int32) (live row : Nat → Int32) (cur ser dur wo : Int32) (bts : Nat → Int32) (us : Int32) (act : Nat → Int32) (rd rs : Int32) (n : Int32) : Met l y_G_hasTicket w_G_hasTicket ({ frames := 0, cells := 0, slots := 0, locals := 0 }) (xR (dC, dI) vwCl (xt cd) (xw ad cd w wr fl pw sc lw rot vb rec tk live row cur ser dur wo bts us act rd rs) [.ref (ad 3), .int n]) (vp_Si (fun r => (r = 1 ∧ (1 ≤ n ∧ n ≤ tk)) ∨ (r = 0 ∧ ¬ (1 ≤ n ∧ n ≤ tk)))) 0 0 (fun _ => False) := by
  refine Met.ofW (cc := b_G_hasTicket) (maxL := 2) (ret := (some (.boolean))) (by decide) rfl ?_
  intro P e s m args below meth c0 s₁ B hml hv
  obtain ⟨rfl, hP, hK⟩ := hv
  have hx := B.exec
  have hb := B.bytes
  have hr := B.returns
  have hts := atoms_spec (ws := w_G_hasTicket) B.pre
  have hown : s.vm.findClass R_G = some m.cls := findClass_of_methodNamed B.named
  have hlocks := B.notSynchronized
  have hl := lv_entry ([.ref (ad 3), .int n]) (n := 2) (Nat.le_of_ble_eq_true rfl)
  rw [lg_entry_eq]
  generalize (lg_sl ([.ref (ad 3), .int n]) ++ List.replicate (2 - (lg_sl ([.ref (ad 3), .int n])).length) Slot.unset).toArray = ls at hl ⊢
  have hl : lv_has ls 2 [(0, .ref (ad 3)), (1, .int n)] := hl
  refine lv_iload_n hx hb d_G_hasTicket_0 rfl (lv_at hl 1 rfl) ?_
  refine lv_iconst (v := 1) hx hb d_G_hasTicket_1 (by decide) ?_
  refine lv_icmp_lt (tgt := 17) hx hb d_G_hasTicket_2 (by decide) (fun c2 => ?_) (fun c2 => ?_)
  ·
    refine lv_iconst (v := 0) hx hb d_G_hasTicket_17 (by decide) ?_
    exact W.zret (v := 0) hx hb hr (by first | rfl | decide | assumption) (fun t ht hW => ⟨0, rfl, Or.inr ⟨rfl, fun z => by first | exact absurd z.1 (Int32.not_le.mpr c2) | exact absurd z.2 (Int32.not_le.mpr c10)⟩, ht⟩) (fun q hq => by cases hq) d_G_hasTicket_18
  ·
    refine lv_iload_n hx hb d_G_hasTicket_5 rfl (lv_at hl 1 rfl) ?_
    refine lv_aload_n hx hb d_G_hasTicket_6 rfl (lv_at hl 0 rfl) ?_
    refine va_get (D := (dC, dI)) (ci := 2) (v := .int tk) (C := R_G) (T := F_G) (N := 5) hx hb hts (fun w h => List.mem_cons_of_mem _ (in_G w h)) hown hK hP 3 rfl rfl 4 (by decide) (hts (.fieldLink R_G 25 R_G "tickets" "I") (List.mem_cons_of_mem _ t_88)) (fun _ h9 => h9) rfl d_G_hasTicket_7 ?_
    refine lv_icmp_gt (tgt := 17) hx hb d_G_hasTicket_10 (by decide) (fun c10 => ?_) (fun c10 => ?_)
    ·
      refine lv_iconst (v := 0) hx hb d_G_hasTicket_17 (by decide) ?_
      exact W.zret (v := 0) hx hb hr (by first | rfl | decide | assumption) (fun t ht hW => ⟨0, rfl, Or.inr ⟨rfl, fun z => by first | exact absurd z.1 (Int32.not_le.mpr c2) | exact absurd z.2 (Int32.not_le.mpr c10)⟩, ht⟩) (fun q hq => by cases hq) d_G_hasTicket_18
    ·
      refine lv_iconst (v := 1) hx hb d_G_hasTicket_13 (by decide) ?_
      refine lv_goto (tgt := 18) hx hb d_G_hasTicket_14 (by decide) ?_
      exact W.zret (v := 1) hx hb hr (by first | rfl | decide | assumption) (fun t ht hW => ⟨1, rfl, Or.inl ⟨rfl, Int32.not_lt.mp c2, Int32.not_lt.mp c10⟩, ht⟩) (fun q hq => by cases hq) d_G_hasTicket_18
set_option maxHeartbeats 4000000 in
set_option maxRecDepth 100000 in
theorem c_G_empty (l : Launch) (dC : Nat → ClassId) (dI : Nat → Nat → Nat) (ad cd : Nat → Nat) (sz : Nat) (w wr fl : Nat → Int32) (pw sc : Int32) (lw rot vb : Nat → Int32) (rec tk : Int32) (live row : Nat → Int32) (cur ser dur wo : Int32) (bts : Nat → Int32) (us : Int32) (act : Nat → Int32) (rd rs : Int32)  : Met l y_G_empty w_G_empty ({ frames := 0, cells := 0, slots := 0, locals := 0 }) (xP (dC, dI) vwCl (xt cd) (xw ad cd w wr fl pw sc lw rot vb rec tk live row cur ser dur wo bts us act rd rs) sz [.ref (ad 3)]) (va_Qv (fun (u : Unit) => True) (fun (u : Unit) (t : State) => xB (dC, dI) vwCl (xt cd) (xA 15 ad sz) (xw ad cd w wr fl pw sc lw rot vb (nI 0) (nI 0) live row cur ser dur wo bts us act rd rs) t) (xA 15 ad sz)) 0 0 (xA 15 ad sz) := by
  refine Met.ofW (cc := b_G_empty) (maxL := 1) (ret := none) (by decide) rfl ?_
  intro P e s m args below meth c0 s₁ B hml hv
  obtain ⟨rfl, hsz, hP, hK, hD0⟩ := hv
  have hx := B.exec
  have hb := B.bytes
  have hr := B.returns
  have hts := atoms_spec (ws := w_G_empty) B.pre
  have hown : s.vm.findClass R_G = some m.cls := findClass_of_methodNamed B.named
  have hlocks := B.notSynchronized
  subst hsz
  have hD := xw_D (sz := s.heap.size) hD0
  have hS : va_S (xA 15 ad s.heap.size) s.heap s.heap [] := va_S.rf
  have hA : ∀ q : Nat, s.heap.size ≤ q → (xA 15 ad s.heap.size) q := fun q h => Or.inr h
  have hl := lv_entry ([.ref (ad 3)]) (n := 1) (Nat.le_of_ble_eq_true rfl)
  rw [lg_entry_eq]
  generalize (lg_sl ([.ref (ad 3)]) ++ List.replicate (1 - (lg_sl ([.ref (ad 3)])).length) Slot.unset).toArray = ls at hl ⊢
  have hl : lv_has ls 1 [(0, .ref (ad 3))] := hl
  refine lv_aload_n hx hb d_G_empty_0 rfl (lv_at hl 0 rfl) ?_
  refine lv_iconst (v := nI 0) hx hb d_G_empty_1 (by decide) ?_
  refine va_put (D := (dC, dI)) (ci := 2) (v := .int (nI 0)) (ty := .int) (C := R_G) (T := F_G) (N := 5) hx hb hts (fun w h => List.mem_cons_of_mem _ (in_G w h)) t_G ok_G nm_G hown hK hP hD hS 3 rfl rfl 3 (by decide) (hts (.fieldLink R_G 21 R_G "records" "I") (List.mem_cons_of_mem _ t_87)) (fun _ h9 => h9) rfl (by decide +kernel) rfl rfl (Nat.le_of_ble_eq_true rfl) d_G_empty_2 (fun H locs hP hD hS => ?_)
  have hP : va_P (dC, dI) vwCl (xw ad cd w wr fl pw sc lw rot vb (nI 0) tk live row cur ser dur wo bts us act rd rs) H := hP
  have hD : va_D (xA 15 ad s.heap.size) (xw ad cd w wr fl pw sc lw rot vb (nI 0) tk live row cur ser dur wo bts us act rd rs) := hD
  refine lv_aload_n hx hb d_G_empty_5 rfl (lv_at hl 0 rfl) ?_
  refine lv_iconst (v := nI 0) hx hb d_G_empty_6 (by decide) ?_
  refine va_put (D := (dC, dI)) (ci := 2) (v := .int (nI 0)) (ty := .int) (C := R_G) (T := F_G) (N := 5) hx hb hts (fun w h => List.mem_cons_of_mem _ (in_G w h)) t_G ok_G nm_G hown hK hP hD hS 3 rfl rfl 4 (by decide) (hts (.fieldLink R_G 25 R_G "tickets" "I") (List.mem_cons_of_mem _ t_88)) (fun _ h9 => h9) rfl (by decide +kernel) rfl rfl (Nat.le_of_ble_eq_true rfl) d_G_empty_7 (fun H locs hP hD hS => ?_)
  have hP : va_P (dC, dI) vwCl (xw ad cd w wr fl pw sc lw rot vb (nI 0) (nI 0) live row cur ser dur wo bts us act rd rs) H := hP
  have hD : va_D (xA 15 ad s.heap.size) (xw ad cd w wr fl pw sc lw rot vb (nI 0) (nI 0) live row cur ser dur wo bts us act rd rs) := hD
  exact W.vret hx hb hr (fun t ht hW => ⟨⟨(), rfl, by first | rfl | trivial | omega, ⟨by rw [ht]; exact hP, va_K.moved hW.alike hK, hD⟩⟩, hS.F ht⟩) hS.2.2 d_G_empty_10
