set_option maxHeartbeats 4000000 in
set_option maxRecDepth 100000 in
theorem c_R_requireArgument_1 (l : Launch) (dC : Nat → ClassId) (dI : Nat → Nat → Nat)   : Met l y_R_requireArgument w_R_requireArgument ({ frames := 0, cells := 0, slots := 0, locals := 0 }) (xR (dC, dI) vwCl [] [] [.int (nI 1)]) (va_Sv (fun _ => True)) 0 0 (fun _ => False) := by
  refine Met.ofW (cc := b_R_requireArgument) (maxL := 1) (ret := none) (by decide) rfl ?_
  intro P e s m args below meth c0 s₁ B hml hv
  obtain ⟨rfl, hP, hK, hN⟩ := hv
  have hx := B.exec
  have hb := B.bytes
  have hr := B.returns
  have hts := atoms_spec (ws := w_R_requireArgument) B.pre
  have hown : s.vm.findClass R_R = some m.cls := findClass_of_methodNamed B.named
  have hlocks := B.notSynchronized
  have hl := lv_entry ([.int (nI 1)]) (n := 1) (Nat.le_of_ble_eq_true rfl)
  rw [lg_entry_eq]
  generalize (lg_sl ([.int (nI 1)]) ++ List.replicate (1 - (lg_sl ([.int (nI 1)])).length) Slot.unset).toArray = ls at hl ⊢
  have hl : lv_has ls 1 [(0, .int (nI 1))] := hl
  refine lv_iload_n hx hb d_R_requireArgument_0 rfl (lv_at hl 0 rfl) ?_
  refine lv_if_ne (tgt := 12) hx hb d_R_requireArgument_1 (by decide) (fun c1 => ?_) (fun c1 => ?_)
  ·
    exact W.vret hx hb hr (fun t ht hW => ⟨rfl, by first | rfl | trivial | omega, ht⟩) (fun q hq => by cases hq) d_R_requireArgument_12
  ·
    exact absurd c1 (by decide)
set_option maxHeartbeats 4000000 in
set_option maxRecDepth 100000 in
theorem c_R_requireState_1 (l : Launch) (dC : Nat → ClassId) (dI : Nat → Nat → Nat)   : Met l y_R_requireState w_R_requireState ({ frames := 0, cells := 0, slots := 0, locals := 0 }) (xR (dC, dI) vwCl [] [] [.int (nI 1)]) (va_Sv (fun _ => True)) 0 0 (fun _ => False) := by
  refine Met.ofW (cc := b_R_requireState) (maxL := 1) (ret := none) (by decide) rfl ?_
  intro P e s m args below meth c0 s₁ B hml hv
  obtain ⟨rfl, hP, hK, hN⟩ := hv
  have hx := B.exec
  have hb := B.bytes
  have hr := B.returns
  have hts := atoms_spec (ws := w_R_requireState) B.pre
  have hown : s.vm.findClass R_R = some m.cls := findClass_of_methodNamed B.named
  have hlocks := B.notSynchronized
  have hl := lv_entry ([.int (nI 1)]) (n := 1) (Nat.le_of_ble_eq_true rfl)
  rw [lg_entry_eq]
  generalize (lg_sl ([.int (nI 1)]) ++ List.replicate (1 - (lg_sl ([.int (nI 1)])).length) Slot.unset).toArray = ls at hl ⊢
  have hl : lv_has ls 1 [(0, .int (nI 1))] := hl
  refine lv_iload_n hx hb d_R_requireState_0 rfl (lv_at hl 0 rfl) ?_
  refine lv_if_ne (tgt := 12) hx hb d_R_requireState_1 (by decide) (fun c1 => ?_) (fun c1 => ?_)
  ·
    exact W.vret hx hb hr (fun t ht hW => ⟨rfl, by first | rfl | trivial | omega, ht⟩) (fun q hq => by cases hq) d_R_requireState_12
  ·
    exact absurd c1 (by decide)
set_option maxHeartbeats 4000000 in
set_option maxRecDepth 100000 in
theorem c_R_requireIndex_1 (l : Launch) (dC : Nat → ClassId) (dI : Nat → Nat → Nat)   : Met l y_R_requireIndex w_R_requireIndex ({ frames := 0, cells := 0, slots := 0, locals := 0 }) (xR (dC, dI) vwCl [] [] [.int (nI 1)]) (va_Sv (fun _ => True)) 0 0 (fun _ => False) := by
  refine Met.ofW (cc := b_R_requireIndex) (maxL := 1) (ret := none) (by decide) rfl ?_
  intro P e s m args below meth c0 s₁ B hml hv
  obtain ⟨rfl, hP, hK, hN⟩ := hv
  have hx := B.exec
  have hb := B.bytes
  have hr := B.returns
  have hts := atoms_spec (ws := w_R_requireIndex) B.pre
  have hown : s.vm.findClass R_R = some m.cls := findClass_of_methodNamed B.named
  have hlocks := B.notSynchronized
  have hl := lv_entry ([.int (nI 1)]) (n := 1) (Nat.le_of_ble_eq_true rfl)
  rw [lg_entry_eq]
  generalize (lg_sl ([.int (nI 1)]) ++ List.replicate (1 - (lg_sl ([.int (nI 1)])).length) Slot.unset).toArray = ls at hl ⊢
  have hl : lv_has ls 1 [(0, .int (nI 1))] := hl
  refine lv_iload_n hx hb d_R_requireIndex_0 rfl (lv_at hl 0 rfl) ?_
  refine lv_if_ne (tgt := 12) hx hb d_R_requireIndex_1 (by decide) (fun c1 => ?_) (fun c1 => ?_)
  ·
    exact W.vret hx hb hr (fun t ht hW => ⟨rfl, by first | rfl | trivial | omega, ht⟩) (fun q hq => by cases hq) d_R_requireIndex_12
  ·
    exact absurd c1 (by decide)
set_option maxRecDepth 100000 in
theorem zA_A : ((Bundle.ownAtoms0 R_R 212 E_A e_up).filter goodWord).all (fun w => decide (w ∈ lw_tbl)) = true := by decide +kernel
set_option maxRecDepth 100000 in
theorem zB_A : ((Bundle.ownAtoms0 R_R 212 E_A e_up).filter (fun w => !goodWord w)).all (fun w => decide (w ∈ zrest E_A)) = true := by decide +kernel
set_option maxHeartbeats 4000000 in
set_option maxRecDepth 100000 in
theorem th_R_requireArgument (l : Launch) (hl9 : l.stackTraces = false) (az : Nat) : Thr l y_R_requireArgument w_R_requireArgument ({ frames := 6, cells := 1, slots := 6, locals := 100 }) (tP az [.int (nI 0)]) E_A := by
  refine Thr.ofW (cc := b_R_requireArgument) (maxL := 1) (ret := none) (by decide) rfl ?_
  intro P e s m args below meth c0 s₁ B hml hnt hv
  obtain ⟨rfl, hz, hn⟩ := hv
  have hx := B.exec
  have hb := B.bytes
  have hr := B.returns
  have hts := atoms_spec (ws := w_R_requireArgument) B.pre
  have hown : s.vm.findClass R_R = some m.cls := findClass_of_methodNamed B.named
  have hlocks := B.notSynchronized
  have hl := lv_entry ([.int (nI 0)]) (n := 1) (Nat.le_of_ble_eq_true rfl)
  rw [lg_entry_eq]
  generalize (lg_sl ([.int (nI 0)]) ++ List.replicate (1 - (lg_sl ([.int (nI 0)])).length) Slot.unset).toArray = ls at hl ⊢
  have hl : lv_has ls 1 [(0, .int (nI 0))] := hl
  refine lv_iload_n hx hb d_R_requireArgument_0 rfl (lv_at hl 0 rfl) ?_
  refine lv_if_ne (tgt := 12) hx hb d_R_requireArgument_1 (by decide) (fun c1 => absurd rfl c1) (fun c1 => ?_)
  exact th_new hx hb hl9 hown (by decide +kernel) (by decide +kernel) (hts _ (List.mem_cons_of_mem _ t_275)) (hts _ (List.mem_cons_of_mem _ t_10)) (own_all zA_A zB_A hts hz hn.1.1 hn.2) (hl.1.trans hml.symm) d_R_requireArgument_4 d_R_requireArgument_7 d_R_requireArgument_8 d_R_requireArgument_11 hnt (by decide) (by decide) (by decide) (by decide) hlocks
set_option maxRecDepth 100000 in
theorem zA_S : ((Bundle.ownAtoms0 R_R 215 E_S e_up).filter goodWord).all (fun w => decide (w ∈ lw_tbl)) = true := by decide +kernel
set_option maxRecDepth 100000 in
theorem zB_S : ((Bundle.ownAtoms0 R_R 215 E_S e_up).filter (fun w => !goodWord w)).all (fun w => decide (w ∈ zrest E_S)) = true := by decide +kernel
set_option maxHeartbeats 4000000 in
set_option maxRecDepth 100000 in
theorem th_R_requireState (l : Launch) (hl9 : l.stackTraces = false) (az : Nat) : Thr l y_R_requireState w_R_requireState ({ frames := 6, cells := 1, slots := 6, locals := 100 }) (tP az [.int (nI 0)]) E_S := by
  refine Thr.ofW (cc := b_R_requireState) (maxL := 1) (ret := none) (by decide) rfl ?_
  intro P e s m args below meth c0 s₁ B hml hnt hv
  obtain ⟨rfl, hz, hn⟩ := hv
  have hx := B.exec
  have hb := B.bytes
  have hr := B.returns
  have hts := atoms_spec (ws := w_R_requireState) B.pre
  have hown : s.vm.findClass R_R = some m.cls := findClass_of_methodNamed B.named
  have hlocks := B.notSynchronized
  have hl := lv_entry ([.int (nI 0)]) (n := 1) (Nat.le_of_ble_eq_true rfl)
  rw [lg_entry_eq]
  generalize (lg_sl ([.int (nI 0)]) ++ List.replicate (1 - (lg_sl ([.int (nI 0)])).length) Slot.unset).toArray = ls at hl ⊢
  have hl : lv_has ls 1 [(0, .int (nI 0))] := hl
  refine lv_iload_n hx hb d_R_requireState_0 rfl (lv_at hl 0 rfl) ?_
  refine lv_if_ne (tgt := 12) hx hb d_R_requireState_1 (by decide) (fun c1 => absurd rfl c1) (fun c1 => ?_)
  exact th_new hx hb hl9 hown (by decide +kernel) (by decide +kernel) (hts _ (List.mem_cons_of_mem _ t_341)) (hts _ (List.mem_cons_of_mem _ t_11)) (own_all zA_S zB_S hts hz hn.1.2.1 hn.2) (hl.1.trans hml.symm) d_R_requireState_4 d_R_requireState_7 d_R_requireState_8 d_R_requireState_11 hnt (by decide) (by decide) (by decide) (by decide) hlocks
set_option maxRecDepth 100000 in
theorem zA_I : ((Bundle.ownAtoms0 R_R 218 E_I e_up).filter goodWord).all (fun w => decide (w ∈ lw_tbl)) = true := by decide +kernel
set_option maxRecDepth 100000 in
theorem zB_I : ((Bundle.ownAtoms0 R_R 218 E_I e_up).filter (fun w => !goodWord w)).all (fun w => decide (w ∈ zrest E_I)) = true := by decide +kernel
set_option maxHeartbeats 4000000 in
set_option maxRecDepth 100000 in
theorem th_R_requireIndex (l : Launch) (hl9 : l.stackTraces = false) (az : Nat) : Thr l y_R_requireIndex w_R_requireIndex ({ frames := 6, cells := 1, slots := 6, locals := 100 }) (tP az [.int (nI 0)]) E_I := by
  refine Thr.ofW (cc := b_R_requireIndex) (maxL := 1) (ret := none) (by decide) rfl ?_
  intro P e s m args below meth c0 s₁ B hml hnt hv
  obtain ⟨rfl, hz, hn⟩ := hv
  have hx := B.exec
  have hb := B.bytes
  have hr := B.returns
  have hts := atoms_spec (ws := w_R_requireIndex) B.pre
  have hown : s.vm.findClass R_R = some m.cls := findClass_of_methodNamed B.named
  have hlocks := B.notSynchronized
  have hl := lv_entry ([.int (nI 0)]) (n := 1) (Nat.le_of_ble_eq_true rfl)
  rw [lg_entry_eq]
  generalize (lg_sl ([.int (nI 0)]) ++ List.replicate (1 - (lg_sl ([.int (nI 0)])).length) Slot.unset).toArray = ls at hl ⊢
  have hl : lv_has ls 1 [(0, .int (nI 0))] := hl
  refine lv_iload_n hx hb d_R_requireIndex_0 rfl (lv_at hl 0 rfl) ?_
  refine lv_if_ne (tgt := 12) hx hb d_R_requireIndex_1 (by decide) (fun c1 => absurd rfl c1) (fun c1 => ?_)
  exact th_new hx hb hl9 hown (by decide +kernel) (by decide +kernel) (hts _ (List.mem_cons_of_mem _ t_494)) (hts _ (List.mem_cons_of_mem _ t_12)) (own_all zA_I zB_I hts hz hn.1.2.2 hn.2) (hl.1.trans hml.symm) d_R_requireIndex_4 d_R_requireIndex_7 d_R_requireIndex_8 d_R_requireIndex_11 hnt (by decide) (by decide) (by decide) (by decide) hlocks
