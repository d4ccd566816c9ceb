set_option maxHeartbeats 4000000 in
set_option maxRecDepth 100000 in
theorem c_M_thrown (l : Launch) (dC : Nat → ClassId) (dI : Nat → Nat → Nat) (am cm : Nat → Nat) (th : Int32) (mw mwr mfl mact : Nat → Int32) (on cut mrec : Int32) (mlog mlive had : Nat → Int32) (mser mcur mrd mwt worn : Int32) (pg : Nat → Int32) (pla sou fou : Int32)  : Met l y_M_thrown w_M_thrown ({ frames := 0, cells := 0, slots := 0, locals := 0 }) (xR (dC, dI) vwCl (mt cm) (mw_ am cm th mw mwr mfl mact on cut mrec mlog mlive had mser mcur mrd mwt worn pg pla sou fou) [.ref (am 0)]) (vp_Si (fun r => r = th)) 0 0 (fun _ => False) := by
  refine Met.ofW (cc := b_M_thrown) (maxL := 1) (ret := (some (.int))) (by decide) rfl ?_
  intro P e s m args below meth c0 s₁ B hml hv
  obtain ⟨rfl, hP, hK, hN⟩ := hv
  have hx := B.exec
  have hb := B.bytes
  have hr := B.returns
  have hts := atoms_spec (ws := w_M_thrown) B.pre
  have hown : s.vm.findClass R_M = some m.cls := findClass_of_methodNamed B.named
  have hlocks := B.notSynchronized
  have hl := lv_entry ([.ref (am 0)]) (n := 1) (Nat.le_of_ble_eq_true rfl)
  rw [lg_entry_eq]
  generalize (lg_sl ([.ref (am 0)]) ++ List.replicate (1 - (lg_sl ([.ref (am 0)])).length) Slot.unset).toArray = ls at hl ⊢
  have hl : lv_has ls 1 [(0, .ref (am 0))] := hl
  refine lv_aload_n hx hb d_M_thrown_0 rfl (lv_at hl 0 rfl) ?_
  refine va_get (D := (dC, dI)) (ci := 5) (v := .int th) (C := R_M) (T := F_M) (N := 20) hx hb hts (fun w h => List.mem_cons_of_mem _ (in_M w h)) hown hK hP 0 rfl rfl 0 (by decide) (hts (.fieldLink R_M 49 R_M "thrown" "I") (List.mem_cons_of_mem _ t_712)) (fun _ h9 => h9) rfl d_M_thrown_1 ?_
  exact W.iret (v := th) hx hb hr (fun t ht hW => ⟨th, rfl, by first | rfl | trivial | omega, ht⟩) (fun q hq => by cases hq) d_M_thrown_4
set_option maxHeartbeats 4000000 in
set_option maxRecDepth 100000 in
theorem c_M_fails_0 (l : Launch) (dC : Nat → ClassId) (dI : Nat → Nat → Nat) (am cm : Nat → Nat) (sz : Nat) (th : Int32) (mw mwr mfl mact : Nat → Int32) (on cut mrec : Int32) (mlog mlive had : Nat → Int32) (mser mcur mrd mwt worn : Int32) (pg : Nat → Int32) (pla sou fou : Int32) (cod : Int32) : Met l y_M_fails w_M_fails ({ frames := 0, cells := 0, slots := 0, locals := 0 }) (xP (dC, dI) vwCl (mt cm) (mw_ am cm th mw mwr mfl mact on cut mrec mlog mlive had mser mcur mrd mwt worn pg pla sou fou) sz [.ref (am 0), .int cod, .int (nI 0)]) (va_Qi (fun r (u : Unit) => r = nI 0) (fun (u : Unit) (t : State) => xB (dC, dI) vwCl (mt cm) (xA 9 am sz) (mw_ am cm (nI 0) mw mwr mfl mact on cut mrec mlog mlive had mser mcur mrd mwt worn pg pla sou fou) t) (xA 9 am sz)) 0 0 (xA 9 am sz) := by
  refine Met.ofW (cc := b_M_fails) (maxL := 3) (ret := (some (.boolean))) (by decide) rfl ?_
  intro P e s m args below meth c0 s₁ B hml hv
  obtain ⟨rfl, hsz, hP, hK, hD0, hN⟩ := hv
  have hx := B.exec
  have hb := B.bytes
  have hr := B.returns
  have hts := atoms_spec (ws := w_M_fails) B.pre
  have hown : s.vm.findClass R_M = some m.cls := findClass_of_methodNamed B.named
  have hlocks := B.notSynchronized
  subst hsz
  have hD := mw_D (sz := s.heap.size) hD0
  have hS : va_S (xA 9 am s.heap.size) s.heap s.heap [] := va_S.rf
  have hA : ∀ q : Nat, s.heap.size ≤ q → (xA 9 am s.heap.size) q := fun q h => Or.inr h
  have hl := lv_entry ([.ref (am 0), .int cod, .int (nI 0)]) (n := 3) (Nat.le_of_ble_eq_true rfl)
  rw [lg_entry_eq]
  generalize (lg_sl ([.ref (am 0), .int cod, .int (nI 0)]) ++ List.replicate (3 - (lg_sl ([.ref (am 0), .int cod, .int (nI 0)])).length) Slot.unset).toArray = ls at hl ⊢
  have hl : lv_has ls 3 [(0, .ref (am 0)), (1, .int cod), (2, .int (nI 0))] := hl
  refine lv_aload_n hx hb d_M_fails_0 rfl (lv_at hl 0 rfl) ?_
  refine lv_iload_n hx hb d_M_fails_1 rfl (lv_at hl 2 rfl) ?_
  refine lv_if_eq (tgt := 9) hx hb d_M_fails_2 (by decide) (fun c2 => ?_) (fun c2 => ?_)
  ·
    refine lv_iconst (v := nI 0) hx hb d_M_fails_9 (by decide) ?_
    refine va_put (D := (dC, dI)) (ci := 5) (v := .int (nI 0)) (ty := .int) (C := R_M) (T := F_M) (N := 20) hx hb hts (fun w h => List.mem_cons_of_mem _ (in_M w h)) t_M ok_M nm_M hown hK hP hD hS 0 rfl rfl 0 (by decide) (hts (.fieldLink R_M 49 R_M "thrown" "I") (List.mem_cons_of_mem _ t_712)) (fun _ h9 => h9) rfl (by decide +kernel) rfl rfl (Nat.le_of_ble_eq_true rfl) d_M_fails_10 (fun H locs hP hD hS => ?_)
    have hP : va_P (dC, dI) vwCl (mw_ am cm (nI 0) mw mwr mfl mact on cut mrec mlog mlive had mser mcur mrd mwt worn pg pla sou fou) H := hP
    have hD : va_D (xA 9 am s.heap.size) (mw_ am cm (nI 0) mw mwr mfl mact on cut mrec mlog mlive had mser mcur mrd mwt worn pg pla sou fou) := hD
    refine lv_iload_n hx hb d_M_fails_13 rfl (lv_at hl 2 rfl) ?_
    exact W.zret (v := nI 0) hx hb hr (by first | rfl | decide | assumption) (fun t ht hW => ⟨⟨nI 0, (), rfl, by first | rfl | trivial | omega, ⟨by rw [ht]; exact hP, va_K.moved hW.alike hK, hD⟩⟩, hS.F ht⟩) hS.2.2 d_M_fails_14
  ·
    exact absurd c2 (by decide)
set_option maxHeartbeats 4000000 in
set_option maxRecDepth 100000 in
theorem c_M_fails_1 (l : Launch) (dC : Nat → ClassId) (dI : Nat → Nat → Nat) (am cm : Nat → Nat) (sz : Nat) (th : Int32) (mw mwr mfl mact : Nat → Int32) (on cut mrec : Int32) (mlog mlive had : Nat → Int32) (mser mcur mrd mwt worn : Int32) (pg : Nat → Int32) (pla sou fou : Int32) (cod : Int32) : Met l y_M_fails w_M_fails ({ frames := 0, cells := 0, slots := 0, locals := 0 }) (xP (dC, dI) vwCl (mt cm) (mw_ am cm th mw mwr mfl mact on cut mrec mlog mlive had mser mcur mrd mwt worn pg pla sou fou) sz [.ref (am 0), .int cod, .int (nI 1)]) (va_Qi (fun r (u : Unit) => r = nI 1) (fun (u : Unit) (t : State) => xB (dC, dI) vwCl (mt cm) (xA 9 am sz) (mw_ am cm cod mw mwr mfl mact on cut mrec mlog mlive had mser mcur mrd mwt worn pg pla sou fou) t) (xA 9 am sz)) 0 0 (xA 9 am sz) := by
  refine Met.ofW (cc := b_M_fails) (maxL := 3) (ret := (some (.boolean))) (by decide) rfl ?_
  intro P e s m args below meth c0 s₁ B hml hv
  obtain ⟨rfl, hsz, hP, hK, hD0, hN⟩ := hv
  have hx := B.exec
  have hb := B.bytes
  have hr := B.returns
  have hts := atoms_spec (ws := w_M_fails) B.pre
  have hown : s.vm.findClass R_M = some m.cls := findClass_of_methodNamed B.named
  have hlocks := B.notSynchronized
  subst hsz
  have hD := mw_D (sz := s.heap.size) hD0
  have hS : va_S (xA 9 am s.heap.size) s.heap s.heap [] := va_S.rf
  have hA : ∀ q : Nat, s.heap.size ≤ q → (xA 9 am s.heap.size) q := fun q h => Or.inr h
  have hl := lv_entry ([.ref (am 0), .int cod, .int (nI 1)]) (n := 3) (Nat.le_of_ble_eq_true rfl)
  rw [lg_entry_eq]
  generalize (lg_sl ([.ref (am 0), .int cod, .int (nI 1)]) ++ List.replicate (3 - (lg_sl ([.ref (am 0), .int cod, .int (nI 1)])).length) Slot.unset).toArray = ls at hl ⊢
  have hl : lv_has ls 3 [(0, .ref (am 0)), (1, .int cod), (2, .int (nI 1))] := hl
  refine lv_aload_n hx hb d_M_fails_0 rfl (lv_at hl 0 rfl) ?_
  refine lv_iload_n hx hb d_M_fails_1 rfl (lv_at hl 2 rfl) ?_
  refine lv_if_eq (tgt := 9) hx hb d_M_fails_2 (by decide) (fun c2 => ?_) (fun c2 => ?_)
  ·
    exact absurd c2 (by decide)
  ·
    refine lv_iload_n hx hb d_M_fails_5 rfl (lv_at hl 1 rfl) ?_
    refine lv_goto (tgt := 10) hx hb d_M_fails_6 (by decide) ?_
    refine va_put (D := (dC, dI)) (ci := 5) (v := .int cod) (ty := .int) (C := R_M) (T := F_M) (N := 20) hx hb hts (fun w h => List.mem_cons_of_mem _ (in_M w h)) t_M ok_M nm_M hown hK hP hD hS 0 rfl rfl 0 (by decide) (hts (.fieldLink R_M 49 R_M "thrown" "I") (List.mem_cons_of_mem _ t_712)) (fun _ h9 => h9) rfl (by decide +kernel) rfl rfl (Nat.le_of_ble_eq_true rfl) d_M_fails_10 (fun H locs hP hD hS => ?_)
    have hP : va_P (dC, dI) vwCl (mw_ am cm cod mw mwr mfl mact on cut mrec mlog mlive had mser mcur mrd mwt worn pg pla sou fou) H := hP
    have hD : va_D (xA 9 am s.heap.size) (mw_ am cm cod mw mwr mfl mact on cut mrec mlog mlive had mser mcur mrd mwt worn pg pla sou fou) := hD
    refine lv_iload_n hx hb d_M_fails_13 rfl (lv_at hl 2 rfl) ?_
    exact W.zret (v := nI 1) hx hb hr (by first | rfl | decide | assumption) (fun t ht hW => ⟨⟨nI 1, (), rfl, by first | rfl | trivial | omega, ⟨by rw [ht]; exact hP, va_K.moved hW.alike hK, hD⟩⟩, hS.F ht⟩) hS.2.2 d_M_fails_14
set_option maxHeartbeats 4000000 in
set_option maxRecDepth 100000 in
theorem c_M_isIn (l : Launch) (dC : Nat → ClassId) (dI : Nat → Nat → Nat)  (v lo hi : Int32) : Met l y_M_isIn w_M_isIn ({ frames := 0, cells := 0, slots := 0, locals := 0 }) (xR (dC, dI) vwCl [] [] [.int v, .int lo, .int hi]) (vp_Si (fun r => (r = nI 1 ∧ (lo ≤ v ∧ v ≤ hi)) ∨ (r = nI 0 ∧ ¬ (lo ≤ v ∧ v ≤ hi)))) 0 0 (fun _ => False) := by
  refine Met.ofW (cc := b_M_isIn) (maxL := 3) (ret := (some (.boolean))) (by decide) rfl ?_
  intro P e s m args below meth c0 s₁ B hml hv
  obtain ⟨rfl, hP, hK, hN⟩ := hv
  have hx := B.exec
  have hb := B.bytes
  have hr := B.returns
  have hts := atoms_spec (ws := w_M_isIn) B.pre
  have hown : s.vm.findClass R_M = some m.cls := findClass_of_methodNamed B.named
  have hlocks := B.notSynchronized
  have hl := lv_entry ([.int v, .int lo, .int hi]) (n := 3) (Nat.le_of_ble_eq_true rfl)
  rw [lg_entry_eq]
  generalize (lg_sl ([.int v, .int lo, .int hi]) ++ List.replicate (3 - (lg_sl ([.int v, .int lo, .int hi])).length) Slot.unset).toArray = ls at hl ⊢
  have hl : lv_has ls 3 [(0, .int v), (1, .int lo), (2, .int hi)] := hl
  refine lv_iload_n hx hb d_M_isIn_0 rfl (lv_at hl 0 rfl) ?_
  refine lv_iload_n hx hb d_M_isIn_1 rfl (lv_at hl 1 rfl) ?_
  refine lv_icmp_lt (tgt := 14) hx hb d_M_isIn_2 (by decide) (fun c2 => ?_) (fun c2 => ?_)
  ·
    refine lv_iconst (v := nI 0) hx hb d_M_isIn_14 (by decide) ?_
    exact W.zret (v := nI 0) hx hb hr (by first | rfl | decide | assumption) (fun t ht hW => ⟨nI 0, rfl, Or.inr ⟨rfl, fun z => by first | exact absurd z.1 (Int32.not_le.mpr c2) | exact absurd z.2 (Int32.not_le.mpr c7)⟩, ht⟩) (fun q hq => by cases hq) d_M_isIn_15
  ·
    refine lv_iload_n hx hb d_M_isIn_5 rfl (lv_at hl 0 rfl) ?_
    refine lv_iload_n hx hb d_M_isIn_6 rfl (lv_at hl 2 rfl) ?_
    refine lv_icmp_gt (tgt := 14) hx hb d_M_isIn_7 (by decide) (fun c7 => ?_) (fun c7 => ?_)
    ·
      refine lv_iconst (v := nI 0) hx hb d_M_isIn_14 (by decide) ?_
      exact W.zret (v := nI 0) hx hb hr (by first | rfl | decide | assumption) (fun t ht hW => ⟨nI 0, rfl, Or.inr ⟨rfl, fun z => by first | exact absurd z.1 (Int32.not_le.mpr c2) | exact absurd z.2 (Int32.not_le.mpr c7)⟩, ht⟩) (fun q hq => by cases hq) d_M_isIn_15
    ·
      refine lv_iconst (v := nI 1) hx hb d_M_isIn_10 (by decide) ?_
      refine lv_goto (tgt := 15) hx hb d_M_isIn_11 (by decide) ?_
      exact W.zret (v := nI 1) hx hb hr (by first | rfl | decide | assumption) (fun t ht hW => ⟨nI 1, rfl, Or.inl ⟨rfl, Int32.not_lt.mp c2, Int32.not_lt.mp c7⟩, ht⟩) (fun q hq => by cases hq) d_M_isIn_15
set_option maxHeartbeats 4000000 in
set_option maxRecDepth 100000 in
theorem c_M_forget (l : Launch) (dC : Nat → ClassId) (dI : Nat → Nat → Nat) (am cm : Nat → Nat) (sz : Nat) (th : Int32) (mw mwr mfl mact : Nat → Int32) (on cut mrec : Int32) (mlog mlive had : Nat → Int32) (mser mcur mrd mwt worn : Int32) (pg : Nat → Int32) (pla sou fou : Int32)  : Met l y_M_forget w_M_forget ({ frames := 0, cells := 0, slots := 0, locals := 0 }) (xP (dC, dI) vwCl (mt cm) (mw_ am cm th mw mwr mfl mact on cut mrec mlog mlive had mser mcur mrd mwt worn pg pla sou fou) sz [.ref (am 0)]) (va_Qv (fun (u : (Nat → Nat → Int32) × (Nat → Int32) × (Nat → Nat)) => (u.2.2 0) = 0 ∧ (∀ i, i < 16 → (u.1 0) i = -1) ∧ (u.2.1 1) = -1) (fun (u : (Nat → Nat → Int32) × (Nat → Int32) × (Nat → Nat)) (t : State) => xB (dC, dI) vwCl (mt cm) (xA 9 am sz) (mw_ am cm th mw mwr mfl mact on (u.2.1 5) (nI (u.2.2 0)) mlog (u.1 0) had (u.2.1 0) (u.2.1 1) (u.2.1 2) (u.2.1 3) (u.2.1 4) pg pla sou fou) t) (xA 9 am sz)) 0 0 (xA 9 am sz) := by
  refine Met.ofW (cc := b_M_forget) (maxL := 2) (ret := none) (by decide) rfl ?_
  intro P e s m args below meth c0 s₁ B hml hv
  obtain ⟨rfl, hsz, hP, hK, hD0, hN⟩ := hv
  have hx := B.exec
  have hb := B.bytes
  have hr := B.returns
  have hts := atoms_spec (ws := w_M_forget) B.pre
  have hown : s.vm.findClass R_M = some m.cls := findClass_of_methodNamed B.named
  have hlocks := B.notSynchronized
  subst hsz
  have hD := mw_D (sz := s.heap.size) hD0
  have hS : va_S (xA 9 am s.heap.size) s.heap s.heap [] := va_S.rf
  have hA : ∀ q : Nat, s.heap.size ≤ q → (xA 9 am s.heap.size) q := fun q h => Or.inr h
  have hl := lv_entry ([.ref (am 0)]) (n := 2) (Nat.le_of_ble_eq_true rfl)
  rw [lg_entry_eq]
  generalize (lg_sl ([.ref (am 0)]) ++ List.replicate (2 - (lg_sl ([.ref (am 0)])).length) Slot.unset).toArray = ls at hl ⊢
  have hl : lv_has ls 2 [(0, .ref (am 0))] := hl
  refine lv_aload_n hx hb d_M_forget_0 rfl (lv_at hl 0 rfl) ?_
  refine lv_iconst (v := nI 0) hx hb d_M_forget_1 (by decide) ?_
  refine va_put (D := (dC, dI)) (ci := 5) (v := .int (nI 0)) (ty := .int) (C := R_M) (T := F_M) (N := 20) hx hb hts (fun w h => List.mem_cons_of_mem _ (in_M w h)) t_M ok_M nm_M hown hK hP hD hS 0 rfl rfl 7 (by decide) (hts (.fieldLink R_M 52 R_M "records" "I") (List.mem_cons_of_mem _ t_719)) (fun _ h9 => h9) rfl (by decide +kernel) rfl rfl (Nat.le_of_ble_eq_true rfl) d_M_forget_2 (fun H locs hP hD hS => ?_)
  have hP : va_P (dC, dI) vwCl (mw_ am cm th mw mwr mfl mact on cut (nI 0) mlog mlive had mser mcur mrd mwt worn pg pla sou fou) H := hP
  have hD : va_D (xA 9 am s.heap.size) (mw_ am cm th mw mwr mfl mact on cut (nI 0) mlog mlive had mser mcur mrd mwt worn pg pla sou fou) := hD
  refine lv_iconst (v := nI 0) hx hb d_M_forget_5 (by decide) ?_
  refine lv_istore_n hx hb d_M_forget_6 rfl hl (by decide) rfl (fun ls hl => ?_)
  have hl : lv_has ls 2 [(1, .int (nI 0)), (0, .ref (am 0))] := hl
  have lp7 : ∀ (n : Nat) (k : Nat) (lv : Nat → Int32) (H : Heap) (locs : List Loc) (ls : Array Slot), (16 - k) < n → (k ≤ 16) → (∀ i, i < k → lv i = -1) → lv_has ls 2 [(0, .ref (am 0)), (1, .int (nI k))] → va_P (dC, dI) vwCl (mw_ am cm th mw mwr mfl mact on cut (nI 0) mlog lv had mser mcur mrd mwt worn pg pla sou fou) H → va_D (xA 9 am s.heap.size) (mw_ am cm th mw mwr mfl mact on cut (nI 0) mlog lv had mser mcur mrd mwt worn pg pla sou fou) → va_S (xA 9 am s.heap.size) s.heap H locs → W P l e (headSpec w_M_forget ({ frames := 0, cells := 0, slots := 0, locals := 0 })).room s m (([.ref (am 0)] : List Value).toArray) below meth c0 H locs 0 0 (MQ below (va_Qv (fun (u : (Nat → Nat → Int32) × (Nat → Int32) × (Nat → Nat)) => (u.2.2 0) = 0 ∧ (∀ i, i < 16 → (u.1 0) i = -1) ∧ (u.2.1 1) = -1) (fun (u : (Nat → Nat → Int32) × (Nat → Int32) × (Nat → Nat)) (t : State) => xB (dC, dI) vwCl (mt cm) (xA 9 am s.heap.size) (mw_ am cm th mw mwr mfl mact on (u.2.1 5) (nI (u.2.2 0)) mlog (u.1 0) had (u.2.1 0) (u.2.1 1) (u.2.1 2) (u.2.1 3) (u.2.1 4) pg pla sou fou) t) (xA 9 am s.heap.size)) (([.ref (am 0)] : List Value).toArray) s 0 0 (xA 9 am s.heap.size)) (F0 m 7 ls []) := by
    intro n
    induction n with
    | zero => intro k lv H locs ls hm; intros; omega
    | succ n ih7 =>
      intro k lv H locs ls hm hk hf hl hP hD hS
      refine lv_iload_n hx hb d_M_forget_7 rfl (lv_at hl 1 rfl) ?_
      refine lv_bipush (v := nI 16) hx hb d_M_forget_8 (by decide) ?_
      refine lv_icmp_ge (tgt := 26) hx hb d_M_forget_10 (by decide) (fun c10 => ?_) (fun c10 => ?_)
      ·
        have c10 := cd_ge_t (by omega) (by omega) c10
        refine lv_aload_n hx hb d_M_forget_26 rfl (lv_at hl 0 rfl) ?_
        refine lv_iconst (v := nI 0) hx hb d_M_forget_27 (by decide) ?_
        refine va_put (D := (dC, dI)) (ci := 5) (v := .int (nI 0)) (ty := .int) (C := R_M) (T := F_M) (N := 20) hx hb hts (fun w h => List.mem_cons_of_mem _ (in_M w h)) t_M ok_M nm_M hown hK hP hD hS 0 rfl rfl 11 (by decide) (hts (.fieldLink R_M 55 R_M "serial" "I") (List.mem_cons_of_mem _ t_723)) (fun _ h9 => h9) rfl (by decide +kernel) rfl rfl (Nat.le_of_ble_eq_true rfl) d_M_forget_28 (fun H locs hP hD hS => ?_)
        have hP : va_P (dC, dI) vwCl (mw_ am cm th mw mwr mfl mact on cut (nI 0) mlog lv had (nI 0) mcur mrd mwt worn pg pla sou fou) H := hP
        have hD : va_D (xA 9 am s.heap.size) (mw_ am cm th mw mwr mfl mact on cut (nI 0) mlog lv had (nI 0) mcur mrd mwt worn pg pla sou fou) := hD
        refine lv_aload_n hx hb d_M_forget_31 rfl (lv_at hl 0 rfl) ?_
        refine lv_iconst (v := (-1)) hx hb d_M_forget_32 (by decide) ?_
        refine va_put (D := (dC, dI)) (ci := 5) (v := .int (-1)) (ty := .int) (C := R_M) (T := F_M) (N := 20) hx hb hts (fun w h => List.mem_cons_of_mem _ (in_M w h)) t_M ok_M nm_M hown hK hP hD hS 0 rfl rfl 12 (by decide) (hts (.fieldLink R_M 40 R_M "cursor" "I") (List.mem_cons_of_mem _ t_724)) (fun _ h9 => h9) rfl (by decide +kernel) rfl rfl (Nat.le_of_ble_eq_true rfl) d_M_forget_33 (fun H locs hP hD hS => ?_)
        have hP : va_P (dC, dI) vwCl (mw_ am cm th mw mwr mfl mact on cut (nI 0) mlog lv had (nI 0) (-1) mrd mwt worn pg pla sou fou) H := hP
        have hD : va_D (xA 9 am s.heap.size) (mw_ am cm th mw mwr mfl mact on cut (nI 0) mlog lv had (nI 0) (-1) mrd mwt worn pg pla sou fou) := hD
        refine lv_aload_n hx hb d_M_forget_36 rfl (lv_at hl 0 rfl) ?_
        refine lv_iconst (v := nI 0) hx hb d_M_forget_37 (by decide) ?_
        refine va_put (D := (dC, dI)) (ci := 5) (v := .int (nI 0)) (ty := .int) (C := R_M) (T := F_M) (N := 20) hx hb hts (fun w h => List.mem_cons_of_mem _ (in_M w h)) t_M ok_M nm_M hown hK hP hD hS 0 rfl rfl 13 (by decide) (hts (.fieldLink R_M 58 R_M "readings" "I") (List.mem_cons_of_mem _ t_725)) (fun _ h9 => h9) rfl (by decide +kernel) rfl rfl (Nat.le_of_ble_eq_true rfl) d_M_forget_38 (fun H locs hP hD hS => ?_)
        have hP : va_P (dC, dI) vwCl (mw_ am cm th mw mwr mfl mact on cut (nI 0) mlog lv had (nI 0) (-1) (nI 0) mwt worn pg pla sou fou) H := hP
        have hD : va_D (xA 9 am s.heap.size) (mw_ am cm th mw mwr mfl mact on cut (nI 0) mlog lv had (nI 0) (-1) (nI 0) mwt worn pg pla sou fou) := hD
        refine lv_aload_n hx hb d_M_forget_41 rfl (lv_at hl 0 rfl) ?_
        refine lv_iconst (v := nI 0) hx hb d_M_forget_42 (by decide) ?_
        refine va_put (D := (dC, dI)) (ci := 5) (v := .int (nI 0)) (ty := .int) (C := R_M) (T := F_M) (N := 20) hx hb hts (fun w h => List.mem_cons_of_mem _ (in_M w h)) t_M ok_M nm_M hown hK hP hD hS 0 rfl rfl 14 (by decide) (hts (.fieldLink R_M 61 R_M "weight" "I") (List.mem_cons_of_mem _ t_726)) (fun _ h9 => h9) rfl (by decide +kernel) rfl rfl (Nat.le_of_ble_eq_true rfl) d_M_forget_43 (fun H locs hP hD hS => ?_)
        have hP : va_P (dC, dI) vwCl (mw_ am cm th mw mwr mfl mact on cut (nI 0) mlog lv had (nI 0) (-1) (nI 0) (nI 0) worn pg pla sou fou) H := hP
        have hD : va_D (xA 9 am s.heap.size) (mw_ am cm th mw mwr mfl mact on cut (nI 0) mlog lv had (nI 0) (-1) (nI 0) (nI 0) worn pg pla sou fou) := hD
        refine lv_aload_n hx hb d_M_forget_46 rfl (lv_at hl 0 rfl) ?_
        refine lv_iconst (v := nI 0) hx hb d_M_forget_47 (by decide) ?_
        refine va_put (D := (dC, dI)) (ci := 5) (v := .int (nI 0)) (ty := .boolean) (C := R_M) (T := F_M) (N := 20) hx hb hts (fun w h => List.mem_cons_of_mem _ (in_M w h)) t_M ok_M nm_M hown hK hP hD hS 0 rfl rfl 15 (by decide) (hts (.fieldLink R_M 64 R_M "worn" "Z") (List.mem_cons_of_mem _ t_727)) (fun _ h9 => h9) rfl (by decide +kernel) (by first | rfl | decide | assumption) rfl (Nat.le_of_ble_eq_true rfl) d_M_forget_48 (fun H locs hP hD hS => ?_)
        have hP : va_P (dC, dI) vwCl (mw_ am cm th mw mwr mfl mact on cut (nI 0) mlog lv had (nI 0) (-1) (nI 0) (nI 0) (nI 0) pg pla sou fou) H := hP
        have hD : va_D (xA 9 am s.heap.size) (mw_ am cm th mw mwr mfl mact on cut (nI 0) mlog lv had (nI 0) (-1) (nI 0) (nI 0) (nI 0) pg pla sou fou) := hD
        refine lv_aload_n hx hb d_M_forget_51 rfl (lv_at hl 0 rfl) ?_
        refine lv_iconst (v := (-1)) hx hb d_M_forget_52 (by decide) ?_
        refine va_put (D := (dC, dI)) (ci := 5) (v := .int (-1)) (ty := .int) (C := R_M) (T := F_M) (N := 20) hx hb hts (fun w h => List.mem_cons_of_mem _ (in_M w h)) t_M ok_M nm_M hown hK hP hD hS 0 rfl rfl 6 (by decide) (hts (.fieldLink R_M 27 R_M "cut" "I") (List.mem_cons_of_mem _ t_718)) (fun _ h9 => h9) rfl (by decide +kernel) rfl rfl (Nat.le_of_ble_eq_true rfl) d_M_forget_53 (fun H locs hP hD hS => ?_)
        have hP : va_P (dC, dI) vwCl (mw_ am cm th mw mwr mfl mact on (-1) (nI 0) mlog lv had (nI 0) (-1) (nI 0) (nI 0) (nI 0) pg pla sou fou) H := hP
        have hD : va_D (xA 9 am s.heap.size) (mw_ am cm th mw mwr mfl mact on (-1) (nI 0) mlog lv had (nI 0) (-1) (nI 0) (nI 0) (nI 0) pg pla sou fou) := hD
        exact W.vret hx hb hr (fun t ht hW => ⟨⟨(fun i => [lv].getD i (fun _ => 0), fun i => [nI 0, (-1), nI 0, nI 0, nI 0, (-1)].getD i 0, fun i => [0].getD i 0), rfl, ⟨rfl, fun i hi => hf i (by omega), rfl⟩, ⟨by rw [ht]; exact hP, va_K.moved hW.alike hK, hD⟩⟩, hS.F ht⟩) hS.2.2 d_M_forget_56
      ·
        have c10 := cd_ge_f (by omega) (by omega) c10
        refine lv_aload_n hx hb d_M_forget_13 rfl (lv_at hl 0 rfl) ?_
        refine va_get (D := (dC, dI)) (ci := 5) (v := .ref (am 6)) (C := R_M) (T := F_M) (N := 20) hx hb hts (fun w h => List.mem_cons_of_mem _ (in_M w h)) hown hK hP 0 rfl rfl 9 (by decide) (hts (.fieldLink R_M 34 R_M "live" "[I") (List.mem_cons_of_mem _ t_721)) (fun _ h9 => h9) rfl d_M_forget_14 ?_
        refine lv_iload_n hx hb d_M_forget_17 rfl (lv_at hl 1 rfl) ?_
        refine lv_iconst (v := (-1)) hx hb d_M_forget_18 (by decide) ?_
        refine va_iast hx hb hK hP hD hS 6 5 rfl rfl (vp_in_nI (by omega) (by decide)) d_M_forget_19 (fun H locs hP hD hS => ?_)
        rw [nI_clamp (by omega)] at hP hD
        have hP : va_P (dC, dI) vwCl (mw_ am cm th mw mwr mfl mact on cut (nI 0) mlog (upd lv k (-1)) had mser mcur mrd mwt worn pg pla sou fou) H := hP
        have hD : va_D (xA 9 am s.heap.size) (mw_ am cm th mw mwr mfl mact on cut (nI 0) mlog (upd lv k (-1)) had mser mcur mrd mwt worn pg pla sou fou) := hD
        refine lv_iinc (k := 1) (v := nI (k + 1)) hx hb d_M_forget_20 hl rfl (nI_1 _) (by decide) rfl (fun ls hl => ?_)
        have hl : lv_has ls 2 [(1, .int (nI (k + 1))), (0, .ref (am 0))] := hl
        refine lv_goto (tgt := 7) hx hb d_M_forget_23 (by decide) ?_
        exact ih7 (k + 1) (upd lv k (-1)) H locs ls (by omega) (by omega) (upd_lt hf) (lv_sub hl [1, 0] rfl) hP hD hS
  exact lp7 _ 0 mlive H locs ls (Nat.lt_succ_self _) (by omega) (fun i hi => absurd hi (Nat.not_lt_zero i)) (lv_sub hl [1, 0] rfl) hP hD hS
set_option maxHeartbeats 4000000 in
set_option maxRecDepth 100000 in
theorem c_M_off (l : Launch) (dC : Nat → ClassId) (dI : Nat → Nat → Nat) (am cm : Nat → Nat) (sz : Nat) (th : Int32) (mw mwr mfl mact : Nat → Int32) (on cut mrec : Int32) (mlog mlive had : Nat → Int32) (mser mcur mrd mwt worn : Int32) (pg : Nat → Int32) (pla sou fou : Int32)  : Met l y_M_off w_M_off ({ frames := 1, cells := 0, slots := 0, locals := 21 }) (xP (dC, dI) vwCl (mt cm) (mw_ am cm th mw mwr mfl mact on cut mrec mlog mlive had mser mcur mrd mwt worn pg pla sou fou) sz [.ref (am 0)]) (va_Qv (fun (u : (Nat → Nat → Int32) × (Nat → Int32) × (Nat → Nat)) => (u.2.2 0) = 0 ∧ (∀ i, i < 16 → (u.1 0) i = -1) ∧ (u.2.1 1) = -1) (fun (u : (Nat → Nat → Int32) × (Nat → Int32) × (Nat → Nat)) (t : State) => xB (dC, dI) vwCl (mt cm) (xA 9 am sz) (mw_ am cm th mw mwr mfl mact (u.2.1 6) (u.2.1 5) (nI (u.2.2 0)) mlog (u.1 0) had (u.2.1 0) (u.2.1 1) (u.2.1 2) (u.2.1 3) (u.2.1 4) pg pla sou fou) t) (xA 9 am sz)) 0 0 (xA 9 am sz) := by
  refine Met.ofW (cc := b_M_off) (maxL := 1) (ret := none) (by decide) rfl ?_
  intro P e s m args below meth c0 s₁ B hml hv
  obtain ⟨rfl, hsz, hP, hK, hD0, hN⟩ := hv
  have hx := B.exec
  have hb := B.bytes
  have hr := B.returns
  have hts := atoms_spec (ws := w_M_off) B.pre
  have hown : s.vm.findClass R_M = some m.cls := findClass_of_methodNamed B.named
  have hlocks := B.notSynchronized
  subst hsz
  have hD := mw_D (sz := s.heap.size) hD0
  have hS : va_S (xA 9 am s.heap.size) s.heap s.heap [] := va_S.rf
  have hA : ∀ q : Nat, s.heap.size ≤ q → (xA 9 am s.heap.size) q := fun q h => Or.inr h
  have hl := lv_entry ([.ref (am 0)]) (n := 1) (Nat.le_of_ble_eq_true rfl)
  rw [lg_entry_eq]
  generalize (lg_sl ([.ref (am 0)]) ++ List.replicate (1 - (lg_sl ([.ref (am 0)])).length) Slot.unset).toArray = ls at hl ⊢
  have hl : lv_has ls 1 [(0, .ref (am 0))] := hl
  refine lv_aload_n hx hb d_M_off_0 rfl (lv_at hl 0 rfl) ?_
  refine lv_iconst (v := nI 0) hx hb d_M_off_1 (by decide) ?_
  refine va_put (D := (dC, dI)) (ci := 5) (v := .int (nI 0)) (ty := .boolean) (C := R_M) (T := F_M) (N := 20) hx hb hts (fun w h => List.mem_cons_of_mem _ (in_M w h)) t_M ok_M nm_M hown hK hP hD hS 0 rfl rfl 5 (by decide) (hts (.fieldLink R_M 23 R_M "on" "Z") (List.mem_cons_of_mem _ t_717)) (fun _ h9 => h9) rfl (by decide +kernel) (by first | rfl | decide | assumption) rfl (Nat.le_of_ble_eq_true rfl) d_M_off_2 (fun H locs hP hD hS => ?_)
  have hP : va_P (dC, dI) vwCl (mw_ am cm th mw mwr mfl mact (nI 0) cut mrec mlog mlive had mser mcur mrd mwt worn pg pla sou fou) H := hP
  have hD : va_D (xA 9 am s.heap.size) (mw_ am cm th mw mwr mfl mact (nI 0) cut mrec mlog mlive had mser mcur mrd mwt worn pg pla sou fou) := hD
  refine lv_aload_n hx hb d_M_off_5 rfl (lv_at hl 0 rfl) ?_
  have hSz := hS.1
  refine va_callv (va_runV (C := R_M) (As := []) (rest := []) ⟨hx, hb, hml, hown, hts⟩ (c_M_forget l dC dI am cm H.size th mw mwr mfl mact (nI 0) cut mrec mlog mlive had mser mcur mrd mwt worn pg pla sou fou  ) (cwV 0 hts (g_V t_708 t_710 s_21 t_6 t_711) rfl rfl rfl (by decide +kernel) ⟨by decide, by decide⟩) (xP_v hP hK hD hN 0 rfl rfl) rfl rfl hl.1 rfl (lv_room (Nat.le_of_ble_eq_true rfl)) d_M_off_6 ⟨Nat.le_refl _, Nat.le_refl _⟩) hS (fun q _ h => xA_up hS.1 q h) (fun q h => xA_up hS.1 q h) (fun u6 t H1 locs1 ht hvm q6 hB hz1 hk1 hS => ?_)
  obtain ⟨hP1, hK1, hD1⟩ := hB
  rw [ht] at hP1
  have hD : va_D (xA 9 am s.heap.size) (mw_ am cm th mw mwr mfl mact (nI 0) (u6.2.1 5) (nI (u6.2.2 0)) mlog (u6.1 0) had (u6.2.1 0) (u6.2.1 1) (u6.2.1 2) (u6.2.1 3) (u6.2.1 4) pg pla sou fou) := hD1.weaken (fun _ q _ h => xA_up hSz _ h)
  have hP : va_P (dC, dI) vwCl (mw_ am cm th mw mwr mfl mact (nI 0) (u6.2.1 5) (nI (u6.2.2 0)) mlog (u6.1 0) had (u6.2.1 0) (u6.2.1 1) (u6.2.1 2) (u6.2.1 3) (u6.2.1 4) pg pla sou fou) H1 := hP1
  generalize H1 = H at hP hS ⊢
  generalize locs1 = locs at hS ⊢
  obtain ⟨hr0, hl0, hc0⟩ := q6
  exact W.vret hx hb hr (fun t ht hW => ⟨⟨(fun i => [u6.1 0].getD i (fun _ => 0), fun i => [u6.2.1 0, u6.2.1 1, u6.2.1 2, u6.2.1 3, u6.2.1 4, u6.2.1 5, nI 0].getD i 0, fun i => [u6.2.2 0].getD i 0), rfl, ⟨hr0, hl0, hc0⟩, ⟨by rw [ht]; exact hP, va_K.moved hW.alike hK, hD⟩⟩, hS.F ht⟩) hS.2.2 d_M_off_9
set_option maxHeartbeats 4000000 in
set_option maxRecDepth 100000 in
theorem c_M_step (l : Launch) (dC : Nat → ClassId) (dI : Nat → Nat → Nat) (am cm : Nat → Nat) (sz : Nat) (th : Int32) (mw mwr mfl mact : Nat → Int32) (on cut mrec : Int32) (mlog mlive had : Nat → Int32) (mser mcur mrd mwt worn : Int32) (pg : Nat → Int32) (pla sou fou : Int32) (rn : Nat) : Met l y_M_step w_M_step ({ frames := 2, cells := 0, slots := 0, locals := 41 }) (xP (dC, dI) vwCl (mt cm) (mw_ am cm th mw mwr mfl mact on cut (nI rn) mlog mlive had mser mcur mrd mwt worn pg pla sou fou) sz [.ref (am 0)]) (va_Qi (fun r (u : (Nat → Nat → Int32) × (Nat → Int32) × (Nat → Nat)) => (r = nI 1 ∧ (u.2.2 0) = rn ∧ (u.1 0) = mlive ∧ (u.2.1 1) = mcur) ∨ (r = nI 0 ∧ MI (u.2.2 0) (u.1 0) (u.2.1 1))) (fun (u : (Nat → Nat → Int32) × (Nat → Int32) × (Nat → Nat)) (t : State) => xB (dC, dI) vwCl (mt cm) (xA 9 am sz) (mw_ am cm th mw mwr mfl mact (u.2.1 6) (u.2.1 5) (nI (u.2.2 0)) mlog (u.1 0) had (u.2.1 0) (u.2.1 1) (u.2.1 2) (u.2.1 3) (u.2.1 4) pg pla sou fou) t) (xA 9 am sz)) 0 0 (xA 9 am sz) := by
  refine Met.ofW (cc := b_M_step) (maxL := 1) (ret := (some (.boolean))) (by decide) rfl ?_
  intro P e s m args below meth c0 s₁ B hml hv
  obtain ⟨rfl, hsz, hP, hK, hD0, hN⟩ := hv
  have hx := B.exec
  have hb := B.bytes
  have hr := B.returns
  have hts := atoms_spec (ws := w_M_step) B.pre
  have hown : s.vm.findClass R_M = some m.cls := findClass_of_methodNamed B.named
  have hlocks := B.notSynchronized
  subst hsz
  have hD := mw_D (sz := s.heap.size) hD0
  have hS : va_S (xA 9 am s.heap.size) s.heap s.heap [] := va_S.rf
  have hA : ∀ q : Nat, s.heap.size ≤ q → (xA 9 am s.heap.size) q := fun q h => Or.inr h
  have hl := lv_entry ([.ref (am 0)]) (n := 1) (Nat.le_of_ble_eq_true rfl)
  rw [lg_entry_eq]
  generalize (lg_sl ([.ref (am 0)]) ++ List.replicate (1 - (lg_sl ([.ref (am 0)])).length) Slot.unset).toArray = ls at hl ⊢
  have hl : lv_has ls 1 [(0, .ref (am 0))] := hl
  refine lv_aload_n hx hb d_M_step_0 rfl (lv_at hl 0 rfl) ?_
  refine va_get (D := (dC, dI)) (ci := 5) (v := .int cut) (C := R_M) (T := F_M) (N := 20) hx hb hts (fun w h => List.mem_cons_of_mem _ (in_M w h)) hown hK hP 0 rfl rfl 6 (by decide) (hts (.fieldLink R_M 27 R_M "cut" "I") (List.mem_cons_of_mem _ t_718)) (fun _ h9 => h9) rfl d_M_step_1 ?_
  refine lv_if_ne (tgt := 13) hx hb d_M_step_4 (by decide) (fun c4 => ?_) (fun c4 => ?_)
  ·
    refine lv_aload_n hx hb d_M_step_13 rfl (lv_at hl 0 rfl) ?_
    refine va_get (D := (dC, dI)) (ci := 5) (v := .int cut) (C := R_M) (T := F_M) (N := 20) hx hb hts (fun w h => List.mem_cons_of_mem _ (in_M w h)) hown hK hP 0 rfl rfl 6 (by decide) (hts (.fieldLink R_M 27 R_M "cut" "I") (List.mem_cons_of_mem _ t_718)) (fun _ h9 => h9) rfl d_M_step_14 ?_
    refine lv_if_le (tgt := 30) hx hb d_M_step_17 (by decide) (fun c17 => ?_) (fun c17 => ?_)
    ·
      refine lv_iconst (v := nI 1) hx hb d_M_step_30 (by decide) ?_
      exact W.zret (v := nI 1) hx hb hr (by first | rfl | decide | assumption) (fun t ht hW => ⟨⟨nI 1, (fun i => [mlive].getD i (fun _ => 0), fun i => [mser, mcur, mrd, mwt, worn, cut, on].getD i 0, fun i => [rn].getD i 0), rfl, Or.inl ⟨rfl, rfl, rfl, rfl⟩, ⟨by rw [ht]; exact hP, va_K.moved hW.alike hK, hD⟩⟩, hS.F ht⟩) hS.2.2 d_M_step_31
    ·
      refine lv_aload_n hx hb d_M_step_20 rfl (lv_at hl 0 rfl) ?_
      refine lv_dup hx hb d_M_step_21 rfl ?_
      refine va_get (D := (dC, dI)) (ci := 5) (v := .int cut) (C := R_M) (T := F_M) (N := 20) hx hb hts (fun w h => List.mem_cons_of_mem _ (in_M w h)) hown hK hP 0 rfl rfl 6 (by decide) (hts (.fieldLink R_M 27 R_M "cut" "I") (List.mem_cons_of_mem _ t_718)) (fun _ h9 => h9) rfl d_M_step_22 ?_
      refine lv_iconst (v := nI 1) hx hb d_M_step_25 (by decide) ?_
      refine lv_isub hx hb d_M_step_26 ?_
      refine va_put (D := (dC, dI)) (ci := 5) (v := .int (cut - (nI 1))) (ty := .int) (C := R_M) (T := F_M) (N := 20) hx hb hts (fun w h => List.mem_cons_of_mem _ (in_M w h)) t_M ok_M nm_M hown hK hP hD hS 0 rfl rfl 6 (by decide) (hts (.fieldLink R_M 27 R_M "cut" "I") (List.mem_cons_of_mem _ t_718)) (fun _ h9 => h9) rfl (by decide +kernel) rfl rfl (Nat.le_of_ble_eq_true rfl) d_M_step_27 (fun H locs hP hD hS => ?_)
      have hP : va_P (dC, dI) vwCl (mw_ am cm th mw mwr mfl mact on (cut - (nI 1)) (nI rn) mlog mlive had mser mcur mrd mwt worn pg pla sou fou) H := hP
      have hD : va_D (xA 9 am s.heap.size) (mw_ am cm th mw mwr mfl mact on (cut - (nI 1)) (nI rn) mlog mlive had mser mcur mrd mwt worn pg pla sou fou) := hD
      refine lv_iconst (v := nI 1) hx hb d_M_step_30 (by decide) ?_
      exact W.zret (v := nI 1) hx hb hr (by first | rfl | decide | assumption) (fun t ht hW => ⟨⟨nI 1, (fun i => [mlive].getD i (fun _ => 0), fun i => [mser, mcur, mrd, mwt, worn, cut - (nI 1), on].getD i 0, fun i => [rn].getD i 0), rfl, Or.inl ⟨rfl, rfl, rfl, rfl⟩, ⟨by rw [ht]; exact hP, va_K.moved hW.alike hK, hD⟩⟩, hS.F ht⟩) hS.2.2 d_M_step_31
  ·
    refine lv_aload_n hx hb d_M_step_7 rfl (lv_at hl 0 rfl) ?_
    have hSz := hS.1
    refine va_callv (va_runV (C := R_M) (As := []) (rest := []) ⟨hx, hb, hml, hown, hts⟩ (c_M_off l dC dI am cm s.heap.size th mw mwr mfl mact on cut (nI rn) mlog mlive had mser mcur mrd mwt worn pg pla sou fou  ) (cwV 0 hts (g_V t_853 t_855 s_36 t_6 t_856) rfl rfl rfl (by decide +kernel) ⟨by decide, by decide⟩) (xP_v hP hK hD hN 0 rfl rfl) rfl rfl hl.1 rfl (lv_room (Nat.le_of_ble_eq_true rfl)) d_M_step_8 ⟨Nat.le_refl _, Nat.le_refl _⟩) hS (fun q _ h => xA_up hS.1 q h) (fun q h => xA_up hS.1 q h) (fun u8 t H1 locs1 ht hvm q8 hB hz1 hk1 hS => ?_)
    obtain ⟨hP1, hK1, hD1⟩ := hB
    rw [ht] at hP1
    have hD : va_D (xA 9 am s.heap.size) (mw_ am cm th mw mwr mfl mact (u8.2.1 6) (u8.2.1 5) (nI (u8.2.2 0)) mlog (u8.1 0) had (u8.2.1 0) (u8.2.1 1) (u8.2.1 2) (u8.2.1 3) (u8.2.1 4) pg pla sou fou) := hD1.weaken (fun _ q _ h => xA_up hSz _ h)
    have hP : va_P (dC, dI) vwCl (mw_ am cm th mw mwr mfl mact (u8.2.1 6) (u8.2.1 5) (nI (u8.2.2 0)) mlog (u8.1 0) had (u8.2.1 0) (u8.2.1 1) (u8.2.1 2) (u8.2.1 3) (u8.2.1 4) pg pla sou fou) H1 := hP1
    generalize H1 = H at hP hS ⊢
    generalize locs1 = locs at hS ⊢
    obtain ⟨hr0, hl0, hc0⟩ := q8
    refine lv_iconst (v := nI 0) hx hb d_M_step_11 (by decide) ?_
    exact W.zret (v := nI 0) hx hb hr (by first | rfl | decide | assumption) (fun t ht hW => ⟨⟨nI 0, (fun i => [u8.1 0].getD i (fun _ => 0), fun i => [u8.2.1 0, u8.2.1 1, u8.2.1 2, u8.2.1 3, u8.2.1 4, u8.2.1 5, u8.2.1 6].getD i 0, fun i => [u8.2.2 0].getD i 0), rfl, Or.inr ⟨rfl, MI.offE hr0 hl0 hc0⟩, ⟨by rw [ht]; exact hP, va_K.moved hW.alike hK, hD⟩⟩, hS.F ht⟩) hS.2.2 d_M_step_12
set_option maxHeartbeats 4000000 in
set_option maxRecDepth 100000 in
theorem c_M_more (l : Launch) (dC : Nat → ClassId) (dI : Nat → Nat → Nat)  (su : Int32) (wd : Int32) : Met l y_M_more w_M_more ({ frames := 0, cells := 0, slots := 0, locals := 0 }) (xR (dC, dI) vwCl [] [] [.int su, .int wd]) (vp_Si (fun r => True)) 0 0 (fun _ => False) := by
  refine Met.ofW (cc := b_M_more) (maxL := 3) (ret := (some (.int))) (by decide) rfl ?_
  intro P e s m args below meth c0 s₁ B hml hv
  obtain ⟨rfl, hP, hK, hN⟩ := hv
  have hx := B.exec
  have hb := B.bytes
  have hr := B.returns
  have hts := atoms_spec (ws := w_M_more) B.pre
  have hown : s.vm.findClass R_M = some m.cls := findClass_of_methodNamed B.named
  have hlocks := B.notSynchronized
  have hl := lv_entry ([.int su, .int wd]) (n := 3) (Nat.le_of_ble_eq_true rfl)
  rw [lg_entry_eq]
  generalize (lg_sl ([.int su, .int wd]) ++ List.replicate (3 - (lg_sl ([.int su, .int wd])).length) Slot.unset).toArray = ls at hl ⊢
  have hl : lv_has ls 3 [(0, .int su), (1, .int wd)] := hl
  refine lv_iload_n hx hb d_M_more_0 rfl (lv_at hl 0 rfl) ?_
  refine lv_iload_n hx hb d_M_more_1 rfl (lv_at hl 1 rfl) ?_
  refine lv_ixor hx hb d_M_more_2 ?_
  refine lv_istore_n hx hb d_M_more_3 rfl hl (by decide) rfl (fun ls hl => ?_)
  have hl : lv_has ls 3 [(2, .int (su ^^^ wd)), (0, .int su), (1, .int wd)] := hl
  refine lv_iload_n hx hb d_M_more_4 rfl (lv_at hl 0 rfl) ?_
  refine lv_iconst (v := 5) hx hb d_M_more_5 (by decide) ?_
  refine lv_ishl hx hb d_M_more_6 ?_
  refine lv_iload_n hx hb d_M_more_7 rfl (lv_at hl 0 rfl) ?_
  refine lv_bipush (v := 27) hx hb d_M_more_8 (by decide) ?_
  refine lv_iushr hx hb d_M_more_10 rfl ?_
  refine lv_ior hx hb d_M_more_11 ?_
  refine lv_ldc (v := nI 40503) hx hb hown (hts (.constant R_M 67 40503) (List.mem_cons_of_mem _ t_807)) d_M_more_12 ?_
  refine lv_iadd hx hb d_M_more_14 ?_
  exact W.iret (v := (((su ^^^ wd) <<< (5 &&& 31)) ||| (((su ^^^ wd).toUInt32 >>> (Int32.toUInt32 27 &&& Int32.toUInt32 31)).toInt32)) + (nI 40503)) hx hb hr (fun t ht hW => ⟨(((su ^^^ wd) <<< (5 &&& 31)) ||| (((su ^^^ wd).toUInt32 >>> (Int32.toUInt32 27 &&& Int32.toUInt32 31)).toInt32)) + (nI 40503), rfl, by first | rfl | trivial | omega, ht⟩) (fun q hq => by cases hq) d_M_more_15
set_option maxHeartbeats 4000000 in
set_option maxRecDepth 100000 in
theorem c_M_sumOf_c (l : Launch) (dC : Nat → ClassId) (dI : Nat → Nat → Nat) (am cm : Nat → Nat) (th : Int32) (mw mwr mfl mact : Nat → Int32) (on cut mrec : Int32) (mlog mlive had : Nat → Int32) (mser mcur mrd mwt worn : Int32) (pg : Nat → Int32) (pla sou fou : Int32) (st : Nat) (cnt : Nat) (hn : st + cnt ≤ 512) : Met l y_M_sumOf w_M_sumOf ({ frames := 1, cells := 0, slots := 0, locals := 22 }) (xR (dC, dI) vwCl (mt cm) (mw_ am cm th mw mwr mfl mact on cut mrec mlog mlive had mser mcur mrd mwt worn pg pla sou fou) [.ref (am 0), .ref (am 1), .int (nI st), .int (nI cnt)]) (vp_Si (fun r => True)) 0 0 (fun _ => False) := by
  refine Met.ofW (cc := b_M_sumOf) (maxL := 6) (ret := (some (.int))) (by decide) rfl ?_
  intro P e s m args below meth c0 s₁ B hml hv
  obtain ⟨rfl, hP, hK, hN⟩ := hv
  have hx := B.exec
  have hb := B.bytes
  have hr := B.returns
  have hts := atoms_spec (ws := w_M_sumOf) B.pre
  have hown : s.vm.findClass R_M = some m.cls := findClass_of_methodNamed B.named
  have hlocks := B.notSynchronized
  have hl := lv_entry ([.ref (am 0), .ref (am 1), .int (nI st), .int (nI cnt)]) (n := 6) (Nat.le_of_ble_eq_true rfl)
  rw [lg_entry_eq]
  generalize (lg_sl ([.ref (am 0), .ref (am 1), .int (nI st), .int (nI cnt)]) ++ List.replicate (6 - (lg_sl ([.ref (am 0), .ref (am 1), .int (nI st), .int (nI cnt)])).length) Slot.unset).toArray = ls at hl ⊢
  have hl : lv_has ls 6 [(0, .ref (am 0)), (1, .ref (am 1)), (2, .int (nI st)), (3, .int (nI cnt))] := hl
  refine lv_sipush (v := nI 7989) hx hb d_M_sumOf_0 (by decide) ?_
  refine lv_istore hx hb d_M_sumOf_3 hl (by decide) rfl (fun ls hl => ?_)
  have hl : lv_has ls 6 [(4, .int (nI 7989)), (0, .ref (am 0)), (1, .ref (am 1)), (2, .int (nI st)), (3, .int (nI cnt))] := hl
  refine lv_iconst (v := nI 0) hx hb d_M_sumOf_5 (by decide) ?_
  refine lv_istore hx hb d_M_sumOf_6 hl (by decide) rfl (fun ls hl => ?_)
  have hl : lv_has ls 6 [(5, .int (nI 0)), (4, .int (nI 7989)), (0, .ref (am 0)), (1, .ref (am 1)), (2, .int (nI st)), (3, .int (nI cnt))] := hl
  have lp8 : ∀ (n : Nat) (k : Nat) (x : Int32) (ls : Array Slot), (cnt - k) < n → (k ≤ cnt) → lv_has ls 6 [(0, .ref (am 0)), (1, .ref (am 1)), (2, .int (nI st)), (3, .int (nI cnt)), (4, .int x), (5, .int (nI k))] → W P l e (headSpec w_M_sumOf ({ frames := 1, cells := 0, slots := 0, locals := 22 })).room s m (([.ref (am 0), .ref (am 1), .int (nI st), .int (nI cnt)] : List Value).toArray) below meth c0 s.heap [] 0 0 (MQ below (vp_Si (fun r => True)) (([.ref (am 0), .ref (am 1), .int (nI st), .int (nI cnt)] : List Value).toArray) s 0 0 (fun _ => False)) (F0 m 8 ls []) := by
    intro n
    induction n with
    | zero => intro k x ls hm; intros; omega
    | succ n ih8 =>
      intro k x ls hm hk hl
      refine lv_iload hx hb d_M_sumOf_8 (lv_at hl 5 rfl) ?_
      refine lv_iload_n hx hb d_M_sumOf_10 rfl (lv_at hl 3 rfl) ?_
      refine lv_icmp_ge (tgt := 33) hx hb d_M_sumOf_11 (by decide) (fun c11 => ?_) (fun c11 => ?_)
      ·
        have c11 := cd_ge_t (by omega) (by omega) c11
        refine lv_iload hx hb d_M_sumOf_33 (lv_at hl 4 rfl) ?_
        exact W.iret (v := x) hx hb hr (fun t ht hW => ⟨x, rfl, by first | rfl | trivial | omega, ht⟩) (fun q hq => by cases hq) d_M_sumOf_35
      ·
        have c11 := cd_ge_f (by omega) (by omega) c11
        refine lv_iload hx hb d_M_sumOf_14 (lv_at hl 4 rfl) ?_
        refine lv_aload_n hx hb d_M_sumOf_16 rfl (lv_at hl 1 rfl) ?_
        refine lv_iload_n hx hb d_M_sumOf_17 rfl (lv_at hl 2 rfl) ?_
        refine lv_iload hx hb d_M_sumOf_18 (lv_at hl 5 rfl) ?_
        refine lv_iadd hx hb d_M_sumOf_20 ?_
        refine tp_i (y := nI (st + k)) (nI_add _ _) ?_
        refine va_iald hx hb hK hP 1 0 rfl rfl (vp_in_nI (by omega) (by decide)) d_M_sumOf_21 ?_
        refine tp_i (y := mw (st + k)) (by rw [nI_clamp (by omega)]) ?_
        refine vp_callSi (va_runS (As := [.int x, .int (mw (st + k))]) (rest := []) ⟨hx, hb, hml, hown, hts⟩ (c_M_more l dC dI x (mw (st + k)) ) (cwS 2 hts (g_S t_804 t_805 t_6 t_806) rfl rfl rfl (by decide +kernel) ⟨by decide, by decide⟩) (xR_s (va_P.sub hP [] rfl) (hK.sub [] rfl) hN) rfl rfl hl.1 rfl (lv_room (Nat.le_of_ble_eq_true rfl)) d_M_sumOf_22 ⟨Nat.le_refl _, Nat.le_refl _⟩).run (fun r22 q22 => ?_)
        have hk22 := q22
        refine lv_istore hx hb d_M_sumOf_25 hl (by decide) rfl (fun ls hl => ?_)
        have hl : lv_has ls 6 [(4, .int r22), (0, .ref (am 0)), (1, .ref (am 1)), (2, .int (nI st)), (3, .int (nI cnt)), (5, .int (nI k))] := hl
        refine lv_iinc (k := 5) (v := nI (k + 1)) hx hb d_M_sumOf_27 hl rfl (nI_1 _) (by decide) rfl (fun ls hl => ?_)
        have hl : lv_has ls 6 [(5, .int (nI (k + 1))), (4, .int r22), (0, .ref (am 0)), (1, .ref (am 1)), (2, .int (nI st)), (3, .int (nI cnt))] := hl
        refine lv_goto (tgt := 8) hx hb d_M_sumOf_30 (by decide) ?_
        exact ih8 (k + 1) r22 ls (by omega) (by omega) (lv_sub hl [2, 3, 4, 5, 1, 0] rfl)
  exact lp8 _ 0 (nI 7989) ls (Nat.lt_succ_self _) (by omega) (lv_sub hl [2, 3, 4, 5, 1, 0] rfl)
set_option maxHeartbeats 4000000 in
set_option maxRecDepth 100000 in
theorem c_M_sumOf_p (l : Launch) (dC : Nat → ClassId) (dI : Nat → Nat → Nat) (am cm : Nat → Nat) (th : Int32) (mw mwr mfl mact : Nat → Int32) (on cut mrec : Int32) (mlog mlive had : Nat → Int32) (mser mcur mrd mwt worn : Int32) (pg : Nat → Int32) (pla sou fou : Int32) (st : Nat) (cnt : Nat) (hn : st + cnt ≤ 16) : Met l y_M_sumOf w_M_sumOf ({ frames := 1, cells := 0, slots := 0, locals := 22 }) (xR (dC, dI) vwCl (mt cm) (mw_ am cm th mw mwr mfl mact on cut mrec mlog mlive had mser mcur mrd mwt worn pg pla sou fou) [.ref (am 0), .ref (am 8), .int (nI st), .int (nI cnt)]) (vp_Si (fun r => True)) 0 0 (fun _ => False) := by
  refine Met.ofW (cc := b_M_sumOf) (maxL := 6) (ret := (some (.int))) (by decide) rfl ?_
  intro P e s m args below meth c0 s₁ B hml hv
  obtain ⟨rfl, hP, hK, hN⟩ := hv
  have hx := B.exec
  have hb := B.bytes
  have hr := B.returns
  have hts := atoms_spec (ws := w_M_sumOf) B.pre
  have hown : s.vm.findClass R_M = some m.cls := findClass_of_methodNamed B.named
  have hlocks := B.notSynchronized
  have hl := lv_entry ([.ref (am 0), .ref (am 8), .int (nI st), .int (nI cnt)]) (n := 6) (Nat.le_of_ble_eq_true rfl)
  rw [lg_entry_eq]
  generalize (lg_sl ([.ref (am 0), .ref (am 8), .int (nI st), .int (nI cnt)]) ++ List.replicate (6 - (lg_sl ([.ref (am 0), .ref (am 8), .int (nI st), .int (nI cnt)])).length) Slot.unset).toArray = ls at hl ⊢
  have hl : lv_has ls 6 [(0, .ref (am 0)), (1, .ref (am 8)), (2, .int (nI st)), (3, .int (nI cnt))] := hl
  refine lv_sipush (v := nI 7989) hx hb d_M_sumOf_0 (by decide) ?_
  refine lv_istore hx hb d_M_sumOf_3 hl (by decide) rfl (fun ls hl => ?_)
  have hl : lv_has ls 6 [(4, .int (nI 7989)), (0, .ref (am 0)), (1, .ref (am 8)), (2, .int (nI st)), (3, .int (nI cnt))] := hl
  refine lv_iconst (v := nI 0) hx hb d_M_sumOf_5 (by decide) ?_
  refine lv_istore hx hb d_M_sumOf_6 hl (by decide) rfl (fun ls hl => ?_)
  have hl : lv_has ls 6 [(5, .int (nI 0)), (4, .int (nI 7989)), (0, .ref (am 0)), (1, .ref (am 8)), (2, .int (nI st)), (3, .int (nI cnt))] := hl
  have lp8 : ∀ (n : Nat) (k : Nat) (x : Int32) (ls : Array Slot), (cnt - k) < n → (k ≤ cnt) → lv_has ls 6 [(0, .ref (am 0)), (1, .ref (am 8)), (2, .int (nI st)), (3, .int (nI cnt)), (4, .int x), (5, .int (nI k))] → W P l e (headSpec w_M_sumOf ({ frames := 1, cells := 0, slots := 0, locals := 22 })).room s m (([.ref (am 0), .ref (am 8), .int (nI st), .int (nI cnt)] : List Value).toArray) below meth c0 s.heap [] 0 0 (MQ below (vp_Si (fun r => True)) (([.ref (am 0), .ref (am 8), .int (nI st), .int (nI cnt)] : List Value).toArray) s 0 0 (fun _ => False)) (F0 m 8 ls []) := by
    intro n
    induction n with
    | zero => intro k x ls hm; intros; omega
    | succ n ih8 =>
      intro k x ls hm hk hl
      refine lv_iload hx hb d_M_sumOf_8 (lv_at hl 5 rfl) ?_
      refine lv_iload_n hx hb d_M_sumOf_10 rfl (lv_at hl 3 rfl) ?_
      refine lv_icmp_ge (tgt := 33) hx hb d_M_sumOf_11 (by decide) (fun c11 => ?_) (fun c11 => ?_)
      ·
        have c11 := cd_ge_t (by omega) (by omega) c11
        refine lv_iload hx hb d_M_sumOf_33 (lv_at hl 4 rfl) ?_
        exact W.iret (v := x) hx hb hr (fun t ht hW => ⟨x, rfl, by first | rfl | trivial | omega, ht⟩) (fun q hq => by cases hq) d_M_sumOf_35
      ·
        have c11 := cd_ge_f (by omega) (by omega) c11
        refine lv_iload hx hb d_M_sumOf_14 (lv_at hl 4 rfl) ?_
        refine lv_aload_n hx hb d_M_sumOf_16 rfl (lv_at hl 1 rfl) ?_
        refine lv_iload_n hx hb d_M_sumOf_17 rfl (lv_at hl 2 rfl) ?_
        refine lv_iload hx hb d_M_sumOf_18 (lv_at hl 5 rfl) ?_
        refine lv_iadd hx hb d_M_sumOf_20 ?_
        refine tp_i (y := nI (st + k)) (nI_add _ _) ?_
        refine va_iald hx hb hK hP 8 7 rfl rfl (vp_in_nI (by omega) (by decide)) d_M_sumOf_21 ?_
        refine tp_i (y := pg (st + k)) (by rw [nI_clamp (by omega)]) ?_
        refine vp_callSi (va_runS (As := [.int x, .int (pg (st + k))]) (rest := []) ⟨hx, hb, hml, hown, hts⟩ (c_M_more l dC dI x (pg (st + k)) ) (cwS 2 hts (g_S t_804 t_805 t_6 t_806) rfl rfl rfl (by decide +kernel) ⟨by decide, by decide⟩) (xR_s (va_P.sub hP [] rfl) (hK.sub [] rfl) hN) rfl rfl hl.1 rfl (lv_room (Nat.le_of_ble_eq_true rfl)) d_M_sumOf_22 ⟨Nat.le_refl _, Nat.le_refl _⟩).run (fun r22 q22 => ?_)
        have hk22 := q22
        refine lv_istore hx hb d_M_sumOf_25 hl (by decide) rfl (fun ls hl => ?_)
        have hl : lv_has ls 6 [(4, .int r22), (0, .ref (am 0)), (1, .ref (am 8)), (2, .int (nI st)), (3, .int (nI cnt)), (5, .int (nI k))] := hl
        refine lv_iinc (k := 5) (v := nI (k + 1)) hx hb d_M_sumOf_27 hl rfl (nI_1 _) (by decide) rfl (fun ls hl => ?_)
        have hl : lv_has ls 6 [(5, .int (nI (k + 1))), (4, .int r22), (0, .ref (am 0)), (1, .ref (am 8)), (2, .int (nI st)), (3, .int (nI cnt))] := hl
        refine lv_goto (tgt := 8) hx hb d_M_sumOf_30 (by decide) ?_
        exact ih8 (k + 1) r22 ls (by omega) (by omega) (lv_sub hl [2, 3, 4, 5, 1, 0] rfl)
  exact lp8 _ 0 (nI 7989) ls (Nat.lt_succ_self _) (by omega) (lv_sub hl [2, 3, 4, 5, 1, 0] rfl)
set_option maxHeartbeats 4000000 in
set_option maxRecDepth 100000 in
theorem c_M_sumOf_l (l : Launch) (dC : Nat → ClassId) (dI : Nat → Nat → Nat) (am cm : Nat → Nat) (th : Int32) (mw mwr mfl mact : Nat → Int32) (on cut mrec : Int32) (mlog mlive had : Nat → Int32) (mser mcur mrd mwt worn : Int32) (pg : Nat → Int32) (pla sou fou : Int32) (st : Nat) (cnt : Nat) (hn : st + cnt ≤ 192) : Met l y_M_sumOf w_M_sumOf ({ frames := 1, cells := 0, slots := 0, locals := 22 }) (xR (dC, dI) vwCl (mt cm) (mw_ am cm th mw mwr mfl mact on cut mrec mlog mlive had mser mcur mrd mwt worn pg pla sou fou) [.ref (am 0), .ref (am 5), .int (nI st), .int (nI cnt)]) (vp_Si (fun r => True)) 0 0 (fun _ => False) := by
  refine Met.ofW (cc := b_M_sumOf) (maxL := 6) (ret := (some (.int))) (by decide) rfl ?_
  intro P e s m args below meth c0 s₁ B hml hv
  obtain ⟨rfl, hP, hK, hN⟩ := hv
  have hx := B.exec
  have hb := B.bytes
  have hr := B.returns
  have hts := atoms_spec (ws := w_M_sumOf) B.pre
  have hown : s.vm.findClass R_M = some m.cls := findClass_of_methodNamed B.named
  have hlocks := B.notSynchronized
  have hl := lv_entry ([.ref (am 0), .ref (am 5), .int (nI st), .int (nI cnt)]) (n := 6) (Nat.le_of_ble_eq_true rfl)
  rw [lg_entry_eq]
  generalize (lg_sl ([.ref (am 0), .ref (am 5), .int (nI st), .int (nI cnt)]) ++ List.replicate (6 - (lg_sl ([.ref (am 0), .ref (am 5), .int (nI st), .int (nI cnt)])).length) Slot.unset).toArray = ls at hl ⊢
  have hl : lv_has ls 6 [(0, .ref (am 0)), (1, .ref (am 5)), (2, .int (nI st)), (3, .int (nI cnt))] := hl
  refine lv_sipush (v := nI 7989) hx hb d_M_sumOf_0 (by decide) ?_
  refine lv_istore hx hb d_M_sumOf_3 hl (by decide) rfl (fun ls hl => ?_)
  have hl : lv_has ls 6 [(4, .int (nI 7989)), (0, .ref (am 0)), (1, .ref (am 5)), (2, .int (nI st)), (3, .int (nI cnt))] := hl
  refine lv_iconst (v := nI 0) hx hb d_M_sumOf_5 (by decide) ?_
  refine lv_istore hx hb d_M_sumOf_6 hl (by decide) rfl (fun ls hl => ?_)
  have hl : lv_has ls 6 [(5, .int (nI 0)), (4, .int (nI 7989)), (0, .ref (am 0)), (1, .ref (am 5)), (2, .int (nI st)), (3, .int (nI cnt))] := hl
  have lp8 : ∀ (n : Nat) (k : Nat) (x : Int32) (ls : Array Slot), (cnt - k) < n → (k ≤ cnt) → lv_has ls 6 [(0, .ref (am 0)), (1, .ref (am 5)), (2, .int (nI st)), (3, .int (nI cnt)), (4, .int x), (5, .int (nI k))] → W P l e (headSpec w_M_sumOf ({ frames := 1, cells := 0, slots := 0, locals := 22 })).room s m (([.ref (am 0), .ref (am 5), .int (nI st), .int (nI cnt)] : List Value).toArray) below meth c0 s.heap [] 0 0 (MQ below (vp_Si (fun r => True)) (([.ref (am 0), .ref (am 5), .int (nI st), .int (nI cnt)] : List Value).toArray) s 0 0 (fun _ => False)) (F0 m 8 ls []) := by
    intro n
    induction n with
    | zero => intro k x ls hm; intros; omega
    | succ n ih8 =>
      intro k x ls hm hk hl
      refine lv_iload hx hb d_M_sumOf_8 (lv_at hl 5 rfl) ?_
      refine lv_iload_n hx hb d_M_sumOf_10 rfl (lv_at hl 3 rfl) ?_
      refine lv_icmp_ge (tgt := 33) hx hb d_M_sumOf_11 (by decide) (fun c11 => ?_) (fun c11 => ?_)
      ·
        have c11 := cd_ge_t (by omega) (by omega) c11
        refine lv_iload hx hb d_M_sumOf_33 (lv_at hl 4 rfl) ?_
        exact W.iret (v := x) hx hb hr (fun t ht hW => ⟨x, rfl, by first | rfl | trivial | omega, ht⟩) (fun q hq => by cases hq) d_M_sumOf_35
      ·
        have c11 := cd_ge_f (by omega) (by omega) c11
        refine lv_iload hx hb d_M_sumOf_14 (lv_at hl 4 rfl) ?_
        refine lv_aload_n hx hb d_M_sumOf_16 rfl (lv_at hl 1 rfl) ?_
        refine lv_iload_n hx hb d_M_sumOf_17 rfl (lv_at hl 2 rfl) ?_
        refine lv_iload hx hb d_M_sumOf_18 (lv_at hl 5 rfl) ?_
        refine lv_iadd hx hb d_M_sumOf_20 ?_
        refine tp_i (y := nI (st + k)) (nI_add _ _) ?_
        refine va_iald hx hb hK hP 5 4 rfl rfl (vp_in_nI (by omega) (by decide)) d_M_sumOf_21 ?_
        refine tp_i (y := mlog (st + k)) (by rw [nI_clamp (by omega)]) ?_
        refine vp_callSi (va_runS (As := [.int x, .int (mlog (st + k))]) (rest := []) ⟨hx, hb, hml, hown, hts⟩ (c_M_more l dC dI x (mlog (st + k)) ) (cwS 2 hts (g_S t_804 t_805 t_6 t_806) rfl rfl rfl (by decide +kernel) ⟨by decide, by decide⟩) (xR_s (va_P.sub hP [] rfl) (hK.sub [] rfl) hN) rfl rfl hl.1 rfl (lv_room (Nat.le_of_ble_eq_true rfl)) d_M_sumOf_22 ⟨Nat.le_refl _, Nat.le_refl _⟩).run (fun r22 q22 => ?_)
        have hk22 := q22
        refine lv_istore hx hb d_M_sumOf_25 hl (by decide) rfl (fun ls hl => ?_)
        have hl : lv_has ls 6 [(4, .int r22), (0, .ref (am 0)), (1, .ref (am 5)), (2, .int (nI st)), (3, .int (nI cnt)), (5, .int (nI k))] := hl
        refine lv_iinc (k := 5) (v := nI (k + 1)) hx hb d_M_sumOf_27 hl rfl (nI_1 _) (by decide) rfl (fun ls hl => ?_)
        have hl : lv_has ls 6 [(5, .int (nI (k + 1))), (4, .int r22), (0, .ref (am 0)), (1, .ref (am 5)), (2, .int (nI st)), (3, .int (nI cnt))] := hl
        refine lv_goto (tgt := 8) hx hb d_M_sumOf_30 (by decide) ?_
        exact ih8 (k + 1) r22 ls (by omega) (by omega) (lv_sub hl [2, 3, 4, 5, 1, 0] rfl)
  exact lp8 _ 0 (nI 7989) ls (Nat.lt_succ_self _) (by omega) (lv_sub hl [2, 3, 4, 5, 1, 0] rfl)
set_option maxHeartbeats 4000000 in
set_option maxRecDepth 100000 in
theorem c_M_isFree (l : Launch) (dC : Nat → ClassId) (dI : Nat → Nat → Nat) (am cm : Nat → Nat) (th : Int32) (mw mwr mfl mact : Nat → Int32) (on cut mrec : Int32) (mlog mlive had : Nat → Int32) (mser mcur mrd mwt worn : Int32) (pg : Nat → Int32) (pla sou fou : Int32) (pa : Nat) (hp : pa < 32) : Met l y_M_isFree w_M_isFree ({ frames := 0, cells := 0, slots := 0, locals := 0 }) (xR (dC, dI) vwCl (mt cm) (mw_ am cm th mw mwr mfl mact on cut mrec mlog mlive had mser mcur mrd mwt worn pg pla sou fou) [.ref (am 0), .int (nI pa)]) (vp_Si (fun r => (r = nI 1 ∧ fp mw pa) ∨ (r = nI 0 ∧ ¬ fp mw pa))) 0 0 (fun _ => False) := by
  refine Met.ofW (cc := b_M_isFree) (maxL := 4) (ret := (some (.boolean))) (by decide) rfl ?_
  intro P e s m args below meth c0 s₁ B hml hv
  obtain ⟨rfl, hP, hK, hN⟩ := hv
  have hx := B.exec
  have hb := B.bytes
  have hr := B.returns
  have hts := atoms_spec (ws := w_M_isFree) B.pre
  have hown : s.vm.findClass R_M = some m.cls := findClass_of_methodNamed B.named
  have hlocks := B.notSynchronized
  have hl := lv_entry ([.ref (am 0), .int (nI pa)]) (n := 4) (Nat.le_of_ble_eq_true rfl)
  rw [lg_entry_eq]
  generalize (lg_sl ([.ref (am 0), .int (nI pa)]) ++ List.replicate (4 - (lg_sl ([.ref (am 0), .int (nI pa)])).length) Slot.unset).toArray = ls at hl ⊢
  have hl : lv_has ls 4 [(0, .ref (am 0)), (1, .int (nI pa))] := hl
  refine lv_iconst (v := nI 1) hx hb d_M_isFree_0 (by decide) ?_
  refine lv_istore_n hx hb d_M_isFree_1 rfl hl (by decide) rfl (fun ls hl => ?_)
  have hl : lv_has ls 4 [(2, .int (nI 1)), (0, .ref (am 0)), (1, .int (nI pa))] := hl
  refine lv_iconst (v := nI 0) hx hb d_M_isFree_2 (by decide) ?_
  refine lv_istore_n hx hb d_M_isFree_3 rfl hl (by decide) rfl (fun ls hl => ?_)
  have hl : lv_has ls 4 [(3, .int (nI 0)), (2, .int (nI 1)), (0, .ref (am 0)), (1, .int (nI pa))] := hl
  have lp4 : ∀ (n : Nat) (k : Nat) (fv : Int32) (ls : Array Slot), (16 - k) < n → (k ≤ 16) → ((fv = nI 1 ∧ ∀ i, i < k → mw (16 * pa + i) = -1) ∨ (fv = nI 0 ∧ ¬ ∀ i, i < k → mw (16 * pa + i) = -1)) → lv_has ls 4 [(0, .ref (am 0)), (1, .int (nI pa)), (2, .int fv), (3, .int (nI k))] → W P l e (headSpec w_M_isFree ({ frames := 0, cells := 0, slots := 0, locals := 0 })).room s m (([.ref (am 0), .int (nI pa)] : List Value).toArray) below meth c0 s.heap [] 0 0 (MQ below (vp_Si (fun r => (r = nI 1 ∧ fp mw pa) ∨ (r = nI 0 ∧ ¬ fp mw pa))) (([.ref (am 0), .int (nI pa)] : List Value).toArray) s 0 0 (fun _ => False)) (F0 m 4 ls []) := by
    intro n
    induction n with
    | zero => intro k fv ls hm; intros; omega
    | succ n ih4 =>
      intro k fv ls hm hk hf hl
      refine lv_iload_n hx hb d_M_isFree_4 rfl (lv_at hl 3 rfl) ?_
      refine lv_bipush (v := nI 16) hx hb d_M_isFree_5 (by decide) ?_
      refine lv_icmp_ge (tgt := 41) hx hb d_M_isFree_7 (by decide) (fun c7 => ?_) (fun c7 => ?_)
      ·
        have c7 := cd_ge_t (by omega) (by omega) c7
        refine lv_iload_n hx hb d_M_isFree_41 rfl (lv_at hl 2 rfl) ?_
        obtain rfl : k = 16 := by omega
        exact W.zret (v := fv) hx hb hr (by rcases hf with ⟨h9, -⟩ | ⟨h9, -⟩ <;> rw [h9] <;> rfl) (fun t ht hW => ⟨fv, rfl, hf, ht⟩) (fun q hq => by cases hq) d_M_isFree_42
      ·
        have c7 := cd_ge_f (by omega) (by omega) c7
        rcases hf with ⟨rfl, hf⟩ | ⟨rfl, hf⟩
        ·
          refine lv_iload_n hx hb d_M_isFree_10 rfl (lv_at hl 2 rfl) ?_
          refine lv_if_eq (tgt := 33) hx hb d_M_isFree_11 (by decide) (fun c11 => ?_) (fun c11 => ?_)
          ·
            exact absurd c11 (by decide)
          ·
            refine lv_aload_n hx hb d_M_isFree_14 rfl (lv_at hl 0 rfl) ?_
            refine va_get (D := (dC, dI)) (ci := 5) (v := .ref (am 1)) (C := R_M) (T := F_M) (N := 20) hx hb hts (fun w h => List.mem_cons_of_mem _ (in_M w h)) hown hK hP 0 rfl rfl 1 (by decide) (hts (.fieldLink R_M 7 R_M "chip" "[I") (List.mem_cons_of_mem _ t_713)) (fun _ h9 => h9) rfl d_M_isFree_15 ?_
            refine lv_bipush (v := nI 16) hx hb d_M_isFree_18 (by decide) ?_
            refine lv_iload_n hx hb d_M_isFree_20 rfl (lv_at hl 1 rfl) ?_
            refine lv_imul hx hb d_M_isFree_21 ?_
            refine tp_i (y := nI (16 * pa)) (pk_mul _ _) ?_
            refine lv_iload_n hx hb d_M_isFree_22 rfl (lv_at hl 3 rfl) ?_
            refine lv_iadd hx hb d_M_isFree_23 ?_
            refine tp_i (y := nI ((16 * pa) + k)) (nI_add _ _) ?_
            refine va_iald hx hb hK hP 1 0 rfl rfl (vp_in_nI (by omega) (by decide)) d_M_isFree_24 ?_
            refine tp_i (y := mw ((16 * pa) + k)) (by rw [nI_clamp (by omega)]) ?_
            refine lv_iconst (v := (-1)) hx hb d_M_isFree_25 (by decide) ?_
            refine lv_icmp_ne (tgt := 33) hx hb d_M_isFree_26 (by decide) (fun c26 => ?_) (fun c26 => ?_)
            ·
              refine lv_iconst (v := nI 0) hx hb d_M_isFree_33 (by decide) ?_
              refine lv_istore_n hx hb d_M_isFree_34 rfl hl (by decide) rfl (fun ls hl => ?_)
              have hl : lv_has ls 4 [(2, .int (nI 0)), (0, .ref (am 0)), (1, .int (nI pa)), (3, .int (nI k))] := hl
              refine lv_iinc (k := 3) (v := nI (k + 1)) hx hb d_M_isFree_35 hl rfl (nI_1 _) (by decide) rfl (fun ls hl => ?_)
              have hl : lv_has ls 4 [(3, .int (nI (k + 1))), (2, .int (nI 0)), (0, .ref (am 0)), (1, .int (nI pa))] := hl
              refine lv_goto (tgt := 4) hx hb d_M_isFree_38 (by decide) ?_
              exact ih4 (k + 1) (nI 0) ls (by omega) (by omega) (by first | exact Or.inr ⟨rfl, fun z => c26 (z k (by omega))⟩ | exact Or.inr ⟨rfl, fun z => hf (fun i hi => z i (by omega))⟩) (lv_sub hl [2, 3, 1, 0] rfl)
            ·
              refine lv_iconst (v := nI 1) hx hb d_M_isFree_29 (by decide) ?_
              refine lv_goto (tgt := 34) hx hb d_M_isFree_30 (by decide) ?_
              refine lv_istore_n hx hb d_M_isFree_34 rfl hl (by decide) rfl (fun ls hl => ?_)
              have hl : lv_has ls 4 [(2, .int (nI 1)), (0, .ref (am 0)), (1, .int (nI pa)), (3, .int (nI k))] := hl
              refine lv_iinc (k := 3) (v := nI (k + 1)) hx hb d_M_isFree_35 hl rfl (nI_1 _) (by decide) rfl (fun ls hl => ?_)
              have hl : lv_has ls 4 [(3, .int (nI (k + 1))), (2, .int (nI 1)), (0, .ref (am 0)), (1, .int (nI pa))] := hl
              refine lv_goto (tgt := 4) hx hb d_M_isFree_38 (by decide) ?_
              exact ih4 (k + 1) (nI 1) ls (by omega) (by omega) (Or.inl ⟨rfl, lt_y (P := fun i => mw (16 * pa + i) = -1) hf c26⟩) (lv_sub hl [2, 3, 1, 0] rfl)
        ·
          refine lv_iload_n hx hb d_M_isFree_10 rfl (lv_at hl 2 rfl) ?_
          refine lv_if_eq (tgt := 33) hx hb d_M_isFree_11 (by decide) (fun c11 => ?_) (fun c11 => ?_)
          ·
            refine lv_iconst (v := nI 0) hx hb d_M_isFree_33 (by decide) ?_
            refine lv_istore_n hx hb d_M_isFree_34 rfl hl (by decide) rfl (fun ls hl => ?_)
            have hl : lv_has ls 4 [(2, .int (nI 0)), (0, .ref (am 0)), (1, .int (nI pa)), (3, .int (nI k))] := hl
            refine lv_iinc (k := 3) (v := nI (k + 1)) hx hb d_M_isFree_35 hl rfl (nI_1 _) (by decide) rfl (fun ls hl => ?_)
            have hl : lv_has ls 4 [(3, .int (nI (k + 1))), (2, .int (nI 0)), (0, .ref (am 0)), (1, .int (nI pa))] := hl
            refine lv_goto (tgt := 4) hx hb d_M_isFree_38 (by decide) ?_
            exact ih4 (k + 1) (nI 0) ls (by omega) (by omega) (by first | exact Or.inr ⟨rfl, fun z => c26 (z k (by omega))⟩ | exact Or.inr ⟨rfl, fun z => hf (fun i hi => z i (by omega))⟩) (lv_sub hl [2, 3, 1, 0] rfl)
          ·
            exact absurd c11 (by decide)
  exact lp4 _ 0 (nI 1) ls (Nat.lt_succ_self _) (by omega) (Or.inl ⟨rfl, fun i hi => absurd hi (Nat.not_lt_zero i)⟩) (lv_sub hl [2, 3, 1, 0] rfl)
set_option maxHeartbeats 4000000 in
set_option maxRecDepth 100000 in
theorem c_M_isRight (l : Launch) (dC : Nat → ClassId) (dI : Nat → Nat → Nat) (am cm : Nat → Nat) (th : Int32) (mw mwr mfl mact : Nat → Int32) (on cut mrec : Int32) (mlog mlive had : Nat → Int32) (mser mcur mrd mwt worn : Int32) (pg : Nat → Int32) (pla sou fou : Int32) (pa : Nat) (hp : pa < 32) : Met l y_M_isRight w_M_isRight ({ frames := 2, cells := 0, slots := 0, locals := 47 }) (xR (dC, dI) vwCl (mt cm) (mw_ am cm th mw mwr mfl mact on cut mrec mlog mlive had mser mcur mrd mwt worn pg pla sou fou) [.ref (am 0), .int (nI pa)]) (vp_Si (fun r => (r = nI 1 ∧ RT mw pa) ∨ r = nI 0)) 0 0 (fun _ => False) := by
  refine Met.ofW (cc := b_M_isRight) (maxL := 3) (ret := (some (.boolean))) (by decide) rfl ?_
  intro P e s m args below meth c0 s₁ B hml hv
  obtain ⟨rfl, hP, hK, hN⟩ := hv
  have hx := B.exec
  have hb := B.bytes
  have hr := B.returns
  have hts := atoms_spec (ws := w_M_isRight) B.pre
  have hown : s.vm.findClass R_M = some m.cls := findClass_of_methodNamed B.named
  have hlocks := B.notSynchronized
  have hl := lv_entry ([.ref (am 0), .int (nI pa)]) (n := 3) (Nat.le_of_ble_eq_true rfl)
  rw [lg_entry_eq]
  generalize (lg_sl ([.ref (am 0), .int (nI pa)]) ++ List.replicate (3 - (lg_sl ([.ref (am 0), .int (nI pa)])).length) Slot.unset).toArray = ls at hl ⊢
  have hl : lv_has ls 3 [(0, .ref (am 0)), (1, .int (nI pa))] := hl
  refine lv_aload_n hx hb d_M_isRight_0 rfl (lv_at hl 0 rfl) ?_
  refine va_get (D := (dC, dI)) (ci := 5) (v := .ref (am 1)) (C := R_M) (T := F_M) (N := 20) hx hb hts (fun w h => List.mem_cons_of_mem _ (in_M w h)) hown hK hP 0 rfl rfl 1 (by decide) (hts (.fieldLink R_M 7 R_M "chip" "[I") (List.mem_cons_of_mem _ t_713)) (fun _ h9 => h9) rfl d_M_isRight_1 ?_
  refine lv_bipush (v := nI 16) hx hb d_M_isRight_4 (by decide) ?_
  refine lv_iload_n hx hb d_M_isRight_6 rfl (lv_at hl 1 rfl) ?_
  refine lv_imul hx hb d_M_isRight_7 ?_
  refine tp_i (y := nI (16 * pa)) (pk_mul _ _) ?_
  refine va_iald hx hb hK hP 1 0 rfl rfl (vp_in_nI (by omega) (by decide)) d_M_isRight_8 ?_
  refine tp_i (y := mw (16 * pa)) (by rw [nI_clamp (by omega)]) ?_
  refine lv_istore_n hx hb d_M_isRight_9 rfl hl (by decide) rfl (fun ls hl => ?_)
  have hl : lv_has ls 3 [(2, .int (mw (16 * pa))), (0, .ref (am 0)), (1, .int (nI pa))] := hl
  refine lv_iload_n hx hb d_M_isRight_10 rfl (lv_at hl 0 rfl) ?_
  refine lv_if_lt (tgt := 76) hx hb d_M_isRight_11 (by decide) (fun c11 => ?_) (fun c11 => ?_)
  ·
    refine lv_iconst (v := nI 0) hx hb d_M_isRight_76 (by decide) ?_
    exact W.zret (v := nI 0) hx hb hr (by first | rfl | decide | assumption) (fun t ht hW => ⟨nI 0, rfl, Or.inr rfl, ht⟩) (fun q hq => by cases hq) d_M_isRight_77
  ·
    refine lv_iload_n hx hb d_M_isRight_14 rfl (lv_at hl 0 rfl) ?_
    refine lv_bipush (v := nI 64) hx hb d_M_isRight_15 (by decide) ?_
    refine lv_icmp_ge (tgt := 76) hx hb d_M_isRight_17 (by decide) (fun c17 => ?_) (fun c17 => ?_)
    ·
      refine lv_iconst (v := nI 0) hx hb d_M_isRight_76 (by decide) ?_
      exact W.zret (v := nI 0) hx hb hr (by first | rfl | decide | assumption) (fun t ht hW => ⟨nI 0, rfl, Or.inr rfl, ht⟩) (fun q hq => by cases hq) d_M_isRight_77
    ·
      obtain ⟨h, hh, eh⟩ : ∃ h : Nat, h < 64 ∧ mw (16 * pa) = nI h := rest_ix (Int32.not_lt.mp c11) c17 (by decide)
      rw [eh] at hl
      refine lv_iload_n hx hb d_M_isRight_20 rfl (lv_at hl 0 rfl) ?_
      refine lv_iconst (v := nI 4) hx hb d_M_isRight_21 (by decide) ?_
      refine lv_irem hx hb d_M_isRight_22 (by decide) ?_
      refine tp_i (y := nI (h % 4)) (pk_rem (by omega) (by omega) (by omega)) ?_
      refine lv_if_le (tgt := 76) hx hb d_M_isRight_23 (by decide) (fun c23 => ?_) (fun c23 => ?_)
      ·
        have c23 := cz_le_t (by omega) c23
        refine lv_iconst (v := nI 0) hx hb d_M_isRight_76 (by decide) ?_
        exact W.zret (v := nI 0) hx hb hr (by first | rfl | decide | assumption) (fun t ht hW => ⟨nI 0, rfl, Or.inr rfl, ht⟩) (fun q hq => by cases hq) d_M_isRight_77
      ·
        have c23 := cz_le_f (by omega) c23
        refine lv_aload_n hx hb d_M_isRight_26 rfl (lv_at hl 1 rfl) ?_
        refine va_get (D := (dC, dI)) (ci := 5) (v := .ref (am 1)) (C := R_M) (T := F_M) (N := 20) hx hb hts (fun w h => List.mem_cons_of_mem _ (in_M w h)) hown hK hP 0 rfl rfl 1 (by decide) (hts (.fieldLink R_M 7 R_M "chip" "[I") (List.mem_cons_of_mem _ t_713)) (fun _ h9 => h9) rfl d_M_isRight_27 ?_
        refine lv_bipush (v := nI 16) hx hb d_M_isRight_30 (by decide) ?_
        refine lv_iload_n hx hb d_M_isRight_32 rfl (lv_at hl 2 rfl) ?_
        refine lv_imul hx hb d_M_isRight_33 ?_
        refine tp_i (y := nI (16 * pa)) (pk_mul _ _) ?_
        refine lv_bipush (v := nI 15) hx hb d_M_isRight_34 (by decide) ?_
        refine lv_iadd hx hb d_M_isRight_36 ?_
        refine tp_i (y := nI ((16 * pa) + 15)) (nI_add _ _) ?_
        refine va_iald hx hb hK hP 1 0 rfl rfl (vp_in_nI (by omega) (by decide)) d_M_isRight_37 ?_
        refine tp_i (y := mw ((16 * pa) + 15)) (by rw [nI_clamp (by omega)]) ?_
        refine lv_ldc (v := nI 1515870810) hx hb hown (hts (.constant R_M 75 1515870810) (List.mem_cons_of_mem _ t_848)) d_M_isRight_38 ?_
        refine lv_icmp_ne (tgt := 76) hx hb d_M_isRight_40 (by decide) (fun c40 => ?_) (fun c40 => ?_)
        ·
          refine lv_iconst (v := nI 0) hx hb d_M_isRight_76 (by decide) ?_
          exact W.zret (v := nI 0) hx hb hr (by first | rfl | decide | assumption) (fun t ht hW => ⟨nI 0, rfl, Or.inr rfl, ht⟩) (fun q hq => by cases hq) d_M_isRight_77
        ·
          refine lv_aload_n hx hb d_M_isRight_43 rfl (lv_at hl 1 rfl) ?_
          refine va_get (D := (dC, dI)) (ci := 5) (v := .ref (am 1)) (C := R_M) (T := F_M) (N := 20) hx hb hts (fun w h => List.mem_cons_of_mem _ (in_M w h)) hown hK hP 0 rfl rfl 1 (by decide) (hts (.fieldLink R_M 7 R_M "chip" "[I") (List.mem_cons_of_mem _ t_713)) (fun _ h9 => h9) rfl d_M_isRight_44 ?_
          refine lv_bipush (v := nI 16) hx hb d_M_isRight_47 (by decide) ?_
          refine lv_iload_n hx hb d_M_isRight_49 rfl (lv_at hl 2 rfl) ?_
          refine lv_imul hx hb d_M_isRight_50 ?_
          refine tp_i (y := nI (16 * pa)) (pk_mul _ _) ?_
          refine lv_bipush (v := nI 14) hx hb d_M_isRight_51 (by decide) ?_
          refine lv_iadd hx hb d_M_isRight_53 ?_
          refine tp_i (y := nI ((16 * pa) + 14)) (nI_add _ _) ?_
          refine va_iald hx hb hK hP 1 0 rfl rfl (vp_in_nI (by omega) (by decide)) d_M_isRight_54 ?_
          refine tp_i (y := mw ((16 * pa) + 14)) (by rw [nI_clamp (by omega)]) ?_
          refine lv_aload_n hx hb d_M_isRight_55 rfl (lv_at hl 1 rfl) ?_
          refine lv_aload_n hx hb d_M_isRight_56 rfl (lv_at hl 1 rfl) ?_
          refine va_get (D := (dC, dI)) (ci := 5) (v := .ref (am 1)) (C := R_M) (T := F_M) (N := 20) hx hb hts (fun w h => List.mem_cons_of_mem _ (in_M w h)) hown hK hP 0 rfl rfl 1 (by decide) (hts (.fieldLink R_M 7 R_M "chip" "[I") (List.mem_cons_of_mem _ t_713)) (fun _ h9 => h9) rfl d_M_isRight_57 ?_
          refine lv_bipush (v := nI 16) hx hb d_M_isRight_60 (by decide) ?_
          refine lv_iload_n hx hb d_M_isRight_62 rfl (lv_at hl 2 rfl) ?_
          refine lv_imul hx hb d_M_isRight_63 ?_
          refine tp_i (y := nI (16 * pa)) (pk_mul _ _) ?_
          refine lv_bipush (v := nI 14) hx hb d_M_isRight_64 (by decide) ?_
          refine vp_callSi (va_runV (C := R_M) (As := [.ref (am 1), .int (nI (16 * pa)), .int (nI 14)]) (rest := [.int (mw ((16 * pa) + 14))]) ⟨hx, hb, hml, hown, hts⟩ (c_M_sumOf_c l dC dI am cm th mw mwr mfl mact on cut mrec mlog mlive had mser mcur mrd mwt worn pg pla sou fou (16 * pa) 14 (by first | omega | rfl | assumption | decide)) (cwV 3 hts (g_V t_800 t_802 s_24 t_6 t_803) rfl rfl rfl (by decide +kernel) ⟨by decide, by decide⟩) (xR_v hP hK hN 0 rfl rfl) rfl rfl hl.1 rfl (lv_room (Nat.le_of_ble_eq_true rfl)) d_M_isRight_66 ⟨Nat.le_refl _, Nat.le_refl _⟩).run (fun r66 q66 => ?_)
          refine lv_icmp_ne (tgt := 76) hx hb d_M_isRight_69 (by decide) (fun c69 => ?_) (fun c69 => ?_)
          ·
            refine lv_iconst (v := nI 0) hx hb d_M_isRight_76 (by decide) ?_
            exact W.zret (v := nI 0) hx hb hr (by first | rfl | decide | assumption) (fun t ht hW => ⟨nI 0, rfl, Or.inr rfl, ht⟩) (fun q hq => by cases hq) d_M_isRight_77
          ·
            refine lv_iconst (v := nI 1) hx hb d_M_isRight_72 (by decide) ?_
            refine lv_goto (tgt := 77) hx hb d_M_isRight_73 (by decide) ?_
            exact W.zret (v := nI 1) hx hb hr (by first | rfl | decide | assumption) (fun t ht hW => ⟨nI 1, rfl, Or.inl ⟨rfl, h, hh, by omega, eh⟩, ht⟩) (fun q hq => by cases hq) d_M_isRight_77
set_option maxHeartbeats 4000000 in
set_option maxRecDepth 100000 in
theorem c_M_isLive (l : Launch) (dC : Nat → ClassId) (dI : Nat → Nat → Nat) (am cm : Nat → Nat) (th : Int32) (mw mwr mfl mact : Nat → Int32) (on cut mrec : Int32) (mlog mlive had : Nat → Int32) (mser mcur mrd mwt worn : Int32) (pg : Nat → Int32) (pla sou fou : Int32) (pa : Nat) (hp : pa < 32) : Met l y_M_isLive w_M_isLive ({ frames := 0, cells := 0, slots := 0, locals := 0 }) (xR (dC, dI) vwCl (mt cm) (mw_ am cm th mw mwr mfl mact on cut mrec mlog mlive had mser mcur mrd mwt worn pg pla sou fou) [.ref (am 0), .int (nI pa)]) (vp_Si (fun r => (r = nI 1 ∧ ∃ i, i < 16 ∧ mlive i = nI pa) ∨ (r = nI 0 ∧ ∀ i, i < 16 → mlive i ≠ nI pa))) 0 0 (fun _ => False) := by
  refine Met.ofW (cc := b_M_isLive) (maxL := 4) (ret := (some (.boolean))) (by decide) rfl ?_
  intro P e s m args below meth c0 s₁ B hml hv
  obtain ⟨rfl, hP, hK, hN⟩ := hv
  have hx := B.exec
  have hb := B.bytes
  have hr := B.returns
  have hts := atoms_spec (ws := w_M_isLive) B.pre
  have hown : s.vm.findClass R_M = some m.cls := findClass_of_methodNamed B.named
  have hlocks := B.notSynchronized
  have hl := lv_entry ([.ref (am 0), .int (nI pa)]) (n := 4) (Nat.le_of_ble_eq_true rfl)
  rw [lg_entry_eq]
  generalize (lg_sl ([.ref (am 0), .int (nI pa)]) ++ List.replicate (4 - (lg_sl ([.ref (am 0), .int (nI pa)])).length) Slot.unset).toArray = ls at hl ⊢
  have hl : lv_has ls 4 [(0, .ref (am 0)), (1, .int (nI pa))] := hl
  refine lv_iconst (v := nI 0) hx hb d_M_isLive_0 (by decide) ?_
  refine lv_istore_n hx hb d_M_isLive_1 rfl hl (by decide) rfl (fun ls hl => ?_)
  have hl : lv_has ls 4 [(2, .int (nI 0)), (0, .ref (am 0)), (1, .int (nI pa))] := hl
  refine lv_iconst (v := nI 0) hx hb d_M_isLive_2 (by decide) ?_
  refine lv_istore_n hx hb d_M_isLive_3 rfl hl (by decide) rfl (fun ls hl => ?_)
  have hl : lv_has ls 4 [(3, .int (nI 0)), (2, .int (nI 0)), (0, .ref (am 0)), (1, .int (nI pa))] := hl
  have lp4 : ∀ (n : Nat) (k : Nat) (fv : Int32) (ls : Array Slot), (16 - k) < n → (k ≤ 16) → ((fv = nI 1 ∧ ∃ i, i < k ∧ mlive i = nI pa) ∨ (fv = nI 0 ∧ ∀ i, i < k → mlive i ≠ nI pa)) → lv_has ls 4 [(0, .ref (am 0)), (1, .int (nI pa)), (2, .int fv), (3, .int (nI k))] → W P l e (headSpec w_M_isLive ({ frames := 0, cells := 0, slots := 0, locals := 0 })).room s m (([.ref (am 0), .int (nI pa)] : List Value).toArray) below meth c0 s.heap [] 0 0 (MQ below (vp_Si (fun r => (r = nI 1 ∧ ∃ i, i < 16 ∧ mlive i = nI pa) ∨ (r = nI 0 ∧ ∀ i, i < 16 → mlive i ≠ nI pa))) (([.ref (am 0), .int (nI pa)] : List Value).toArray) s 0 0 (fun _ => False)) (F0 m 4 ls []) := by
    intro n
    induction n with
    | zero => intro k fv ls hm; intros; omega
    | succ n ih4 =>
      intro k fv ls hm hk hf hl
      refine lv_iload_n hx hb d_M_isLive_4 rfl (lv_at hl 3 rfl) ?_
      refine lv_bipush (v := nI 16) hx hb d_M_isLive_5 (by decide) ?_
      refine lv_icmp_ge (tgt := 36) hx hb d_M_isLive_7 (by decide) (fun c7 => ?_) (fun c7 => ?_)
      ·
        have c7 := cd_ge_t (by omega) (by omega) c7
        refine lv_iload_n hx hb d_M_isLive_36 rfl (lv_at hl 2 rfl) ?_
        obtain rfl : k = 16 := by omega
        exact W.zret (v := fv) hx hb hr (by rcases hf with ⟨h9, -⟩ | ⟨h9, -⟩ <;> rw [h9] <;> rfl) (fun t ht hW => ⟨fv, rfl, hf, ht⟩) (fun q hq => by cases hq) d_M_isLive_37
      ·
        have c7 := cd_ge_f (by omega) (by omega) c7
        rcases hf with ⟨rfl, hf⟩ | ⟨rfl, hf⟩
        ·
          refine lv_iload_n hx hb d_M_isLive_10 rfl (lv_at hl 2 rfl) ?_
          refine lv_if_ne (tgt := 24) hx hb d_M_isLive_11 (by decide) (fun c11 => ?_) (fun c11 => ?_)
          ·
            refine lv_iconst (v := nI 1) hx hb d_M_isLive_24 (by decide) ?_
            refine lv_goto (tgt := 29) hx hb d_M_isLive_25 (by decide) ?_
            refine lv_istore_n hx hb d_M_isLive_29 rfl hl (by decide) rfl (fun ls hl => ?_)
            have hl : lv_has ls 4 [(2, .int (nI 1)), (0, .ref (am 0)), (1, .int (nI pa)), (3, .int (nI k))] := hl
            refine lv_iinc (k := 3) (v := nI (k + 1)) hx hb d_M_isLive_30 hl rfl (nI_1 _) (by decide) rfl (fun ls hl => ?_)
            have hl : lv_has ls 4 [(3, .int (nI (k + 1))), (2, .int (nI 1)), (0, .ref (am 0)), (1, .int (nI pa))] := hl
            refine lv_goto (tgt := 4) hx hb d_M_isLive_33 (by decide) ?_
            exact ih4 (k + 1) (nI 1) ls (by omega) (by omega) (by first | exact Or.inl ⟨rfl, k, by omega, c21⟩ | exact Or.inl ⟨rfl, hf.imp (fun i hi => ⟨by omega, hi.2⟩)⟩) (lv_sub hl [2, 3, 1, 0] rfl)
          ·
            exact absurd c11 (by decide)
        ·
          refine lv_iload_n hx hb d_M_isLive_10 rfl (lv_at hl 2 rfl) ?_
          refine lv_if_ne (tgt := 24) hx hb d_M_isLive_11 (by decide) (fun c11 => ?_) (fun c11 => ?_)
          ·
            exact absurd c11 (by decide)
          ·
            refine lv_aload_n hx hb d_M_isLive_14 rfl (lv_at hl 0 rfl) ?_
            refine va_get (D := (dC, dI)) (ci := 5) (v := .ref (am 6)) (C := R_M) (T := F_M) (N := 20) hx hb hts (fun w h => List.mem_cons_of_mem _ (in_M w h)) hown hK hP 0 rfl rfl 9 (by decide) (hts (.fieldLink R_M 34 R_M "live" "[I") (List.mem_cons_of_mem _ t_721)) (fun _ h9 => h9) rfl d_M_isLive_15 ?_
            refine lv_iload_n hx hb d_M_isLive_18 rfl (lv_at hl 3 rfl) ?_
            refine va_iald hx hb hK hP 6 5 rfl rfl (vp_in_nI (by omega) (by decide)) d_M_isLive_19 ?_
            refine tp_i (y := mlive k) (by rw [nI_clamp (by omega)]) ?_
            refine lv_iload_n hx hb d_M_isLive_20 rfl (lv_at hl 1 rfl) ?_
            refine lv_icmp_ne (tgt := 28) hx hb d_M_isLive_21 (by decide) (fun c21 => ?_) (fun c21 => ?_)
            ·
              refine lv_iconst (v := nI 0) hx hb d_M_isLive_28 (by decide) ?_
              refine lv_istore_n hx hb d_M_isLive_29 rfl hl (by decide) rfl (fun ls hl => ?_)
              have hl : lv_has ls 4 [(2, .int (nI 0)), (0, .ref (am 0)), (1, .int (nI pa)), (3, .int (nI k))] := hl
              refine lv_iinc (k := 3) (v := nI (k + 1)) hx hb d_M_isLive_30 hl rfl (nI_1 _) (by decide) rfl (fun ls hl => ?_)
              have hl : lv_has ls 4 [(3, .int (nI (k + 1))), (2, .int (nI 0)), (0, .ref (am 0)), (1, .int (nI pa))] := hl
              refine lv_goto (tgt := 4) hx hb d_M_isLive_33 (by decide) ?_
              exact ih4 (k + 1) (nI 0) ls (by omega) (by omega) (Or.inr ⟨rfl, lt_n (P := fun i => mlive i = nI pa) hf c21⟩) (lv_sub hl [2, 3, 1, 0] rfl)
            ·
              refine lv_iconst (v := nI 1) hx hb d_M_isLive_24 (by decide) ?_
              refine lv_goto (tgt := 29) hx hb d_M_isLive_25 (by decide) ?_
              refine lv_istore_n hx hb d_M_isLive_29 rfl hl (by decide) rfl (fun ls hl => ?_)
              have hl : lv_has ls 4 [(2, .int (nI 1)), (0, .ref (am 0)), (1, .int (nI pa)), (3, .int (nI k))] := hl
              refine lv_iinc (k := 3) (v := nI (k + 1)) hx hb d_M_isLive_30 hl rfl (nI_1 _) (by decide) rfl (fun ls hl => ?_)
              have hl : lv_has ls 4 [(3, .int (nI (k + 1))), (2, .int (nI 1)), (0, .ref (am 0)), (1, .int (nI pa))] := hl
              refine lv_goto (tgt := 4) hx hb d_M_isLive_33 (by decide) ?_
              exact ih4 (k + 1) (nI 1) ls (by omega) (by omega) (by first | exact Or.inl ⟨rfl, k, by omega, c21⟩ | exact Or.inl ⟨rfl, hf.imp (fun i hi => ⟨by omega, hi.2⟩)⟩) (lv_sub hl [2, 3, 1, 0] rfl)
  exact lp4 _ 0 (nI 0) ls (Nat.lt_succ_self _) (by omega) (Or.inr ⟨rfl, fun i hi => absurd hi (Nat.not_lt_zero i)⟩) (lv_sub hl [2, 3, 1, 0] rfl)
set_option maxHeartbeats 4000000 in
set_option maxRecDepth 100000 in
theorem c_M_firstFree (l : Launch) (dC : Nat → ClassId) (dI : Nat → Nat → Nat) (am cm : Nat → Nat) (th : Int32) (mw mwr mfl mact : Nat → Int32) (on cut mrec : Int32) (mlog mlive had : Nat → Int32) (mser mcur mrd mwt worn : Int32) (pg : Nat → Int32) (pla sou fou : Int32) (b : Nat) (hp : b < 8) : Met l y_M_firstFree w_M_firstFree ({ frames := 1, cells := 0, slots := 0, locals := 23 }) (xR (dC, dI) vwCl (mt cm) (mw_ am cm th mw mwr mfl mact on cut mrec mlog mlive had mser mcur mrd mwt worn pg pla sou fou) [.ref (am 0), .int (nI b)]) (vp_Si (fun r => FF mw b r)) 0 0 (fun _ => False) := by
  refine Met.ofW (cc := b_M_firstFree) (maxL := 3) (ret := (some (.int))) (by decide) rfl ?_
  intro P e s m args below meth c0 s₁ B hml hv
  obtain ⟨rfl, hP, hK, hN⟩ := hv
  have hx := B.exec
  have hb := B.bytes
  have hr := B.returns
  have hts := atoms_spec (ws := w_M_firstFree) B.pre
  have hown : s.vm.findClass R_M = some m.cls := findClass_of_methodNamed B.named
  have hlocks := B.notSynchronized
  have hl := lv_entry ([.ref (am 0), .int (nI b)]) (n := 3) (Nat.le_of_ble_eq_true rfl)
  rw [lg_entry_eq]
  generalize (lg_sl ([.ref (am 0), .int (nI b)]) ++ List.replicate (3 - (lg_sl ([.ref (am 0), .int (nI b)])).length) Slot.unset).toArray = ls at hl ⊢
  have hl : lv_has ls 3 [(0, .ref (am 0)), (1, .int (nI b))] := hl
  refine lv_iconst (v := nI 4) hx hb d_M_firstFree_0 (by decide) ?_
  refine lv_iload_n hx hb d_M_firstFree_1 rfl (lv_at hl 1 rfl) ?_
  refine lv_imul hx hb d_M_firstFree_2 ?_
  refine tp_i (y := nI (4 * b)) (pk_mul _ _) ?_
  refine lv_istore_n hx hb d_M_firstFree_3 rfl hl (by decide) rfl (fun ls hl => ?_)
  have hl : lv_has ls 3 [(2, .int (nI (4 * b))), (0, .ref (am 0)), (1, .int (nI b))] := hl
  have lp4 : ∀ (n : Nat) (k : Nat) (ls : Array Slot), (4 - k) < n → (k ≤ 4) → (∀ i, i < k → ¬ fp mw (4 * b + i)) → lv_has ls 3 [(0, .ref (am 0)), (1, .int (nI b)), (2, .int (nI (4 * b + k)))] → W P l e (headSpec w_M_firstFree ({ frames := 1, cells := 0, slots := 0, locals := 23 })).room s m (([.ref (am 0), .int (nI b)] : List Value).toArray) below meth c0 s.heap [] 0 0 (MQ below (vp_Si (fun r => FF mw b r)) (([.ref (am 0), .int (nI b)] : List Value).toArray) s 0 0 (fun _ => False)) (F0 m 4 ls []) := by
    intro n
    induction n with
    | zero => intro k ls hm; intros; omega
    | succ n ih4 =>
      intro k ls hm hk hf hl
      refine lv_iload_n hx hb d_M_firstFree_4 rfl (lv_at hl 2 rfl) ?_
      refine lv_iconst (v := nI 4) hx hb d_M_firstFree_5 (by decide) ?_
      refine lv_iload_n hx hb d_M_firstFree_6 rfl (lv_at hl 1 rfl) ?_
      refine lv_imul hx hb d_M_firstFree_7 ?_
      refine tp_i (y := nI (4 * b)) (pk_mul _ _) ?_
      refine lv_iconst (v := nI 4) hx hb d_M_firstFree_8 (by decide) ?_
      refine lv_iadd hx hb d_M_firstFree_9 ?_
      refine tp_i (y := nI ((4 * b) + 4)) (nI_add _ _) ?_
      refine lv_icmp_ge (tgt := 29) hx hb d_M_firstFree_10 (by decide) (fun c10 => ?_) (fun c10 => ?_)
      ·
        have c10 := cd_ge_t (by omega) (by omega) c10
        refine lv_iconst (v := (-1)) hx hb d_M_firstFree_29 (by decide) ?_
        exact W.iret (v := (-1)) hx hb hr (fun t ht hW => ⟨(-1), rfl, Or.inr ⟨rfl, fun j hj => hf j (by omega)⟩, ht⟩) (fun q hq => by cases hq) d_M_firstFree_30
      ·
        have c10 := cd_ge_f (by omega) (by omega) c10
        refine lv_aload_n hx hb d_M_firstFree_13 rfl (lv_at hl 0 rfl) ?_
        refine lv_iload_n hx hb d_M_firstFree_14 rfl (lv_at hl 2 rfl) ?_
        refine vp_callSi (va_runV (C := R_M) (As := [.int (nI (4 * b + k))]) (rest := []) ⟨hx, hb, hml, hown, hts⟩ (c_M_isFree l dC dI am cm th mw mwr mfl mact on cut mrec mlog mlive had mser mcur mrd mwt worn pg pla sou fou (4 * b + k) (by first | omega | rfl | assumption | decide)) (cwV 1 hts (g_V t_820 t_822 s_28 t_6 t_823) rfl rfl rfl (by decide +kernel) ⟨by decide, by decide⟩) (xR_v hP hK hN 0 rfl rfl) rfl rfl hl.1 rfl (lv_room (Nat.le_of_ble_eq_true rfl)) d_M_firstFree_15 ⟨Nat.le_refl _, Nat.le_refl _⟩).run (fun r15 q15 => ?_)
        rcases q15 with ⟨rfl, hb15⟩ | ⟨rfl, hb15⟩
        ·
          refine lv_if_eq (tgt := 23) hx hb d_M_firstFree_18 (by decide) (fun c18 => ?_) (fun c18 => ?_)
          ·
            exact absurd c18 (by decide)
          ·
            refine lv_iload_n hx hb d_M_firstFree_21 rfl (lv_at hl 2 rfl) ?_
            exact W.iret (v := nI (4 * b + k)) hx hb hr (fun t ht hW => ⟨nI (4 * b + k), rfl, Or.inl ⟨k, by omega, rfl, hb15, hf⟩, ht⟩) (fun q hq => by cases hq) d_M_firstFree_22
        ·
          refine lv_if_eq (tgt := 23) hx hb d_M_firstFree_18 (by decide) (fun c18 => ?_) (fun c18 => ?_)
          ·
            refine lv_iinc (k := 2) (v := nI ((4 * b + k) + 1)) hx hb d_M_firstFree_23 hl rfl (nI_1 _) (by decide) rfl (fun ls hl => ?_)
            have hl : lv_has ls 3 [(2, .int (nI ((4 * b + k) + 1))), (0, .ref (am 0)), (1, .int (nI b))] := hl
            refine lv_goto (tgt := 4) hx hb d_M_firstFree_26 (by decide) ?_
            exact ih4 (k + 1) ls (by omega) (by omega) (lt_n (P := fun i => fp mw (4 * b + i)) hf hb15) (lv_sub hl [1, 2, 0] rfl)
          ·
            exact absurd c18 (by decide)
  exact lp4 _ 0 ls (Nat.lt_succ_self _) (by omega) (fun i hi => absurd hi (Nat.not_lt_zero i)) (lv_sub hl [1, 2, 0] rfl)
set_option maxHeartbeats 4000000 in
set_option maxRecDepth 100000 in
theorem c_M_isClean (l : Launch) (dC : Nat → ClassId) (dI : Nat → Nat → Nat) (am cm : Nat → Nat) (th : Int32) (mw mwr mfl mact : Nat → Int32) (on cut mrec : Int32) (mlog mlive had : Nat → Int32) (mser mcur mrd mwt worn : Int32) (pg : Nat → Int32) (pla sou fou : Int32) (b : Nat) (hp : b < 8) : Met l y_M_isClean w_M_isClean ({ frames := 1, cells := 0, slots := 0, locals := 23 }) (xR (dC, dI) vwCl (mt cm) (mw_ am cm th mw mwr mfl mact on cut mrec mlog mlive had mser mcur mrd mwt worn pg pla sou fou) [.ref (am 0), .int (nI b)]) (vp_Si (fun r => (r = nI 1 ∧ ∀ j, j < 4 → fp mw (4 * b + j)) ∨ r = nI 0)) 0 0 (fun _ => False) := by
  refine Met.ofW (cc := b_M_isClean) (maxL := 4) (ret := (some (.boolean))) (by decide) rfl ?_
  intro P e s m args below meth c0 s₁ B hml hv
  obtain ⟨rfl, hP, hK, hN⟩ := hv
  have hx := B.exec
  have hb := B.bytes
  have hr := B.returns
  have hts := atoms_spec (ws := w_M_isClean) B.pre
  have hown : s.vm.findClass R_M = some m.cls := findClass_of_methodNamed B.named
  have hlocks := B.notSynchronized
  have hl := lv_entry ([.ref (am 0), .int (nI b)]) (n := 4) (Nat.le_of_ble_eq_true rfl)
  rw [lg_entry_eq]
  generalize (lg_sl ([.ref (am 0), .int (nI b)]) ++ List.replicate (4 - (lg_sl ([.ref (am 0), .int (nI b)])).length) Slot.unset).toArray = ls at hl ⊢
  have hl : lv_has ls 4 [(0, .ref (am 0)), (1, .int (nI b))] := hl
  refine lv_aload_n hx hb d_M_isClean_0 rfl (lv_at hl 0 rfl) ?_
  refine va_get (D := (dC, dI)) (ci := 5) (v := .ref (am 3)) (C := R_M) (T := F_M) (N := 20) hx hb hts (fun w h => List.mem_cons_of_mem _ (in_M w h)) hown hK hP 0 rfl rfl 3 (by decide) (hts (.fieldLink R_M 16 R_M "failed" "[Z") (List.mem_cons_of_mem _ t_715)) (fun _ h9 => h9) rfl d_M_isClean_1 ?_
  refine lv_iload_n hx hb d_M_isClean_4 rfl (lv_at hl 1 rfl) ?_
  refine va_zald hx hb hK hP 3 2 rfl rfl (vp_in_nI (by omega) (by decide)) d_M_isClean_5 ?_
  refine tp_i (y := mfl b) (by rw [nI_clamp (by omega)]) ?_
  refine lv_if_ne (tgt := 13) hx hb d_M_isClean_6 (by decide) (fun c6 => ?_) (fun c6 => ?_)
  ·
    refine lv_iconst (v := nI 0) hx hb d_M_isClean_13 (by decide) ?_
    refine lv_istore_n hx hb d_M_isClean_14 rfl hl (by decide) rfl (fun ls hl => ?_)
    have hl : lv_has ls 4 [(2, .int (nI 0)), (0, .ref (am 0)), (1, .int (nI b))] := hl
    refine lv_iconst (v := nI 4) hx hb d_M_isClean_15 (by decide) ?_
    refine lv_iload_n hx hb d_M_isClean_16 rfl (lv_at hl 2 rfl) ?_
    refine lv_imul hx hb d_M_isClean_17 ?_
    refine tp_i (y := nI (4 * b)) (pk_mul _ _) ?_
    refine lv_istore_n hx hb d_M_isClean_18 rfl hl (by decide) rfl (fun ls hl => ?_)
    have hl : lv_has ls 4 [(3, .int (nI (4 * b))), (2, .int (nI 0)), (0, .ref (am 0)), (1, .int (nI b))] := hl
    have lp19 : ∀ (n : Nat) (k : Nat) (cv : Int32) (ls : Array Slot), (4 - k) < n → (k ≤ 4) → ((cv = nI 1 ∧ ∀ j, j < k → fp mw (4 * b + j)) ∨ cv = nI 0) → lv_has ls 4 [(0, .ref (am 0)), (1, .int (nI b)), (2, .int cv), (3, .int (nI (4 * b + k)))] → W P l e (headSpec w_M_isClean ({ frames := 1, cells := 0, slots := 0, locals := 23 })).room s m (([.ref (am 0), .int (nI b)] : List Value).toArray) below meth c0 s.heap [] 0 0 (MQ below (vp_Si (fun r => (r = nI 1 ∧ ∀ j, j < 4 → fp mw (4 * b + j)) ∨ r = nI 0)) (([.ref (am 0), .int (nI b)] : List Value).toArray) s 0 0 (fun _ => False)) (F0 m 19 ls []) := by
      intro n
      induction n with
      | zero => intro k cv ls hm; intros; omega
      | succ n ih19 =>
        intro k cv ls hm hk hf hl
        refine lv_iload_n hx hb d_M_isClean_19 rfl (lv_at hl 3 rfl) ?_
        refine lv_iconst (v := nI 4) hx hb d_M_isClean_20 (by decide) ?_
        refine lv_iload_n hx hb d_M_isClean_21 rfl (lv_at hl 1 rfl) ?_
        refine lv_imul hx hb d_M_isClean_22 ?_
        refine tp_i (y := nI (4 * b)) (pk_mul _ _) ?_
        refine lv_iconst (v := nI 4) hx hb d_M_isClean_23 (by decide) ?_
        refine lv_iadd hx hb d_M_isClean_24 ?_
        refine tp_i (y := nI ((4 * b) + 4)) (nI_add _ _) ?_
        refine lv_icmp_ge (tgt := 52) hx hb d_M_isClean_25 (by decide) (fun c25 => ?_) (fun c25 => ?_)
        ·
          have c25 := cd_ge_t (by omega) (by omega) c25
          refine lv_iload_n hx hb d_M_isClean_52 rfl (lv_at hl 2 rfl) ?_
          obtain rfl : k = 4 := by omega
          exact W.zret (v := cv) hx hb hr (by rcases hf with ⟨h9, -⟩ | h9 <;> rw [h9] <;> rfl) (fun t ht hW => ⟨cv, rfl, hf, ht⟩) (fun q hq => by cases hq) d_M_isClean_53
        ·
          have c25 := cd_ge_f (by omega) (by omega) c25
          rcases hf with ⟨rfl, hf⟩ | rfl
          ·
            refine lv_iload_n hx hb d_M_isClean_28 rfl (lv_at hl 2 rfl) ?_
            refine lv_if_eq (tgt := 44) hx hb d_M_isClean_29 (by decide) (fun c29 => ?_) (fun c29 => ?_)
            ·
              exact absurd c29 (by decide)
            ·
              refine lv_aload_n hx hb d_M_isClean_32 rfl (lv_at hl 0 rfl) ?_
              refine lv_iload_n hx hb d_M_isClean_33 rfl (lv_at hl 3 rfl) ?_
              refine vp_callSi (va_runV (C := R_M) (As := [.int (nI (4 * b + k))]) (rest := []) ⟨hx, hb, hml, hown, hts⟩ (c_M_isFree l dC dI am cm th mw mwr mfl mact on cut mrec mlog mlive had mser mcur mrd mwt worn pg pla sou fou (4 * b + k) (by first | omega | rfl | assumption | decide)) (cwV 1 hts (g_V t_820 t_822 s_28 t_6 t_823) rfl rfl rfl (by decide +kernel) ⟨by decide, by decide⟩) (xR_v hP hK hN 0 rfl rfl) rfl rfl hl.1 rfl (lv_room (Nat.le_of_ble_eq_true rfl)) d_M_isClean_34 ⟨Nat.le_refl _, Nat.le_refl _⟩).run (fun r34 q34 => ?_)
              rcases q34 with ⟨rfl, hb34⟩ | ⟨rfl, hb34⟩
              ·
                refine lv_if_eq (tgt := 44) hx hb d_M_isClean_37 (by decide) (fun c37 => ?_) (fun c37 => ?_)
                ·
                  exact absurd c37 (by decide)
                ·
                  refine lv_iconst (v := nI 1) hx hb d_M_isClean_40 (by decide) ?_
                  refine lv_goto (tgt := 45) hx hb d_M_isClean_41 (by decide) ?_
                  refine lv_istore_n hx hb d_M_isClean_45 rfl hl (by decide) rfl (fun ls hl => ?_)
                  have hl : lv_has ls 4 [(2, .int (nI 1)), (0, .ref (am 0)), (1, .int (nI b)), (3, .int (nI (4 * b + k)))] := hl
                  refine lv_iinc (k := 3) (v := nI ((4 * b + k) + 1)) hx hb d_M_isClean_46 hl rfl (nI_1 _) (by decide) rfl (fun ls hl => ?_)
                  have hl : lv_has ls 4 [(3, .int (nI ((4 * b + k) + 1))), (2, .int (nI 1)), (0, .ref (am 0)), (1, .int (nI b))] := hl
                  refine lv_goto (tgt := 19) hx hb d_M_isClean_49 (by decide) ?_
                  exact ih19 (k + 1) (nI 1) ls (by omega) (by omega) (Or.inl ⟨rfl, lt_y (P := fun j => fp mw (4 * b + j)) hf hb34⟩) (lv_sub hl [2, 3, 1, 0] rfl)
              ·
                refine lv_if_eq (tgt := 44) hx hb d_M_isClean_37 (by decide) (fun c37 => ?_) (fun c37 => ?_)
                ·
                  refine lv_iconst (v := nI 0) hx hb d_M_isClean_44 (by decide) ?_
                  refine lv_istore_n hx hb d_M_isClean_45 rfl hl (by decide) rfl (fun ls hl => ?_)
                  have hl : lv_has ls 4 [(2, .int (nI 0)), (0, .ref (am 0)), (1, .int (nI b)), (3, .int (nI (4 * b + k)))] := hl
                  refine lv_iinc (k := 3) (v := nI ((4 * b + k) + 1)) hx hb d_M_isClean_46 hl rfl (nI_1 _) (by decide) rfl (fun ls hl => ?_)
                  have hl : lv_has ls 4 [(3, .int (nI ((4 * b + k) + 1))), (2, .int (nI 0)), (0, .ref (am 0)), (1, .int (nI b))] := hl
                  refine lv_goto (tgt := 19) hx hb d_M_isClean_49 (by decide) ?_
                  exact ih19 (k + 1) (nI 0) ls (by omega) (by omega) (Or.inr rfl) (lv_sub hl [2, 3, 1, 0] rfl)
                ·
                  exact absurd c37 (by decide)
          ·
            refine lv_iload_n hx hb d_M_isClean_28 rfl (lv_at hl 2 rfl) ?_
            refine lv_if_eq (tgt := 44) hx hb d_M_isClean_29 (by decide) (fun c29 => ?_) (fun c29 => ?_)
            ·
              refine lv_iconst (v := nI 0) hx hb d_M_isClean_44 (by decide) ?_
              refine lv_istore_n hx hb d_M_isClean_45 rfl hl (by decide) rfl (fun ls hl => ?_)
              have hl : lv_has ls 4 [(2, .int (nI 0)), (0, .ref (am 0)), (1, .int (nI b)), (3, .int (nI (4 * b + k)))] := hl
              refine lv_iinc (k := 3) (v := nI ((4 * b + k) + 1)) hx hb d_M_isClean_46 hl rfl (nI_1 _) (by decide) rfl (fun ls hl => ?_)
              have hl : lv_has ls 4 [(3, .int (nI ((4 * b + k) + 1))), (2, .int (nI 0)), (0, .ref (am 0)), (1, .int (nI b))] := hl
              refine lv_goto (tgt := 19) hx hb d_M_isClean_49 (by decide) ?_
              exact ih19 (k + 1) (nI 0) ls (by omega) (by omega) (Or.inr rfl) (lv_sub hl [2, 3, 1, 0] rfl)
            ·
              exact absurd c29 (by decide)
    exact lp19 _ 0 (nI 0) ls (Nat.lt_succ_self _) (by omega) (Or.inr rfl) (lv_sub hl [2, 3, 1, 0] rfl)
  ·
    refine lv_iconst (v := nI 1) hx hb d_M_isClean_9 (by decide) ?_
    refine lv_goto (tgt := 14) hx hb d_M_isClean_10 (by decide) ?_
    refine lv_istore_n hx hb d_M_isClean_14 rfl hl (by decide) rfl (fun ls hl => ?_)
    have hl : lv_has ls 4 [(2, .int (nI 1)), (0, .ref (am 0)), (1, .int (nI b))] := hl
    refine lv_iconst (v := nI 4) hx hb d_M_isClean_15 (by decide) ?_
    refine lv_iload_n hx hb d_M_isClean_16 rfl (lv_at hl 2 rfl) ?_
    refine lv_imul hx hb d_M_isClean_17 ?_
    refine tp_i (y := nI (4 * b)) (pk_mul _ _) ?_
    refine lv_istore_n hx hb d_M_isClean_18 rfl hl (by decide) rfl (fun ls hl => ?_)
    have hl : lv_has ls 4 [(3, .int (nI (4 * b))), (2, .int (nI 1)), (0, .ref (am 0)), (1, .int (nI b))] := hl
    have lp19 : ∀ (n : Nat) (k : Nat) (cv : Int32) (ls : Array Slot), (4 - k) < n → (k ≤ 4) → ((cv = nI 1 ∧ ∀ j, j < k → fp mw (4 * b + j)) ∨ cv = nI 0) → lv_has ls 4 [(0, .ref (am 0)), (1, .int (nI b)), (2, .int cv), (3, .int (nI (4 * b + k)))] → W P l e (headSpec w_M_isClean ({ frames := 1, cells := 0, slots := 0, locals := 23 })).room s m (([.ref (am 0), .int (nI b)] : List Value).toArray) below meth c0 s.heap [] 0 0 (MQ below (vp_Si (fun r => (r = nI 1 ∧ ∀ j, j < 4 → fp mw (4 * b + j)) ∨ r = nI 0)) (([.ref (am 0), .int (nI b)] : List Value).toArray) s 0 0 (fun _ => False)) (F0 m 19 ls []) := by
      intro n
      induction n with
      | zero => intro k cv ls hm; intros; omega
      | succ n ih19 =>
        intro k cv ls hm hk hf hl
        refine lv_iload_n hx hb d_M_isClean_19 rfl (lv_at hl 3 rfl) ?_
        refine lv_iconst (v := nI 4) hx hb d_M_isClean_20 (by decide) ?_
        refine lv_iload_n hx hb d_M_isClean_21 rfl (lv_at hl 1 rfl) ?_
        refine lv_imul hx hb d_M_isClean_22 ?_
        refine tp_i (y := nI (4 * b)) (pk_mul _ _) ?_
        refine lv_iconst (v := nI 4) hx hb d_M_isClean_23 (by decide) ?_
        refine lv_iadd hx hb d_M_isClean_24 ?_
        refine tp_i (y := nI ((4 * b) + 4)) (nI_add _ _) ?_
        refine lv_icmp_ge (tgt := 52) hx hb d_M_isClean_25 (by decide) (fun c25 => ?_) (fun c25 => ?_)
        ·
          have c25 := cd_ge_t (by omega) (by omega) c25
          refine lv_iload_n hx hb d_M_isClean_52 rfl (lv_at hl 2 rfl) ?_
          obtain rfl : k = 4 := by omega
          exact W.zret (v := cv) hx hb hr (by rcases hf with ⟨h9, -⟩ | h9 <;> rw [h9] <;> rfl) (fun t ht hW => ⟨cv, rfl, hf, ht⟩) (fun q hq => by cases hq) d_M_isClean_53
        ·
          have c25 := cd_ge_f (by omega) (by omega) c25
          rcases hf with ⟨rfl, hf⟩ | rfl
          ·
            refine lv_iload_n hx hb d_M_isClean_28 rfl (lv_at hl 2 rfl) ?_
            refine lv_if_eq (tgt := 44) hx hb d_M_isClean_29 (by decide) (fun c29 => ?_) (fun c29 => ?_)
            ·
              exact absurd c29 (by decide)
            ·
              refine lv_aload_n hx hb d_M_isClean_32 rfl (lv_at hl 0 rfl) ?_
              refine lv_iload_n hx hb d_M_isClean_33 rfl (lv_at hl 3 rfl) ?_
              refine vp_callSi (va_runV (C := R_M) (As := [.int (nI (4 * b + k))]) (rest := []) ⟨hx, hb, hml, hown, hts⟩ (c_M_isFree l dC dI am cm th mw mwr mfl mact on cut mrec mlog mlive had mser mcur mrd mwt worn pg pla sou fou (4 * b + k) (by first | omega | rfl | assumption | decide)) (cwV 1 hts (g_V t_820 t_822 s_28 t_6 t_823) rfl rfl rfl (by decide +kernel) ⟨by decide, by decide⟩) (xR_v hP hK hN 0 rfl rfl) rfl rfl hl.1 rfl (lv_room (Nat.le_of_ble_eq_true rfl)) d_M_isClean_34 ⟨Nat.le_refl _, Nat.le_refl _⟩).run (fun r34 q34 => ?_)
              rcases q34 with ⟨rfl, hb34⟩ | ⟨rfl, hb34⟩
              ·
                refine lv_if_eq (tgt := 44) hx hb d_M_isClean_37 (by decide) (fun c37 => ?_) (fun c37 => ?_)
                ·
                  exact absurd c37 (by decide)
                ·
                  refine lv_iconst (v := nI 1) hx hb d_M_isClean_40 (by decide) ?_
                  refine lv_goto (tgt := 45) hx hb d_M_isClean_41 (by decide) ?_
                  refine lv_istore_n hx hb d_M_isClean_45 rfl hl (by decide) rfl (fun ls hl => ?_)
                  have hl : lv_has ls 4 [(2, .int (nI 1)), (0, .ref (am 0)), (1, .int (nI b)), (3, .int (nI (4 * b + k)))] := hl
                  refine lv_iinc (k := 3) (v := nI ((4 * b + k) + 1)) hx hb d_M_isClean_46 hl rfl (nI_1 _) (by decide) rfl (fun ls hl => ?_)
                  have hl : lv_has ls 4 [(3, .int (nI ((4 * b + k) + 1))), (2, .int (nI 1)), (0, .ref (am 0)), (1, .int (nI b))] := hl
                  refine lv_goto (tgt := 19) hx hb d_M_isClean_49 (by decide) ?_
                  exact ih19 (k + 1) (nI 1) ls (by omega) (by omega) (Or.inl ⟨rfl, lt_y (P := fun j => fp mw (4 * b + j)) hf hb34⟩) (lv_sub hl [2, 3, 1, 0] rfl)
              ·
                refine lv_if_eq (tgt := 44) hx hb d_M_isClean_37 (by decide) (fun c37 => ?_) (fun c37 => ?_)
                ·
                  refine lv_iconst (v := nI 0) hx hb d_M_isClean_44 (by decide) ?_
                  refine lv_istore_n hx hb d_M_isClean_45 rfl hl (by decide) rfl (fun ls hl => ?_)
                  have hl : lv_has ls 4 [(2, .int (nI 0)), (0, .ref (am 0)), (1, .int (nI b)), (3, .int (nI (4 * b + k)))] := hl
                  refine lv_iinc (k := 3) (v := nI ((4 * b + k) + 1)) hx hb d_M_isClean_46 hl rfl (nI_1 _) (by decide) rfl (fun ls hl => ?_)
                  have hl : lv_has ls 4 [(3, .int (nI ((4 * b + k) + 1))), (2, .int (nI 0)), (0, .ref (am 0)), (1, .int (nI b))] := hl
                  refine lv_goto (tgt := 19) hx hb d_M_isClean_49 (by decide) ?_
                  exact ih19 (k + 1) (nI 0) ls (by omega) (by omega) (Or.inr rfl) (lv_sub hl [2, 3, 1, 0] rfl)
                ·
                  exact absurd c37 (by decide)
          ·
            refine lv_iload_n hx hb d_M_isClean_28 rfl (lv_at hl 2 rfl) ?_
            refine lv_if_eq (tgt := 44) hx hb d_M_isClean_29 (by decide) (fun c29 => ?_) (fun c29 => ?_)
            ·
              refine lv_iconst (v := nI 0) hx hb d_M_isClean_44 (by decide) ?_
              refine lv_istore_n hx hb d_M_isClean_45 rfl hl (by decide) rfl (fun ls hl => ?_)
              have hl : lv_has ls 4 [(2, .int (nI 0)), (0, .ref (am 0)), (1, .int (nI b)), (3, .int (nI (4 * b + k)))] := hl
              refine lv_iinc (k := 3) (v := nI ((4 * b + k) + 1)) hx hb d_M_isClean_46 hl rfl (nI_1 _) (by decide) rfl (fun ls hl => ?_)
              have hl : lv_has ls 4 [(3, .int (nI ((4 * b + k) + 1))), (2, .int (nI 0)), (0, .ref (am 0)), (1, .int (nI b))] := hl
              refine lv_goto (tgt := 19) hx hb d_M_isClean_49 (by decide) ?_
              exact ih19 (k + 1) (nI 0) ls (by omega) (by omega) (Or.inr rfl) (lv_sub hl [2, 3, 1, 0] rfl)
            ·
              exact absurd c29 (by decide)
    exact lp19 _ 0 (nI 1) ls (Nat.lt_succ_self _) (by omega) (Or.inl ⟨rfl, fun j hj => absurd hj (Nat.not_lt_zero j)⟩) (lv_sub hl [2, 3, 1, 0] rfl)
set_option maxHeartbeats 4000000 in
set_option maxRecDepth 100000 in
theorem c_M_staleOf (l : Launch) (dC : Nat → ClassId) (dI : Nat → Nat → Nat) (am cm : Nat → Nat) (th : Int32) (mw mwr mfl mact : Nat → Int32) (on cut mrec : Int32) (mlog mlive had : Nat → Int32) (mser mcur mrd mwt worn : Int32) (pg : Nat → Int32) (pla sou fou : Int32) (b : Nat) (hp : b < 8) : Met l y_M_staleOf w_M_staleOf ({ frames := 1, cells := 0, slots := 0, locals := 23 }) (xR (dC, dI) vwCl (mt cm) (mw_ am cm th mw mwr mfl mact on cut mrec mlog mlive had mser mcur mrd mwt worn pg pla sou fou) [.ref (am 0), .int (nI b)]) (vp_Si (fun r => ∃ mm : Nat, mm ≤ 4 ∧ (mm = 0 ∨ ST mw mlive b) ∧ r = nI mm)) 0 0 (fun _ => False) := by
  refine Met.ofW (cc := b_M_staleOf) (maxL := 4) (ret := (some (.int))) (by decide) rfl ?_
  intro P e s m args below meth c0 s₁ B hml hv
  obtain ⟨rfl, hP, hK, hN⟩ := hv
  have hx := B.exec
  have hb := B.bytes
  have hr := B.returns
  have hts := atoms_spec (ws := w_M_staleOf) B.pre
  have hown : s.vm.findClass R_M = some m.cls := findClass_of_methodNamed B.named
  have hlocks := B.notSynchronized
  have hl := lv_entry ([.ref (am 0), .int (nI b)]) (n := 4) (Nat.le_of_ble_eq_true rfl)
  rw [lg_entry_eq]
  generalize (lg_sl ([.ref (am 0), .int (nI b)]) ++ List.replicate (4 - (lg_sl ([.ref (am 0), .int (nI b)])).length) Slot.unset).toArray = ls at hl ⊢
  have hl : lv_has ls 4 [(0, .ref (am 0)), (1, .int (nI b))] := hl
  refine lv_iconst (v := nI 0) hx hb d_M_staleOf_0 (by decide) ?_
  refine lv_istore_n hx hb d_M_staleOf_1 rfl hl (by decide) rfl (fun ls hl => ?_)
  have hl : lv_has ls 4 [(2, .int (nI 0)), (0, .ref (am 0)), (1, .int (nI b))] := hl
  refine lv_iconst (v := nI 4) hx hb d_M_staleOf_2 (by decide) ?_
  refine lv_iload_n hx hb d_M_staleOf_3 rfl (lv_at hl 2 rfl) ?_
  refine lv_imul hx hb d_M_staleOf_4 ?_
  refine tp_i (y := nI (4 * b)) (pk_mul _ _) ?_
  refine lv_istore_n hx hb d_M_staleOf_5 rfl hl (by decide) rfl (fun ls hl => ?_)
  have hl : lv_has ls 4 [(3, .int (nI (4 * b))), (2, .int (nI 0)), (0, .ref (am 0)), (1, .int (nI b))] := hl
  have lp6 : ∀ (n : Nat) (k : Nat) (mm : Nat) (ls : Array Slot), (4 - k) < n → (k ≤ 4) → (mm ≤ k) → (mm = 0 ∨ ST mw mlive b) → lv_has ls 4 [(0, .ref (am 0)), (1, .int (nI b)), (2, .int (nI mm)), (3, .int (nI (4 * b + k)))] → W P l e (headSpec w_M_staleOf ({ frames := 1, cells := 0, slots := 0, locals := 23 })).room s m (([.ref (am 0), .int (nI b)] : List Value).toArray) below meth c0 s.heap [] 0 0 (MQ below (vp_Si (fun r => ∃ mm : Nat, mm ≤ 4 ∧ (mm = 0 ∨ ST mw mlive b) ∧ r = nI mm)) (([.ref (am 0), .int (nI b)] : List Value).toArray) s 0 0 (fun _ => False)) (F0 m 6 ls []) := by
    intro n
    induction n with
    | zero => intro k mm ls hm; intros; omega
    | succ n ih6 =>
      intro k mm ls hm hk hmk hs hl
      refine lv_iload_n hx hb d_M_staleOf_6 rfl (lv_at hl 3 rfl) ?_
      refine lv_iconst (v := nI 4) hx hb d_M_staleOf_7 (by decide) ?_
      refine lv_iload_n hx hb d_M_staleOf_8 rfl (lv_at hl 1 rfl) ?_
      refine lv_imul hx hb d_M_staleOf_9 ?_
      refine tp_i (y := nI (4 * b)) (pk_mul _ _) ?_
      refine lv_iconst (v := nI 4) hx hb d_M_staleOf_10 (by decide) ?_
      refine lv_iadd hx hb d_M_staleOf_11 ?_
      refine tp_i (y := nI ((4 * b) + 4)) (nI_add _ _) ?_
      refine lv_icmp_ge (tgt := 45) hx hb d_M_staleOf_12 (by decide) (fun c12 => ?_) (fun c12 => ?_)
      ·
        have c12 := cd_ge_t (by omega) (by omega) c12
        refine lv_iload_n hx hb d_M_staleOf_45 rfl (lv_at hl 2 rfl) ?_
        exact W.iret (v := nI mm) hx hb hr (fun t ht hW => ⟨nI mm, rfl, ⟨mm, by omega, hs, rfl⟩, ht⟩) (fun q hq => by cases hq) d_M_staleOf_46
      ·
        have c12 := cd_ge_f (by omega) (by omega) c12
        refine lv_iload_n hx hb d_M_staleOf_15 rfl (lv_at hl 2 rfl) ?_
        refine lv_aload_n hx hb d_M_staleOf_16 rfl (lv_at hl 0 rfl) ?_
        refine lv_iload_n hx hb d_M_staleOf_17 rfl (lv_at hl 3 rfl) ?_
        refine vp_callSi (va_runV (C := R_M) (As := [.int (nI (4 * b + k))]) (rest := [.int (nI mm)]) ⟨hx, hb, hml, hown, hts⟩ (c_M_isFree l dC dI am cm th mw mwr mfl mact on cut mrec mlog mlive had mser mcur mrd mwt worn pg pla sou fou (4 * b + k) (by first | omega | rfl | assumption | decide)) (cwV 1 hts (g_V t_820 t_822 s_28 t_6 t_823) rfl rfl rfl (by decide +kernel) ⟨by decide, by decide⟩) (xR_v hP hK hN 0 rfl rfl) rfl rfl hl.1 rfl (lv_room (Nat.le_of_ble_eq_true rfl)) d_M_staleOf_18 ⟨Nat.le_refl _, Nat.le_refl _⟩).run (fun r18 q18 => ?_)
        rcases q18 with ⟨rfl, hb18⟩ | ⟨rfl, hb18⟩
        ·
          refine lv_if_ne (tgt := 36) hx hb d_M_staleOf_21 (by decide) (fun c21 => ?_) (fun c21 => ?_)
          ·
            refine lv_iconst (v := nI 0) hx hb d_M_staleOf_36 (by decide) ?_
            refine lv_iadd hx hb d_M_staleOf_37 ?_
            refine tp_i (y := nI (mm + 0)) (nI_add _ _) ?_
            refine lv_istore_n hx hb d_M_staleOf_38 rfl hl (by decide) rfl (fun ls hl => ?_)
            have hl : lv_has ls 4 [(2, .int (nI (mm + 0))), (0, .ref (am 0)), (1, .int (nI b)), (3, .int (nI (4 * b + k)))] := hl
            refine lv_iinc (k := 3) (v := nI ((4 * b + k) + 1)) hx hb d_M_staleOf_39 hl rfl (nI_1 _) (by decide) rfl (fun ls hl => ?_)
            have hl : lv_has ls 4 [(3, .int (nI ((4 * b + k) + 1))), (2, .int (nI (mm + 0))), (0, .ref (am 0)), (1, .int (nI b))] := hl
            refine lv_goto (tgt := 6) hx hb d_M_staleOf_42 (by decide) ?_
            exact ih6 (k + 1) (mm + 0) ls (by omega) (by omega) (by omega) hs (lv_sub hl [2, 3, 1, 0] rfl)
          ·
            exact absurd c21 (by decide)
        ·
          refine lv_if_ne (tgt := 36) hx hb d_M_staleOf_21 (by decide) (fun c21 => ?_) (fun c21 => ?_)
          ·
            exact absurd c21 (by decide)
          ·
            refine lv_aload_n hx hb d_M_staleOf_24 rfl (lv_at hl 0 rfl) ?_
            refine lv_iload_n hx hb d_M_staleOf_25 rfl (lv_at hl 3 rfl) ?_
            refine vp_callSi (va_runV (C := R_M) (As := [.int (nI (4 * b + k))]) (rest := [.int (nI mm)]) ⟨hx, hb, hml, hown, hts⟩ (c_M_isLive l dC dI am cm th mw mwr mfl mact on cut mrec mlog mlive had mser mcur mrd mwt worn pg pla sou fou (4 * b + k) (by first | omega | rfl | assumption | decide)) (cwV 1 hts (g_V t_836 t_838 s_32 t_6 t_839) rfl rfl rfl (by decide +kernel) ⟨by decide, by decide⟩) (xR_v hP hK hN 0 rfl rfl) rfl rfl hl.1 rfl (lv_room (Nat.le_of_ble_eq_true rfl)) d_M_staleOf_26 ⟨Nat.le_refl _, Nat.le_refl _⟩).run (fun r26 q26 => ?_)
            rcases q26 with ⟨rfl, hli26⟩ | ⟨rfl, hli26⟩
            ·
              refine lv_if_ne (tgt := 36) hx hb d_M_staleOf_29 (by decide) (fun c29 => ?_) (fun c29 => ?_)
              ·
                refine lv_iconst (v := nI 0) hx hb d_M_staleOf_36 (by decide) ?_
                refine lv_iadd hx hb d_M_staleOf_37 ?_
                refine tp_i (y := nI (mm + 0)) (nI_add _ _) ?_
                refine lv_istore_n hx hb d_M_staleOf_38 rfl hl (by decide) rfl (fun ls hl => ?_)
                have hl : lv_has ls 4 [(2, .int (nI (mm + 0))), (0, .ref (am 0)), (1, .int (nI b)), (3, .int (nI (4 * b + k)))] := hl
                refine lv_iinc (k := 3) (v := nI ((4 * b + k) + 1)) hx hb d_M_staleOf_39 hl rfl (nI_1 _) (by decide) rfl (fun ls hl => ?_)
                have hl : lv_has ls 4 [(3, .int (nI ((4 * b + k) + 1))), (2, .int (nI (mm + 0))), (0, .ref (am 0)), (1, .int (nI b))] := hl
                refine lv_goto (tgt := 6) hx hb d_M_staleOf_42 (by decide) ?_
                exact ih6 (k + 1) (mm + 0) ls (by omega) (by omega) (by omega) hs (lv_sub hl [2, 3, 1, 0] rfl)
              ·
                exact absurd c29 (by decide)
            ·
              refine lv_if_ne (tgt := 36) hx hb d_M_staleOf_29 (by decide) (fun c29 => ?_) (fun c29 => ?_)
              ·
                exact absurd c29 (by decide)
              ·
                refine lv_iconst (v := nI 1) hx hb d_M_staleOf_32 (by decide) ?_
                refine lv_goto (tgt := 37) hx hb d_M_staleOf_33 (by decide) ?_
                refine lv_iadd hx hb d_M_staleOf_37 ?_
                refine tp_i (y := nI (mm + 1)) (nI_add _ _) ?_
                refine lv_istore_n hx hb d_M_staleOf_38 rfl hl (by decide) rfl (fun ls hl => ?_)
                have hl : lv_has ls 4 [(2, .int (nI (mm + 1))), (0, .ref (am 0)), (1, .int (nI b)), (3, .int (nI (4 * b + k)))] := hl
                refine lv_iinc (k := 3) (v := nI ((4 * b + k) + 1)) hx hb d_M_staleOf_39 hl rfl (nI_1 _) (by decide) rfl (fun ls hl => ?_)
                have hl : lv_has ls 4 [(3, .int (nI ((4 * b + k) + 1))), (2, .int (nI (mm + 1))), (0, .ref (am 0)), (1, .int (nI b))] := hl
                refine lv_goto (tgt := 6) hx hb d_M_staleOf_42 (by decide) ?_
                exact ih6 (k + 1) (mm + 1) ls (by omega) (by omega) (by omega) (Or.inr ⟨k, by omega, hb18, hli26⟩) (lv_sub hl [2, 3, 1, 0] rfl)
  exact lp6 _ 0 0 ls (Nat.lt_succ_self _) (by omega) (by omega) (Or.inl rfl) (lv_sub hl [2, 3, 1, 0] rfl)
set_option maxHeartbeats 4000000 in
set_option maxRecDepth 100000 in
theorem c_M_livesOf (l : Launch) (dC : Nat → ClassId) (dI : Nat → Nat → Nat) (am cm : Nat → Nat) (th : Int32) (mw mwr mfl mact : Nat → Int32) (on cut mrec : Int32) (mlog mlive had : Nat → Int32) (mser mcur mrd mwt worn : Int32) (pg : Nat → Int32) (pla sou fou : Int32) (b : Nat) (hp : b < 8) : Met l y_M_livesOf w_M_livesOf ({ frames := 1, cells := 0, slots := 0, locals := 23 }) (xR (dC, dI) vwCl (mt cm) (mw_ am cm th mw mwr mfl mact on cut mrec mlog mlive had mser mcur mrd mwt worn pg pla sou fou) [.ref (am 0), .int (nI b)]) (vp_Si (fun r => True)) 0 0 (fun _ => False) := by
  refine Met.ofW (cc := b_M_livesOf) (maxL := 4) (ret := (some (.int))) (by decide) rfl ?_
  intro P e s m args below meth c0 s₁ B hml hv
  obtain ⟨rfl, hP, hK, hN⟩ := hv
  have hx := B.exec
  have hb := B.bytes
  have hr := B.returns
  have hts := atoms_spec (ws := w_M_livesOf) B.pre
  have hown : s.vm.findClass R_M = some m.cls := findClass_of_methodNamed B.named
  have hlocks := B.notSynchronized
  have hl := lv_entry ([.ref (am 0), .int (nI b)]) (n := 4) (Nat.le_of_ble_eq_true rfl)
  rw [lg_entry_eq]
  generalize (lg_sl ([.ref (am 0), .int (nI b)]) ++ List.replicate (4 - (lg_sl ([.ref (am 0), .int (nI b)])).length) Slot.unset).toArray = ls at hl ⊢
  have hl : lv_has ls 4 [(0, .ref (am 0)), (1, .int (nI b))] := hl
  refine lv_iconst (v := nI 0) hx hb d_M_livesOf_0 (by decide) ?_
  refine lv_istore_n hx hb d_M_livesOf_1 rfl hl (by decide) rfl (fun ls hl => ?_)
  have hl : lv_has ls 4 [(2, .int (nI 0)), (0, .ref (am 0)), (1, .int (nI b))] := hl
  refine lv_iconst (v := nI 4) hx hb d_M_livesOf_2 (by decide) ?_
  refine lv_iload_n hx hb d_M_livesOf_3 rfl (lv_at hl 2 rfl) ?_
  refine lv_imul hx hb d_M_livesOf_4 ?_
  refine tp_i (y := nI (4 * b)) (pk_mul _ _) ?_
  refine lv_istore_n hx hb d_M_livesOf_5 rfl hl (by decide) rfl (fun ls hl => ?_)
  have hl : lv_has ls 4 [(3, .int (nI (4 * b))), (2, .int (nI 0)), (0, .ref (am 0)), (1, .int (nI b))] := hl
  have lp6 : ∀ (n : Nat) (k : Nat) (x : Int32) (ls : Array Slot), (4 - k) < n → (k ≤ 4) → lv_has ls 4 [(0, .ref (am 0)), (1, .int (nI b)), (2, .int x), (3, .int (nI (4 * b + k)))] → W P l e (headSpec w_M_livesOf ({ frames := 1, cells := 0, slots := 0, locals := 23 })).room s m (([.ref (am 0), .int (nI b)] : List Value).toArray) below meth c0 s.heap [] 0 0 (MQ below (vp_Si (fun r => True)) (([.ref (am 0), .int (nI b)] : List Value).toArray) s 0 0 (fun _ => False)) (F0 m 6 ls []) := by
    intro n
    induction n with
    | zero => intro k x ls hm; intros; omega
    | succ n ih6 =>
      intro k x ls hm hk hl
      refine lv_iload_n hx hb d_M_livesOf_6 rfl (lv_at hl 3 rfl) ?_
      refine lv_iconst (v := nI 4) hx hb d_M_livesOf_7 (by decide) ?_
      refine lv_iload_n hx hb d_M_livesOf_8 rfl (lv_at hl 1 rfl) ?_
      refine lv_imul hx hb d_M_livesOf_9 ?_
      refine tp_i (y := nI (4 * b)) (pk_mul _ _) ?_
      refine lv_iconst (v := nI 4) hx hb d_M_livesOf_10 (by decide) ?_
      refine lv_iadd hx hb d_M_livesOf_11 ?_
      refine tp_i (y := nI ((4 * b) + 4)) (nI_add _ _) ?_
      refine lv_icmp_ge (tgt := 37) hx hb d_M_livesOf_12 (by decide) (fun c12 => ?_) (fun c12 => ?_)
      ·
        have c12 := cd_ge_t (by omega) (by omega) c12
        refine lv_iload_n hx hb d_M_livesOf_37 rfl (lv_at hl 2 rfl) ?_
        exact W.iret (v := x) hx hb hr (fun t ht hW => ⟨x, rfl, by first | rfl | trivial | omega, ht⟩) (fun q hq => by cases hq) d_M_livesOf_38
      ·
        have c12 := cd_ge_f (by omega) (by omega) c12
        refine lv_iload_n hx hb d_M_livesOf_15 rfl (lv_at hl 2 rfl) ?_
        refine lv_aload_n hx hb d_M_livesOf_16 rfl (lv_at hl 0 rfl) ?_
        refine lv_iload_n hx hb d_M_livesOf_17 rfl (lv_at hl 3 rfl) ?_
        refine vp_callSi (va_runV (C := R_M) (As := [.int (nI (4 * b + k))]) (rest := [.int x]) ⟨hx, hb, hml, hown, hts⟩ (c_M_isLive l dC dI am cm th mw mwr mfl mact on cut mrec mlog mlive had mser mcur mrd mwt worn pg pla sou fou (4 * b + k) (by first | omega | rfl | assumption | decide)) (cwV 1 hts (g_V t_836 t_838 s_32 t_6 t_839) rfl rfl rfl (by decide +kernel) ⟨by decide, by decide⟩) (xR_v hP hK hN 0 rfl rfl) rfl rfl hl.1 rfl (lv_room (Nat.le_of_ble_eq_true rfl)) d_M_livesOf_18 ⟨Nat.le_refl _, Nat.le_refl _⟩).run (fun r18 q18 => ?_)
        rcases q18 with ⟨rfl, hli18⟩ | ⟨rfl, hli18⟩
        ·
          refine lv_if_eq (tgt := 28) hx hb d_M_livesOf_21 (by decide) (fun c21 => ?_) (fun c21 => ?_)
          ·
            exact absurd c21 (by decide)
          ·
            refine lv_iconst (v := nI 1) hx hb d_M_livesOf_24 (by decide) ?_
            refine lv_goto (tgt := 29) hx hb d_M_livesOf_25 (by decide) ?_
            refine lv_iadd hx hb d_M_livesOf_29 ?_
            refine lv_istore_n hx hb d_M_livesOf_30 rfl hl (by decide) rfl (fun ls hl => ?_)
            have hl : lv_has ls 4 [(2, .int (x + (nI 1))), (0, .ref (am 0)), (1, .int (nI b)), (3, .int (nI (4 * b + k)))] := hl
            refine lv_iinc (k := 3) (v := nI ((4 * b + k) + 1)) hx hb d_M_livesOf_31 hl rfl (nI_1 _) (by decide) rfl (fun ls hl => ?_)
            have hl : lv_has ls 4 [(3, .int (nI ((4 * b + k) + 1))), (2, .int (x + (nI 1))), (0, .ref (am 0)), (1, .int (nI b))] := hl
            refine lv_goto (tgt := 6) hx hb d_M_livesOf_34 (by decide) ?_
            exact ih6 (k + 1) (x + (nI 1)) ls (by omega) (by omega) (lv_sub hl [2, 3, 1, 0] rfl)
        ·
          refine lv_if_eq (tgt := 28) hx hb d_M_livesOf_21 (by decide) (fun c21 => ?_) (fun c21 => ?_)
          ·
            refine lv_iconst (v := nI 0) hx hb d_M_livesOf_28 (by decide) ?_
            refine lv_iadd hx hb d_M_livesOf_29 ?_
            refine lv_istore_n hx hb d_M_livesOf_30 rfl hl (by decide) rfl (fun ls hl => ?_)
            have hl : lv_has ls 4 [(2, .int (x + (nI 0))), (0, .ref (am 0)), (1, .int (nI b)), (3, .int (nI (4 * b + k)))] := hl
            refine lv_iinc (k := 3) (v := nI ((4 * b + k) + 1)) hx hb d_M_livesOf_31 hl rfl (nI_1 _) (by decide) rfl (fun ls hl => ?_)
            have hl : lv_has ls 4 [(3, .int (nI ((4 * b + k) + 1))), (2, .int (x + (nI 0))), (0, .ref (am 0)), (1, .int (nI b))] := hl
            refine lv_goto (tgt := 6) hx hb d_M_livesOf_34 (by decide) ?_
            exact ih6 (k + 1) (x + (nI 0)) ls (by omega) (by omega) (lv_sub hl [2, 3, 1, 0] rfl)
          ·
            exact absurd c21 (by decide)
  exact lp6 _ 0 (nI 0) ls (Nat.lt_succ_self _) (by omega) (lv_sub hl [2, 3, 1, 0] rfl)
