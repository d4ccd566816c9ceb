set_option maxHeartbeats 4000000 in
set_option maxRecDepth 100000 in
theorem whole_start {p : Program} {e : Env} {s : State} {m : MethodId} {below : List Frame} {meth : Method} {c : Code} (l : Launch) (hl9 : l.stackTraces = false) {b L : Nat} {xs : Nat → Int32} (hL : L ≤ 2560) (C0 : lw_At p s m meth c b L xs) : W p l e room_1 s m #[Value.ref b] below meth c s.heap [] 0 0 (lw_Z below #[Value.ref b] s) (entryFrame m ([Value.ref b] : List Value).toArray 8) := by
  obtain ⟨hx, hb, hr, hml, hown0, hts0, hX, hbl, hlocks, hgv⟩ := C0
  have hown : s.vm.findClass R_L = some m.cls := hown0
  have hts : ∀ w ∈ (Cond.initialized R_R :: gw), w.before #[Value.ref b] s = true := fun w hw => (List.mem_cons.mp hw).elim (fun h => h ▸ hts0 _ (gw_of t_1)) (fun h => hts0 _ (gw_of h))
  obtain ⟨c0, i0, k0⟩ := u_known (C := R_C) (T := F_C) (N := 5) hts (fun w h => List.mem_cons_of_mem _ (in_C w h)) (hts (.instantiable R_C 5) (List.mem_cons_of_mem _ t_29))
  obtain ⟨c1, i1, k1⟩ := u_known (C := R_N) (T := F_N) (N := 2) hts (fun w h => List.mem_cons_of_mem _ (in_N w h)) (hts (.instantiable R_N 2) (List.mem_cons_of_mem _ t_101))
  obtain ⟨c2, i2, k2⟩ := u_known (C := R_G) (T := F_G) (N := 5) hts (fun w h => List.mem_cons_of_mem _ (in_G w h)) (hts (.instantiable R_G 5) (List.mem_cons_of_mem _ t_79))
  obtain ⟨c3, i3, k3⟩ := u_known (C := R_S) (T := F_S) (N := 7) hts (fun w h => List.mem_cons_of_mem _ (in_S w h)) (hts (.instantiable R_S 7) (List.mem_cons_of_mem _ t_23))
  obtain ⟨c4, i4, k4⟩ := u_known (C := R_R) (T := F_R) (N := 7) hts (fun w h => List.mem_cons_of_mem _ (in_R w h)) (hts (.instantiable R_R 7) (List.mem_cons_of_mem _ t_15))
  obtain ⟨c5, i5, k5⟩ := u_known (C := R_M) (T := F_M) (N := 20) hts (fun w h => List.mem_cons_of_mem _ (in_M w h)) (hts (.instantiable R_M 20) (List.mem_cons_of_mem _ t_703))
  obtain ⟨dC, dI, hK⟩ : ∃ (dC : Nat → ClassId) (dI : Nat → Nat → Nat), va_K (dC, dI) vwCl [] s := by
    refine ⟨fun i => [c0, c1, c2, c3, c4, c5].getD i c0, fun i => [i0, i1, i2, i3, i4, i5].getD i i0, fun c q hq => ?_, fun k q hk => by cases hk⟩
    have hc : c < 6 := (List.getElem?_eq_some_iff.mp hq).1
    rcases (show c = 0 ∨ c = 1 ∨ c = 2 ∨ c = 3 ∨ c = 4 ∨ c = 5 by omega) with rfl | rfl | rfl | rfl | rfl | rfl
    · cases hq; exact k0
    · cases hq; exact k1
    · cases hq; exact k2
    · cases hq; exact k3
    · cases hq; exact k4
    · cases hq; exact k5
  have hP : va_P (dC, dI) vwCl [] s.heap := fun k q hk => by cases hk
  have hD : va_D (fun q => s.heap.size ≤ q) [] := ⟨fun i j p q h _ _ => (by cases h), fun k q hk => (by cases hk)⟩
  have hS : va_S (fun q => s.heap.size ≤ q) s.heap s.heap [] := va_S.rf
  have hA : ∀ q, s.heap.size ≤ q → (fun q => s.heap.size ≤ q) q := fun q h => h
  have hbA : ¬ (fun q => s.heap.size ≤ q) b := Nat.not_le.mpr hbl
  have hg := flat_of_before _ hgv
  obtain ⟨az, haz, hz⟩ := tz_start (hts0 _ (by decide +kernel)) (hts0 _ (by decide +kernel)) (hg _ (by decide +kernel)) (hg _ (by decide +kernel))
  have hn : nwz s := by
    refine ⟨⟨va_Nw.of rfl (hts0 _ (by decide +kernel)), va_Nw.of rfl (hts0 _ (by decide +kernel)), va_Nw.of rfl (hts0 _ (by decide +kernel))⟩, fun y hy => va_Nw.of rfl (hts0 _ ?_)⟩
    exact (show ∀ y ∈ e_dec, Cond.declares y ∈ lw_tbl by decide +kernel) y hy
  have hN : nk s := ⟨va_Nw.of rfl (hts0 _ (by decide +kernel)), va_Nw.of rfl (hts0 _ (by decide +kernel)), va_Nw.of rfl (hts0 _ (by decide +kernel)), va_Nw.of rfl (hts0 _ (by decide +kernel))⟩
  have hcI : va_Nc E_I E_S s ∧ va_Nc E_S E_A s := ⟨va_Nc.of (hg (.not (.castable E_I E_S)) (by decide +kernel)), va_Nc.of (hg (.not (.castable E_S E_A)) (by decide +kernel))⟩
  have nw25 : va_Nw (.methodLinkNest R_R 25 y_G_init R_R) s := va_Nw.of rfl (hts0 _ (by decide +kernel))
  have nw32 : va_Nw (.methodLinkNest R_R 32 y_N_init R_R) s := va_Nw.of rfl (hts0 _ (by decide +kernel))
  have hl := lv_entry ([.ref b]) (n := 8) (Nat.le_of_ble_eq_true rfl)
  rw [lg_entry_eq]
  generalize (lg_sl ([.ref b]) ++ List.replicate (8 - (lg_sl ([.ref b])).length) Slot.unset).toArray = ls at hl ⊢
  have hl : lv_has ls 8 [(0, .ref b)] := hl
  refine va_new (ci := 4) (fs := [.null, .null, .null, .null, .null, .int 0, .int 0]) (C := R_R) (T := F_R) (N := 7) hx hb hts (fun w h => List.mem_cons_of_mem _ (in_R w h)) t_R ok_R hown (hts (.classLink R_L 8 R_R) (List.mem_cons_of_mem _ t_14)) (hts (.instantiable R_R 7) (List.mem_cons_of_mem _ t_15)) (hts (.initialized R_R) (List.mem_cons_of_mem _ t_1)) hK hP hD hS hA rfl (fun j hj => by rcases (show j = 0 ∨ j = 1 ∨ j = 2 ∨ j = 3 ∨ j = 4 ∨ j = 5 ∨ j = 6 by omega) with rfl | rfl | rfl | rfl | rfl | rfl | rfl <;> rfl) (show 1 ≤ 1052 by decide) (show 7 ≤ 9985 by decide) d_L_law_0 (fun q0 H hP hD hS => ?_)
  have hP : va_P (dC, dI) vwCl [(q0, .inr (4, [.null, .null, .null, .null, .null, .int 0, .int 0]))] H := hP
  have hD : va_D (fun q => s.heap.size ≤ q) [(q0, .inr (4, [.null, .null, .null, .null, .null, .int 0, .int 0]))] := hD
  have hK : va_K (dC, dI) vwCl [] s := hK
  refine lv_dup hx hb d_L_law_3 rfl ?_
  have hPc := hP.sub (ws' := [(q0, .inr (4, [.null, .null, .null, .null, .null, .int 0, .int 0]))]) [0] rfl
  have hDc := hD.sub (ws' := [(q0, .inr (4, [.null, .null, .null, .null, .null, .int 0, .int 0]))]) [0] (by decide) rfl
  have hKc := hK.sub (tys' := []) [] rfl
  have hFc := va_free (wc := [(q0, .inr (4, [.null, .null, .null, .null, .null, .int 0, .int 0]))]) hD hS hA [0] rfl
  refine va_callv (va_runI (As := []) (rest := [.ref q0]) ⟨hx, hb, hml, hown, hts⟩ (c_R_init l dC dI q0 H.size) (cwI 0 hts (g_c t_18) rfl rfl rfl (hts (.initialized R_R) (List.mem_cons_of_mem _ t_1)) (hts (.methodLink R_L 72 y_R_init) (List.mem_cons_of_mem _ t_16)) (hts (.instanceMethod y_R_init) (List.mem_cons_of_mem _ t_17)) rfl (by decide +kernel) ⟨by decide, by decide⟩) (xN_s hPc hKc hDc hN nw25 nw32) rfl rfl hl.1 rfl (lv_room (Nat.le_of_ble_eq_true rfl)) d_L_law_4 ⟨show 15 ≤ 1052 by decide, show 946 ≤ 9985 by decide⟩) hS (fun q _ h => hFc q h) hFc (fun u4 t H1 locs1 ht hvm qq4 hB hz1 hk1 hS => ?_)
  obtain ⟨ad, cd, w, live⟩ := u4
  obtain ⟨rfl, hw, hlv⟩ := qq4
  obtain ⟨hP1, hK1, hD1⟩ := hB
  rw [ht] at hP1
  have hK1 := va_K.moved hvm.symm hK1
  obtain ⟨hP, hD⟩ := va_join (wr := []) (w1 := (xw ad cd w (fun _ => 0) (fun _ => 0) (nI 1) (-1) (fun _ => 0) (fun _ => 0) (fun _ => 0) (nI 0) (nI 0) live (fun _ => 0) (-1) (nI 0) (nI 0) (nI 0) (fun _ => 0) (nI 0) (fun _ => 0) (nI 0) (nI 0))) hP hD [0] [] rfl rfl (by decide) (by decide) hk1 hFc hP1 hD1
  have hK := hK.app hK1
  generalize H1 = H at hP hS ⊢
  generalize locs1 = locs at hS ⊢
  have hP : va_P (dC, dI) vwCl (xw ad cd w (fun _ => 0) (fun _ => 0) (nI 1) (-1) (fun _ => 0) (fun _ => 0) (fun _ => 0) (nI 0) (nI 0) live (fun _ => 0) (-1) (nI 0) (nI 0) (nI 0) (fun _ => 0) (nI 0) (fun _ => 0) (nI 0) (nI 0)) H := hP
  have hD : va_D (fun q => s.heap.size ≤ q) (xw ad cd w (fun _ => 0) (fun _ => 0) (nI 1) (-1) (fun _ => 0) (fun _ => 0) (fun _ => 0) (nI 0) (nI 0) live (fun _ => 0) (-1) (nI 0) (nI 0) (nI 0) (fun _ => 0) (nI 0) (fun _ => 0) (nI 0) (nI 0)) := hD
  have hK : va_K (dC, dI) vwCl (xt cd) s := hK
  refine lv_astore_n hx hb d_L_law_7 rfl hl (by decide) rfl (fun ls hl => ?_)
  have hl : lv_has ls 8 [(1, .ref (ad 0)), (0, .ref b)] := hl
  refine va_new (ci := 5) (fs := [.int 0, .null, .null, .null, .null, .int 0, .int 0, .int 0, .null, .null, .null, .int 0, .int 0, .int 0, .int 0, .int 0, .null, .int 0, .int 0, .int 0]) (C := R_M) (T := F_M) (N := 20) hx hb hts (fun w h => List.mem_cons_of_mem _ (in_M w h)) t_M ok_M hown (hts (.classLink R_L 73 R_M) (List.mem_cons_of_mem _ t_702)) (hts (.instantiable R_M 20) (List.mem_cons_of_mem _ t_703)) (hts (.initialized R_M) (List.mem_cons_of_mem _ t_6)) hK hP hD hS hA rfl (fun j hj => by rcases (show j = 0 ∨ j = 1 ∨ j = 2 ∨ j = 3 ∨ j = 4 ∨ j = 5 ∨ j = 6 ∨ j = 7 ∨ j = 8 ∨ j = 9 ∨ j = 10 ∨ j = 11 ∨ j = 12 ∨ j = 13 ∨ j = 14 ∨ j = 15 ∨ j = 16 ∨ j = 17 ∨ j = 18 ∨ j = 19 by omega) with rfl | rfl | rfl | rfl | rfl | rfl | rfl | rfl | rfl | rfl | rfl | rfl | rfl | rfl | rfl | rfl | rfl | rfl | rfl | rfl <;> rfl) (show 16 ≤ 1052 by decide) (show 966 ≤ 9985 by decide) d_L_law_8 (fun q8 H hP hD hS => ?_)
  have hP : va_P (dC, dI) vwCl ((xw ad cd w (fun _ => 0) (fun _ => 0) (nI 1) (-1) (fun _ => 0) (fun _ => 0) (fun _ => 0) (nI 0) (nI 0) live (fun _ => 0) (-1) (nI 0) (nI 0) (nI 0) (fun _ => 0) (nI 0) (fun _ => 0) (nI 0) (nI 0)) ++ [(q8, .inr (5, [.int 0, .null, .null, .null, .null, .int 0, .int 0, .int 0, .null, .null, .null, .int 0, .int 0, .int 0, .int 0, .int 0, .null, .int 0, .int 0, .int 0]))]) H := hP
  have hD : va_D (fun q => s.heap.size ≤ q) ((xw ad cd w (fun _ => 0) (fun _ => 0) (nI 1) (-1) (fun _ => 0) (fun _ => 0) (fun _ => 0) (nI 0) (nI 0) live (fun _ => 0) (-1) (nI 0) (nI 0) (nI 0) (fun _ => 0) (nI 0) (fun _ => 0) (nI 0) (nI 0)) ++ [(q8, .inr (5, [.int 0, .null, .null, .null, .null, .int 0, .int 0, .int 0, .null, .null, .null, .int 0, .int 0, .int 0, .int 0, .int 0, .null, .int 0, .int 0, .int 0]))]) := hD
  have hK : va_K (dC, dI) vwCl [(cd 5, .boolean), (cd 6, .int), (cd 7, .int), (cd 8, .int), (cd 9, .int), (cd 10, .boolean), (cd 11, .int), (cd 12, .int), (cd 13, .int), (cd 14, .byte)] s := hK
  refine lv_dup hx hb d_L_law_11 rfl ?_
  have hPc := hP.sub (ws' := [(q8, .inr (5, [.int 0, .null, .null, .null, .null, .int 0, .int 0, .int 0, .null, .null, .null, .int 0, .int 0, .int 0, .int 0, .int 0, .null, .int 0, .int 0, .int 0]))]) [15] rfl
  have hDc := hD.sub (ws' := [(q8, .inr (5, [.int 0, .null, .null, .null, .null, .int 0, .int 0, .int 0, .null, .null, .null, .int 0, .int 0, .int 0, .int 0, .int 0, .null, .int 0, .int 0, .int 0]))]) [15] (by decide) rfl
  have hKc := hK.sub (tys' := []) [] rfl
  have hFc := va_free (wc := [(q8, .inr (5, [.int 0, .null, .null, .null, .null, .int 0, .int 0, .int 0, .null, .null, .null, .int 0, .int 0, .int 0, .int 0, .int 0, .null, .int 0, .int 0, .int 0]))]) hD hS hA [15] rfl
  refine va_callv (va_runI (As := []) (rest := [.ref q8]) ⟨hx, hb, hml, hown, hts⟩ (c_M_init l dC dI q8 H.size) (cwI 0 hts (g_c t_706) rfl rfl rfl (hts (.initialized R_M) (List.mem_cons_of_mem _ t_6)) (hts (.methodLink R_L 75 y_M_init) (List.mem_cons_of_mem _ t_704)) (hts (.instanceMethod y_M_init) (List.mem_cons_of_mem _ t_705)) rfl (by decide +kernel) ⟨by decide, by decide⟩) (xP_s hPc hKc hDc hN) rfl rfl hl.1 rfl (lv_room (Nat.le_of_ble_eq_true rfl)) d_L_law_12 ⟨show 24 ≤ 1052 by decide, show 1774 ≤ 9985 by decide⟩) hS (fun q _ h => hFc q h) hFc (fun u12 t H1 locs1 ht hvm qq12 hB hz1 hk1 hS => ?_)
  obtain ⟨am, cm, mw, uf⟩ := u12
  obtain ⟨rfl, hmi⟩ := qq12
  obtain ⟨hP1, hK1, hD1⟩ := hB
  rw [ht] at hP1
  have hK1 := va_K.moved hvm.symm hK1
  obtain ⟨hP, hD⟩ := va_join (wr := (xw ad cd w (fun _ => 0) (fun _ => 0) (nI 1) (-1) (fun _ => 0) (fun _ => 0) (fun _ => 0) (nI 0) (nI 0) live (fun _ => 0) (-1) (nI 0) (nI 0) (nI 0) (fun _ => 0) (nI 0) (fun _ => 0) (nI 0) (nI 0))) (w1 := (mw_ am cm 0 mw (fun _ => 0) (fun _ => 0) (fun _ => 0) (nI 1) (uf.2.1 5) (nI (uf.2.2 0)) (fun _ => 0) (uf.1 0) (fun _ => 0) (uf.2.1 0) (uf.2.1 1) (uf.2.1 2) (uf.2.1 3) (uf.2.1 4) (fun _ => 0) 0 0 0)) hP hD [15] [0, 1, 2, 3, 4, 5, 6, 7, 8, 9, 10, 11, 12, 13, 14] rfl rfl (by decide) (by decide) hk1 hFc hP1 hD1
  have hK := hK.app hK1
  generalize H1 = H at hP hS ⊢
  generalize locs1 = locs at hS ⊢
  have hP : va_P (dC, dI) vwCl ((xw ad cd w (fun _ => 0) (fun _ => 0) (nI 1) (-1) (fun _ => 0) (fun _ => 0) (fun _ => 0) (nI 0) (nI 0) live (fun _ => 0) (-1) (nI 0) (nI 0) (nI 0) (fun _ => 0) (nI 0) (fun _ => 0) (nI 0) (nI 0)) ++ (mw_ am cm 0 mw (fun _ => 0) (fun _ => 0) (fun _ => 0) (nI 1) (uf.2.1 5) (nI (uf.2.2 0)) (fun _ => 0) (uf.1 0) (fun _ => 0) (uf.2.1 0) (uf.2.1 1) (uf.2.1 2) (uf.2.1 3) (uf.2.1 4) (fun _ => 0) 0 0 0)) H := hP
  have hD : va_D (fun q => s.heap.size ≤ q) ((xw ad cd w (fun _ => 0) (fun _ => 0) (nI 1) (-1) (fun _ => 0) (fun _ => 0) (fun _ => 0) (nI 0) (nI 0) live (fun _ => 0) (-1) (nI 0) (nI 0) (nI 0) (fun _ => 0) (nI 0) (fun _ => 0) (nI 0) (nI 0)) ++ (mw_ am cm 0 mw (fun _ => 0) (fun _ => 0) (fun _ => 0) (nI 1) (uf.2.1 5) (nI (uf.2.2 0)) (fun _ => 0) (uf.1 0) (fun _ => 0) (uf.2.1 0) (uf.2.1 1) (uf.2.1 2) (uf.2.1 3) (uf.2.1 4) (fun _ => 0) 0 0 0)) := hD
  have hK : va_K (dC, dI) vwCl (xt cd ++ mt cm) s := hK
  refine lv_astore_n hx hb d_L_law_15 rfl hl (by decide) rfl (fun ls hl => ?_)
  have hl : lv_has ls 8 [(2, .ref (am 0)), (1, .ref (ad 0)), (0, .ref b)] := hl
  refine lv_iconst (v := nI 1) hx hb d_L_law_16 (by decide) ?_
  refine va_newa (atype := .long) (ty := .long) (a0 := (1, .inr (.inl (fun _ => 0)))) (N' := 1) hx hb (hts (.arrayClass .long) (List.mem_cons_of_mem _ t_998)) rfl hK hP hD hS hA (fun cA => nw_l cA 1) (by decide +kernel) (by decide +kernel) (by decide +kernel) (show 25 ≤ 1052 by decide) (show 1775 ≤ 9985 by decide) d_L_law_17 (fun q17 k17 H hK hP hD hS => ?_)
  have hP : va_P (dC, dI) vwCl (((xw ad cd w (fun _ => 0) (fun _ => 0) (nI 1) (-1) (fun _ => 0) (fun _ => 0) (fun _ => 0) (nI 0) (nI 0) live (fun _ => 0) (-1) (nI 0) (nI 0) (nI 0) (fun _ => 0) (nI 0) (fun _ => 0) (nI 0) (nI 0)) ++ (mw_ am cm 0 mw (fun _ => 0) (fun _ => 0) (fun _ => 0) (nI 1) (uf.2.1 5) (nI (uf.2.2 0)) (fun _ => 0) (uf.1 0) (fun _ => 0) (uf.2.1 0) (uf.2.1 1) (uf.2.1 2) (uf.2.1 3) (uf.2.1 4) (fun _ => 0) 0 0 0)) ++ [(q17, .inl (k17, 1, .inr (.inl (fun _ => 0))))]) H := hP
  have hD : va_D (fun q => s.heap.size ≤ q) (((xw ad cd w (fun _ => 0) (fun _ => 0) (nI 1) (-1) (fun _ => 0) (fun _ => 0) (fun _ => 0) (nI 0) (nI 0) live (fun _ => 0) (-1) (nI 0) (nI 0) (nI 0) (fun _ => 0) (nI 0) (fun _ => 0) (nI 0) (nI 0)) ++ (mw_ am cm 0 mw (fun _ => 0) (fun _ => 0) (fun _ => 0) (nI 1) (uf.2.1 5) (nI (uf.2.2 0)) (fun _ => 0) (uf.1 0) (fun _ => 0) (uf.2.1 0) (uf.2.1 1) (uf.2.1 2) (uf.2.1 3) (uf.2.1 4) (fun _ => 0) 0 0 0)) ++ [(q17, .inl (k17, 1, .inr (.inl (fun _ => 0))))]) := hD
  have hK : va_K (dC, dI) vwCl [(cd 5, .boolean), (cd 6, .int), (cd 7, .int), (cd 8, .int), (cd 9, .int), (cd 10, .boolean), (cd 11, .int), (cd 12, .int), (cd 13, .int), (cd 14, .byte), (cm 1, .int), (cm 2, .int), (cm 3, .boolean), (cm 4, .boolean), (cm 5, .int), (cm 6, .int), (cm 7, .int), (cm 8, .int), (k17, .long)] s := hK
  obtain ⟨ao, eao⟩ : ∃ z, z = q17 := ⟨_, rfl⟩
  obtain ⟨co, eco⟩ : ∃ z, z = k17 := ⟨_, rfl⟩
  subst eao
  subst eco
  have hP : va_P (dC, dI) vwCl ((ao, .inl (co, 1, .inr (.inl (fun _ => 0)))) :: ((xw ad cd w (fun _ => 0) (fun _ => 0) (nI 1) (-1) (fun _ => 0) (fun _ => 0) (fun _ => 0) (nI 0) (nI 0) live (fun _ => 0) (-1) (nI 0) (nI 0) (nI 0) (fun _ => 0) (nI 0) (fun _ => 0) (nI 0) (nI 0)) ++ (mw_ am cm 0 mw (fun _ => 0) (fun _ => 0) (fun _ => 0) (nI 1) (uf.2.1 5) (nI (uf.2.2 0)) (fun _ => 0) (uf.1 0) (fun _ => 0) (uf.2.1 0) (uf.2.1 1) (uf.2.1 2) (uf.2.1 3) (uf.2.1 4) (fun _ => 0) 0 0 0))) H := hP.sub [24, 0, 1, 2, 3, 4, 5, 6, 7, 8, 9, 10, 11, 12, 13, 14, 15, 16, 17, 18, 19, 20, 21, 22, 23] rfl
  have hD : va_D (fun q => s.heap.size ≤ q) ((ao, .inl (co, 1, .inr (.inl (fun _ => 0)))) :: ((xw ad cd w (fun _ => 0) (fun _ => 0) (nI 1) (-1) (fun _ => 0) (fun _ => 0) (fun _ => 0) (nI 0) (nI 0) live (fun _ => 0) (-1) (nI 0) (nI 0) (nI 0) (fun _ => 0) (nI 0) (fun _ => 0) (nI 0) (nI 0)) ++ (mw_ am cm 0 mw (fun _ => 0) (fun _ => 0) (fun _ => 0) (nI 1) (uf.2.1 5) (nI (uf.2.2 0)) (fun _ => 0) (uf.1 0) (fun _ => 0) (uf.2.1 0) (uf.2.1 1) (uf.2.1 2) (uf.2.1 3) (uf.2.1 4) (fun _ => 0) 0 0 0))) := hD.sub [24, 0, 1, 2, 3, 4, 5, 6, 7, 8, 9, 10, 11, 12, 13, 14, 15, 16, 17, 18, 19, 20, 21, 22, 23] (by decide) rfl
  have hK : va_K (dC, dI) vwCl ((co, .long) :: (xt cd ++ mt cm)) s := hK.sub [18, 0, 1, 2, 3, 4, 5, 6, 7, 8, 9, 10, 11, 12, 13, 14, 15, 16, 17] rfl
  refine lv_astore_n hx hb d_L_law_19 rfl hl (by decide) rfl (fun ls hl => ?_)
  have hl : lv_has ls 8 [(3, .ref ao), (2, .ref (am 0)), (1, .ref (ad 0)), (0, .ref b)] := hl
  refine lv_iconst (v := nI 0) hx hb d_L_law_20 (by decide) ?_
  refine lv_istore hx hb d_L_law_21 hl (by decide) rfl (fun ls hl => ?_)
  have hl : lv_has ls 8 [(4, .int (nI 0)), (3, .ref ao), (2, .ref (am 0)), (1, .ref (ad 0)), (0, .ref b)] := hl
  exact law_loop hx hb hr hlocks hml hown hts hX hbl hbA hz haz hn hcI hN hl9 hA hK hL 0 (L + 1) (by omega) (by omega) w (fun _ => 0) (fun _ => 0) (nI 1) (-1) (fun _ => 0) (fun _ => 0) (fun _ => 0) (nI 0) (nI 0) live (fun _ => 0) (-1) (nI 0) (nI 0) (nI 0) (fun _ => 0) (nI 0) (fun _ => 0) (nI 0) (nI 0) 0 mw (fun _ => 0) (fun _ => 0) (fun _ => 0) (nI 1) (uf.2.1 5) (nI (uf.2.2 0)) (fun _ => 0) (uf.1 0) (fun _ => 0) (uf.2.1 0) (uf.2.1 1) (uf.2.1 2) (uf.2.1 3) (uf.2.1 4) (fun _ => 0) 0 0 0 (fun _ => 0) H locs ls (XI_mk (rn := 0) (tn := 0) (un := 0) (by omega) (by omega) (by omega) B01.n1 B01.n0 (fun _ _ => Or.inl rfl) (fun _ _ => ⟨0, by decide, rfl⟩) (fun i hi => Or.inl (hlv i hi)) PG.m1) (MJ_mk (rn := uf.2.2 0) hmi) hP hD hS (lv_sub hl [4, 3, 2, 1, 0] rfl)
