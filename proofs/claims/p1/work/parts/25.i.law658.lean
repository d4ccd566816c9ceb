set_option maxHeartbeats 4000000 in
set_option maxRecDepth 100000 in
theorem lc_658 {p : Program} {e : Env} {s : State} {m : MethodId} {below : List Frame} {meth : Method} {c : Code} {l : Launch} {b : Nat} {xs : Nat → Int32} {dC : Nat → ClassId} {dI : Nat → Nat → Nat} {ad cd am cm : Nat → Nat} {w live mw mlive : Nat → Int32} {ao co az : Nat} {H : Heap} {locs : List Loc} {ls : Array Slot}
    (hx : p.tables.exec = Jvm.exec) (hb : c.code = code) (hr : meth.sig.returnType = ret) (hlocks : meth.locks = false) (hml : c.maxLocals = 8) (hown : s.vm.findClass R_L = some m.cls) (hts : ∀ w ∈ (Cond.initialized R_R :: gw), w.before #[Value.ref b] s = true) (hX : va_X b 5 xs s s.heap) (hbl : b < s.heap.size) (hbA : ¬ (fun q => s.heap.size ≤ q) b) (hz : tz s s.heap az) (haz : az < s.heap.size) (hn : nwz s) (hcI : va_Nc E_I E_S s) (hl9 : l.stackTraces = false) (hA : ∀ q, s.heap.size ≤ q → (fun q => s.heap.size ≤ q) q)
    (hK : va_K (dC, dI) vwCl ((co, .long) :: (xt cd ++ mt cm)) s) (hP : va_P (dC, dI) vwCl ((ao, .inl (co, 1, .inr (.inl (fun _ => 0)))) :: ((xw ad cd w (fun _ => 0) (fun _ => 0) (nI 1) (-1) (fun _ => 0) (fun _ => 0) (fun _ => 0) (nI 0) (nI 0) live (fun _ => 0) (-1) (nI 0) (nI 0) (nI 0) (fun _ => 0) (nI 0) (fun _ => 0) (nI 0) (nI 0)) ++ (mw_ am cm 0 mw (fun _ => 0) (fun _ => 0) (fun _ => 0) (nI 1) (-1) (nI 0) (fun _ => 0) mlive (fun _ => 0) (nI 0) (-1) (nI 0) (nI 0) (nI 0) (fun _ => 0) 0 0 0))) H) (hD : va_D (fun q => s.heap.size ≤ q) ((ao, .inl (co, 1, .inr (.inl (fun _ => 0)))) :: ((xw ad cd w (fun _ => 0) (fun _ => 0) (nI 1) (-1) (fun _ => 0) (fun _ => 0) (fun _ => 0) (nI 0) (nI 0) live (fun _ => 0) (-1) (nI 0) (nI 0) (nI 0) (fun _ => 0) (nI 0) (fun _ => 0) (nI 0) (nI 0)) ++ (mw_ am cm 0 mw (fun _ => 0) (fun _ => 0) (fun _ => 0) (nI 1) (-1) (nI 0) (fun _ => 0) mlive (fun _ => 0) (nI 0) (-1) (nI 0) (nI 0) (nI 0) (fun _ => 0) 0 0 0)))) (hS : va_S (fun q => s.heap.size ≤ q) s.heap H locs) (hw : ∀ i, i < 512 → w i = -1) (hlv : ∀ i, i < 16 → live i = -1) (hmw : ∀ i, i < 512 → mw i = -1) (hmv : ∀ i, i < 16 → mlive i = -1)
    (hl : lv_has ls 8 [(4, .int (nI 0)), (3, .ref ao), (2, .ref (am 0)), (1, .ref (ad 0)), (0, .ref b)]) : W p l e room_1 s m #[Value.ref b] below meth c H locs 25 1775 (lw_Z below #[Value.ref b] s) (F0 m 658 ls []) := by
  have hfl : ∀ i, i < 8 → (fun _ => 0 : Nat → Int32) i = 0 := fun _ _ => rfl
  have hmf := hfl
  refine lv_aload_n hx hb d_L_law_658 rfl (lv_at hl 3 rfl) ?_
  refine lv_aload_n hx hb d_L_law_659 rfl (lv_at hl 4 rfl) ?_
  refine lv_iload hx hb d_L_law_660 (lv_at hl 0 rfl) ?_
  refine lv_iconst (v := nI 1) hx hb d_L_law_662 (by decide) ?_
  refine lv_iadd hx hb d_L_law_663 ?_
  refine tp_i (y := nI (0 + 1)) (nI_add _ _) ?_
  refine va_sld hx hb hX hbl hbA hS (vp_in_nI (by omega) (by decide)) d_L_law_664 ?_
  refine tp_i (y := xs (0 + 1)) (by rw [nI_clamp (by omega)]) ?_
  refine lv_aload_n hx hb d_L_law_665 rfl (lv_at hl 4 rfl) ?_
  refine lv_iload hx hb d_L_law_666 (lv_at hl 0 rfl) ?_
  refine lv_iconst (v := nI 2) hx hb d_L_law_668 (by decide) ?_
  refine lv_iadd hx hb d_L_law_669 ?_
  refine tp_i (y := nI (0 + 2)) (nI_add _ _) ?_
  refine va_sld hx hb hX hbl hbA hS (vp_in_nI (by omega) (by decide)) d_L_law_670 ?_
  refine tp_i (y := xs (0 + 2)) (by rw [nI_clamp (by omega)]) ?_
  refine lv_aload_n hx hb d_L_law_671 rfl (lv_at hl 1 rfl) ?_
  have hPc := hP.sub (ws' := ((ao, .inl (co, 1, .inr (.inl (fun _ => 0)))) :: (xw ad cd w (fun _ => 0) (fun _ => 0) (nI 1) (-1) (fun _ => 0) (fun _ => 0) (fun _ => 0) (nI 0) (nI 0) live (fun _ => 0) (-1) (nI 0) (nI 0) (nI 0) (fun _ => 0) (nI 0) (fun _ => 0) (nI 0) (nI 0)))) [0, 1, 2, 3, 4, 5, 6, 7, 8, 9, 10, 11, 12, 13, 14, 15] rfl
  have hKc := hK.sub (tys' := ((co, .long) :: xt cd)) [0, 1, 2, 3, 4, 5, 6, 7, 8, 9, 10] rfl
  have hDc := hD.sub (ws' := ((ao, .inl (co, 1, .inr (.inl (fun _ => 0)))) :: (xw ad cd w (fun _ => 0) (fun _ => 0) (nI 1) (-1) (fun _ => 0) (fun _ => 0) (fun _ => 0) (nI 0) (nI 0) live (fun _ => 0) (-1) (nI 0) (nI 0) (nI 0) (fun _ => 0) (nI 0) (fun _ => 0) (nI 0) (nI 0)))) [0, 1, 2, 3, 4, 5, 6, 7, 8, 9, 10, 11, 12, 13, 14, 15] (by decide) rfl
  have hFc := va_free (wc := ((ao, .inl (co, 1, .inr (.inl (fun _ => 0)))) :: (xw ad cd w (fun _ => 0) (fun _ => 0) (nI 1) (-1) (fun _ => 0) (fun _ => 0) (fun _ => 0) (nI 0) (nI 0) live (fun _ => 0) (-1) (nI 0) (nI 0) (nI 0) (fun _ => 0) (nI 0) (fun _ => 0) (nI 0) (nI 0)))) hD hS hA [0, 1, 2, 3, 4, 5, 6, 7, 8, 9, 10, 11, 12, 13, 14, 15] rfl
  have hSz := hS.1
  refine va_calli (sw_run (n := 4) (As := [.ref (ad 0), .int (xs (0 + 1)), .int (xs (0 + 2)), .ref ao]) (rest := []) ⟨hx, hb, hml, hown, hts⟩ (cw_L_audit l dC dI ad cd ao co H.size w (fun _ => 0) (fun _ => 0) (nI 1) (-1) (fun _ => 0) (fun _ => 0) (fun _ => 0) (nI 0) (nI 0) live (fun _ => 0) (-1) (nI 0) (nI 0) (nI 0) (fun _ => 0) (nI 0) (fun _ => 0) (nI 0) (nI 0) (fun _ => 0) (xs (0 + 1)) (xs (0 + 2)) ) (g_c t_582) List.mem_cons_self (hts _ (List.mem_cons_of_mem _ t_580)) (hts _ (List.mem_cons_of_mem _ t_581)) (hts _ (List.mem_cons_of_mem _ t_0)) rfl rfl (by decide) (by decide) (by decide +kernel) (xP_s hPc hKc hDc) rfl rfl hl.1 rfl (lv_room (Nat.le_of_ble_eq_true rfl)) d_L_law_672 ⟨show 25 ≤ 30 by decide, show 1775 ≤ 1809 by decide⟩) hS (fun q _ h => hFc q (ow_A h)) (fun q h => hFc q (ow_A h)) (fun r672 u672 t H1 locs1 ht hvm q672 hB hz1 hk1 hS => ?_)
  obtain ⟨hP1, hK1, hD1⟩ := hB
  rw [ht] at hP1
  obtain ⟨hP, hD⟩ := va_join (wr := [(am 0, .inr (5, [.int 0, .ref (am 1), .ref (am 2), .ref (am 3), .ref (am 4), .int (nI 1), .int (-1), .int (nI 0), .ref (am 5), .ref (am 6), .ref (am 7), .int (nI 0), .int (-1), .int (nI 0), .int (nI 0), .int (nI 0), .ref (am 8), .int 0, .int 0, .int 0])), (am 1, .inl (cm 1, 512, .inl mw)), (am 2, .inl (cm 2, 8, .inl (fun _ => 0))), (am 3, .inl (cm 3, 8, .inl (fun _ => 0))), (am 4, .inl (cm 4, 40, .inl (fun _ => 0))), (am 5, .inl (cm 5, 192, .inl (fun _ => 0))), (am 6, .inl (cm 6, 16, .inl mlive)), (am 7, .inl (cm 7, 16, .inl (fun _ => 0))), (am 8, .inl (cm 8, 16, .inl (fun _ => 0)))]) (w1 := ((ao, .inl (co, 1, .inr (.inl (vp_updL (fun _ => 0) 0 ((nI 0).toInt64))))) :: (xw ad cd w (fun _ => 0) (fun _ => 0) (nI 1) (-1) (fun _ => 0) (fun _ => 0) (fun _ => 0) (nI 0) (nI 0) live (fun _ => 0) (-1) (nI 0) (nI 0) (nI 0) (fun _ => 0) (nI 0) (fun _ => 0) (nI 0) (nI 0)))) hP hD [0, 1, 2, 3, 4, 5, 6, 7, 8, 9, 10, 11, 12, 13, 14, 15] [16, 17, 18, 19, 20, 21, 22, 23, 24] rfl rfl (by decide) (by decide) (fun q h1 h2 => hk1 q h1 (fun z => h2 (ow_A z))) hFc hP1 (hD1.weaken (fun _ _ _ h => ow_A h))
  have hP : va_P (dC, dI) vwCl ((ao, .inl (co, 1, .inr (.inl (vp_updL (fun _ => 0) 0 ((nI 0).toInt64))))) :: ((xw ad cd w (fun _ => 0) (fun _ => 0) (nI 1) (-1) (fun _ => 0) (fun _ => 0) (fun _ => 0) (nI 0) (nI 0) live (fun _ => 0) (-1) (nI 0) (nI 0) (nI 0) (fun _ => 0) (nI 0) (fun _ => 0) (nI 0) (nI 0)) ++ (mw_ am cm 0 mw (fun _ => 0) (fun _ => 0) (fun _ => 0) (nI 1) (-1) (nI 0) (fun _ => 0) mlive (fun _ => 0) (nI 0) (-1) (nI 0) (nI 0) (nI 0) (fun _ => 0) 0 0 0))) H1 := hP.sub [9, 10, 11, 12, 13, 14, 15, 16, 17, 18, 19, 20, 21, 22, 23, 24, 0, 1, 2, 3, 4, 5, 6, 7, 8] rfl
  have hD : va_D (fun q => s.heap.size ≤ q) ((ao, .inl (co, 1, .inr (.inl (vp_updL (fun _ => 0) 0 ((nI 0).toInt64))))) :: ((xw ad cd w (fun _ => 0) (fun _ => 0) (nI 1) (-1) (fun _ => 0) (fun _ => 0) (fun _ => 0) (nI 0) (nI 0) live (fun _ => 0) (-1) (nI 0) (nI 0) (nI 0) (fun _ => 0) (nI 0) (fun _ => 0) (nI 0) (nI 0)) ++ (mw_ am cm 0 mw (fun _ => 0) (fun _ => 0) (fun _ => 0) (nI 1) (-1) (nI 0) (fun _ => 0) mlive (fun _ => 0) (nI 0) (-1) (nI 0) (nI 0) (nI 0) (fun _ => 0) 0 0 0))) := hD.sub [9, 10, 11, 12, 13, 14, 15, 16, 17, 18, 19, 20, 21, 22, 23, 24, 0, 1, 2, 3, 4, 5, 6, 7, 8] (by decide) rfl
  generalize H1 = H at hP hS ⊢
  generalize locs1 = locs at hS ⊢
  subst q672
  refine lv_istore hx hb d_L_law_675 hl (by decide) rfl (fun ls hl => ?_)
  have hl : lv_has ls 8 [(5, .int (nI 0)), (4, .int (nI 0)), (3, .ref ao), (2, .ref (am 0)), (1, .ref (ad 0)), (0, .ref b)] := hl
  refine lv_aload_n hx hb d_L_law_677 rfl (lv_at hl 3 rfl) ?_
  refine lv_aload_n hx hb d_L_law_678 rfl (lv_at hl 5 rfl) ?_
  refine lv_iload hx hb d_L_law_679 (lv_at hl 1 rfl) ?_
  refine lv_iconst (v := nI 1) hx hb d_L_law_681 (by decide) ?_
  refine lv_iadd hx hb d_L_law_682 ?_
  refine tp_i (y := nI (0 + 1)) (nI_add _ _) ?_
  refine va_sld hx hb hX hbl hbA hS (vp_in_nI (by omega) (by decide)) d_L_law_683 ?_
  refine tp_i (y := xs (0 + 1)) (by rw [nI_clamp (by omega)]) ?_
  refine lv_aload_n hx hb d_L_law_684 rfl (lv_at hl 5 rfl) ?_
  refine lv_iload hx hb d_L_law_685 (lv_at hl 1 rfl) ?_
  refine lv_iconst (v := nI 2) hx hb d_L_law_687 (by decide) ?_
  refine lv_iadd hx hb d_L_law_688 ?_
  refine tp_i (y := nI (0 + 2)) (nI_add _ _) ?_
  refine va_sld hx hb hX hbl hbA hS (vp_in_nI (by omega) (by decide)) d_L_law_689 ?_
  refine tp_i (y := xs (0 + 2)) (by rw [nI_clamp (by omega)]) ?_
  have hPc := hP.sub (ws' := (mw_ am cm 0 mw (fun _ => 0) (fun _ => 0) (fun _ => 0) (nI 1) (-1) (nI 0) (fun _ => 0) mlive (fun _ => 0) (nI 0) (-1) (nI 0) (nI 0) (nI 0) (fun _ => 0) 0 0 0)) [16, 17, 18, 19, 20, 21, 22, 23, 24] rfl
  have hKc := hK.sub (tys' := (mt cm)) [11, 12, 13, 14, 15, 16, 17, 18] rfl
  have hDc := hD.sub (ws' := (mw_ am cm 0 mw (fun _ => 0) (fun _ => 0) (fun _ => 0) (nI 1) (-1) (nI 0) (fun _ => 0) mlive (fun _ => 0) (nI 0) (-1) (nI 0) (nI 0) (nI 0) (fun _ => 0) 0 0 0)) [16, 17, 18, 19, 20, 21, 22, 23, 24] (by decide) rfl
  have hFc := va_free (wc := (mw_ am cm 0 mw (fun _ => 0) (fun _ => 0) (fun _ => 0) (nI 1) (-1) (nI 0) (fun _ => 0) mlive (fun _ => 0) (nI 0) (-1) (nI 0) (nI 0) (nI 0) (fun _ => 0) 0 0 0)) hD hS hA [16, 17, 18, 19, 20, 21, 22, 23, 24] rfl
  have hSz := hS.1
  refine va_calli (va_runV (C := R_M) (As := [.int (xs (0 + 1)), .int (xs (0 + 2))]) (rest := []) ⟨hx, hb, hml, hown, hts⟩ (c_M_audit_f l dC dI am cm H.size 0 mw (fun _ => 0) (fun _ => 0) (fun _ => 0) (nI 1) (-1) (nI 0) (fun _ => 0) mlive (fun _ => 0) (nI 0) (-1) (nI 0) (nI 0) (nI 0) (fun _ => 0) 0 0 0 (xs (0 + 1)) (xs (0 + 2)) ) (cwV 2 hts (g_V t_919 t_920 t_921 t_6 t_922) rfl rfl rfl (by decide +kernel) ⟨by decide, by decide⟩) (xP_v hPc hKc hDc 0 rfl rfl) rfl rfl hl.1 rfl (lv_room (Nat.le_of_ble_eq_true rfl)) d_L_law_690 ⟨show 25 ≤ 30 by decide, show 1775 ≤ 1809 by decide⟩) hS (fun q _ h => hFc q (mw_A h)) (fun q h => hFc q (mw_A h)) (fun r690 u690 t H1 locs1 ht hvm q690 hB hz1 hk1 hS => ?_)
  obtain ⟨hP1, hK1, hD1⟩ := hB
  rw [ht] at hP1
  obtain ⟨hP, hD⟩ := va_join (wr := [(ao, .inl (co, 1, .inr (.inl (vp_updL (fun _ => 0) 0 ((nI 0).toInt64))))), (ad 0, .inr (4, [.ref (ad 1), .ref (ad 2), .ref (ad 3), .ref (ad 4), .ref (ad 5), .int (nI 0), .int (nI 0)])), (ad 1, .inr (3, [.ref (ad 2), .ref (ad 6), .ref (ad 7), .int (-1), .int (nI 0), .int (nI 0), .int (nI 0)])), (ad 2, .inr (0, [.ref (ad 8), .ref (ad 9), .ref (ad 10), .int (nI 1), .int (-1)])), (ad 3, .inr (2, [.ref (ad 11), .ref (ad 12), .ref (ad 13), .int (nI 0), .int (nI 0)])), (ad 4, .inr (1, [.ref (ad 14), .int (nI 0)])), (ad 5, .inl (cd 5, 40, .inl (fun _ => 0))), (ad 6, .inl (cd 6, 16, .inl live)), (ad 7, .inl (cd 7, 16, .inl (fun _ => 0))), (ad 8, .inl (cd 8, 512, .inl w)), (ad 9, .inl (cd 9, 8, .inl (fun _ => 0))), (ad 10, .inl (cd 10, 8, .inl (fun _ => 0))), (ad 11, .inl (cd 11, 192, .inl (fun _ => 0))), (ad 12, .inl (cd 12, 48, .inl (fun _ => 0))), (ad 13, .inl (cd 13, 48, .inl (fun _ => 0))), (ad 14, .inl (cd 14, 32, .inl (fun _ => 0)))]) (w1 := (mw_ am cm (nI 0) mw (fun _ => 0) (fun _ => 0) (fun _ => 0) (nI 1) (-1) (nI 0) (fun _ => 0) mlive (fun _ => 0) (nI 0) (-1) (nI 0) (nI 0) (nI 0) (fun _ => 0) 0 0 0)) hP hD [16, 17, 18, 19, 20, 21, 22, 23, 24] [0, 1, 2, 3, 4, 5, 6, 7, 8, 9, 10, 11, 12, 13, 14, 15] rfl rfl (by decide) (by decide) (fun q h1 h2 => hk1 q h1 (fun z => h2 (mw_A z))) hFc hP1 (hD1.weaken (fun _ _ _ h => mw_A h))
  have hP : va_P (dC, dI) vwCl ((ao, .inl (co, 1, .inr (.inl (vp_updL (fun _ => 0) 0 ((nI 0).toInt64))))) :: ((xw ad cd w (fun _ => 0) (fun _ => 0) (nI 1) (-1) (fun _ => 0) (fun _ => 0) (fun _ => 0) (nI 0) (nI 0) live (fun _ => 0) (-1) (nI 0) (nI 0) (nI 0) (fun _ => 0) (nI 0) (fun _ => 0) (nI 0) (nI 0)) ++ (mw_ am cm (nI 0) mw (fun _ => 0) (fun _ => 0) (fun _ => 0) (nI 1) (-1) (nI 0) (fun _ => 0) mlive (fun _ => 0) (nI 0) (-1) (nI 0) (nI 0) (nI 0) (fun _ => 0) 0 0 0))) H1 := hP.sub [0, 1, 2, 3, 4, 5, 6, 7, 8, 9, 10, 11, 12, 13, 14, 15, 16, 17, 18, 19, 20, 21, 22, 23, 24] rfl
  have hD : va_D (fun q => s.heap.size ≤ q) ((ao, .inl (co, 1, .inr (.inl (vp_updL (fun _ => 0) 0 ((nI 0).toInt64))))) :: ((xw ad cd w (fun _ => 0) (fun _ => 0) (nI 1) (-1) (fun _ => 0) (fun _ => 0) (fun _ => 0) (nI 0) (nI 0) live (fun _ => 0) (-1) (nI 0) (nI 0) (nI 0) (fun _ => 0) (nI 0) (fun _ => 0) (nI 0) (nI 0)) ++ (mw_ am cm (nI 0) mw (fun _ => 0) (fun _ => 0) (fun _ => 0) (nI 1) (-1) (nI 0) (fun _ => 0) mlive (fun _ => 0) (nI 0) (-1) (nI 0) (nI 0) (nI 0) (fun _ => 0) 0 0 0))) := hD.sub [0, 1, 2, 3, 4, 5, 6, 7, 8, 9, 10, 11, 12, 13, 14, 15, 16, 17, 18, 19, 20, 21, 22, 23, 24] (by decide) rfl
  generalize H1 = H at hP hS ⊢
  generalize locs1 = locs at hS ⊢
  subst q690
  refine lv_istore hx hb d_L_law_693 hl (by decide) rfl (fun ls hl => ?_)
  have hl : lv_has ls 8 [(6, .int (nI 0)), (5, .int (nI 0)), (4, .int (nI 0)), (3, .ref ao), (2, .ref (am 0)), (1, .ref (ad 0)), (0, .ref b)] := hl
  refine lv_aload_n hx hb d_L_law_695 rfl (lv_at hl 4 rfl) ?_
  have hPc := hP.sub (ws' := (mw_ am cm (nI 0) mw (fun _ => 0) (fun _ => 0) (fun _ => 0) (nI 1) (-1) (nI 0) (fun _ => 0) mlive (fun _ => 0) (nI 0) (-1) (nI 0) (nI 0) (nI 0) (fun _ => 0) 0 0 0)) [16, 17, 18, 19, 20, 21, 22, 23, 24] rfl
  have hKc := hK.sub (tys' := (mt cm)) [11, 12, 13, 14, 15, 16, 17, 18] rfl
  refine vp_callSi (va_runV (C := R_M) (As := []) (rest := []) ⟨hx, hb, hml, hown, hts⟩ (c_M_thrown l dC dI am cm (nI 0) mw (fun _ => 0) (fun _ => 0) (fun _ => 0) (nI 1) (-1) (nI 0) (fun _ => 0) mlive (fun _ => 0) (nI 0) (-1) (nI 0) (nI 0) (nI 0) (fun _ => 0) 0 0 0  ) (cwV 0 hts (g_V t_773 t_774 t_775 t_6 t_776) rfl rfl rfl (by decide +kernel) ⟨by decide, by decide⟩) (xR_v hPc hKc 0 rfl rfl) rfl rfl hl.1 rfl (lv_room (Nat.le_of_ble_eq_true rfl)) d_L_law_696 ⟨show 25 ≤ 30 by decide, show 1775 ≤ 1809 by decide⟩).run (fun r696 q696 => ?_)
  subst q696
  refine lv_iload hx hb d_L_law_699 (lv_at hl 1 rfl) ?_
  refine lv_icmp_eq (tgt := 706) hx hb d_L_law_701 (by decide) (fun c701 => ?_) (fun c701 => ?_)
  ·
    refine lv_iload hx hb d_L_law_706 (lv_at hl 1 rfl) ?_
    refine lv_if_ne (tgt := 723) hx hb d_L_law_708 (by decide) (fun c708 => ?_) (fun c708 => ?_)
    ·
      exact absurd c708 (by decide)
    ·
      refine lv_aload_n hx hb d_L_law_711 rfl (lv_at hl 3 rfl) ?_
      refine lv_iconst (v := nI 0) hx hb d_L_law_712 (by decide) ?_
      refine va_lald hx hb hK hP 0 0 rfl rfl (vp_in_nI (by omega) (by decide)) d_L_law_713 ?_
      refine tp_l (y := (vp_updL (fun _ => 0) 0 ((nI 0).toInt64)) 0) (by rw [nI_clamp (by omega)]) ?_
      refine lv_iload hx hb d_L_law_714 (lv_at hl 0 rfl) ?_
      refine lv_i2l (v := (nI 0).toInt64) hx hb d_L_law_716 rfl ?_
      refine W.lcmp hx hb d_L_law_717 ?_
      refine lv_if_eq (tgt := 723) hx hb d_L_law_718 (by decide) (fun c718 => ?_) (fun c718 => ?_)
      ·
        refine lv_goto (tgt := 1175) hx hb d_L_law_723 (by decide) ?_
        refine lv_iinc (k := 2) (v := nI (0 + 5)) hx hb d_L_law_1175 hl rfl (by rw [show Int32.ofInt 5 = nI 5 by decide]; exact nI_add _ _) (by decide) rfl (fun ls hl => ?_)
        have hl : lv_has ls 8 [(4, .int (nI (0 + 5))), (6, .int (nI 0)), (5, .int (nI 0)), (3, .ref ao), (2, .ref (am 0)), (1, .ref (ad 0)), (0, .ref b)] := hl
        refine lv_goto (tgt := 23) hx hb d_L_law_1178 (by decide) ?_
        refine lv_iload hx hb d_L_law_23 (lv_at hl 0 rfl) ?_
        refine lv_aload_n hx hb d_L_law_25 rfl (lv_at hl 6 rfl) ?_
        refine va_slen hx hb hX hbl hbA hS d_L_law_26 ?_
        refine lv_iconst (v := nI 5) hx hb d_L_law_27 (by decide) ?_
        refine lv_isub hx hb d_L_law_28 ?_
        refine tp_i (y := nI (5 - 5)) (pk_sub (by omega)) ?_
        refine lv_icmp_gt (tgt := 1181) hx hb d_L_law_29 (by decide) (fun c29 => ?_) (fun c29 => ?_)
        ·
          refine lv_iconst (v := 1) hx hb d_L_law_1181 (by decide) ?_
          refine va_forget (fun q hq => hS.2.2 q hq) ?_
          refine W.widen (k := 30) (n := 1809) (show 25 ≤ 30 by decide) (show 1775 ≤ 1809 by decide) ?_
          exact lw_ret hx hb hr hlocks d_L_law_1182
        ·
          exact absurd (by decide) c29
      ·
        exact absurd (lg_eq (by first | rfl | rw [hw _ (by omega), hmw _ (by omega)])) c718
  ·
    exact absurd c701 (by decide)
