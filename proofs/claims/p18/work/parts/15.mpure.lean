/-! the reference's ranges -/
def MI (rn : Nat) (lv : Nat → Int32) (cur : Int32) : Prop := rn ≤ 48 ∧ (∀ i, i < 16 → PG 32 (lv i)) ∧ PG 8 cur ∧ ∀ k, k < 16 → 3 * k + 3 ≤ rn → lv k ≠ -1
theorem MI.off {lv : Nat → Int32} (h : ∀ i, i < 16 → lv i = -1) : MI 0 lv (-1) := ⟨by omega, fun i hi => Or.inl (h i hi), Or.inl rfl, fun k _ h => by omega⟩
theorem MI.cur {rn : Nat} {lv : Nat → Int32} {c x : Int32} (h : MI rn lv c) (hx : PG 8 x) : MI rn lv x := ⟨h.1, h.2.1, hx, h.2.2.2⟩
theorem MI.put {rn lf p : Nat} {lv : Nat → Int32} {c : Int32} (h : MI rn lv c) (hp : p < 32) : MI rn (upd lv lf (nI p)) c := ⟨h.1, PG_upd h.2.1 (PG.of hp), h.2.2.1, fun k hk h3 => by
  unfold upd
  split
  · exact nm_ne (by omega) (by decide)
  · exact h.2.2.2 k hk h3⟩
/-- a record more, whose leaf is on the chip if it is full -/
theorem MI.more {rn : Nat} {lv : Nat → Int32} {c : Int32} (h : MI rn lv c) (hr : rn < 48) (hf : rn % 3 = 2 → lv (rn / 3) ≠ -1) : MI (rn + 1) lv c := ⟨by omega, h.2.1, h.2.2.1, fun k hk h3 => by
  by_cases e : 3 * k + 3 ≤ rn
  · exact h.2.2.2 k hk e
  · have e2 : k = rn / 3 := by omega
    rw [e2]
    exact hf (by omega)⟩
/-- a page that is neither free nor live -/
def ST (w lv : Nat → Int32) (b : Nat) : Prop := ∃ j, j < 4 ∧ ¬ fp w (4 * b + j) ∧ ∀ i, i < 16 → lv i ≠ nI (4 * b + j)
def SV (w lv : Nat → Int32) (x : Int32) : Prop := x = -1 ∨ ∃ b : Nat, b < 8 ∧ x = nI b ∧ ST w lv b
/-- a clean block, or none -/
def CB (w : Nat → Int32) (x : Int32) : Prop := x = -1 ∨ ∃ c : Nat, c < 8 ∧ x = nI c ∧ ∀ j, j < 4 → fp w (4 * c + j)
theorem CB.pg {w : Nat → Int32} {x : Int32} (h : CB w x) : PG 8 x := h.elim Or.inl (fun ⟨c, a, b, _⟩ => Or.inr ⟨c, a, b⟩)
theorem fp_keep {w w' : Nat → Int32} {q p : Nat} (h : ∀ i, (i < 16 * q ∨ 16 * q + 16 ≤ i) → w' i = w i) (hp : p ≠ q) (hf : fp w p) : fp w' p := fun i hi => by
  rw [h _ (by omega)]
  exact hf i hi
theorem fp_keepB {w w' : Nat → Int32} {b p : Nat} (h : ∀ i, (i < 64 * b ∨ 64 * b + 64 ≤ i) → w' i = w i) (hp : p < 4 * b ∨ 4 * b + 4 ≤ p) (hf : fp w p) : fp w' p := fun i hi => by
  rw [h _ (by omega)]
  exact hf i hi
theorem fp_er {w' : Nat → Int32} {b j : Nat} (h : ∀ i, 64 * b ≤ i → i < 64 * b + 64 → w' i = -1) (hj : j < 4) : fp w' (4 * b + j) := fun i hi => h _ (by omega) (by omega)
theorem upd_out {f g : Nat → Int32} {a k n : Nat} {x : Int32} (h : ∀ i, (i < a ∨ a + n ≤ i) → f i = g i) (hk : k < n) : ∀ i, (i < a ∨ a + n ≤ i) → upd f (a + k) x i = g i := fun i hi => by
  rw [pk_un (by omega)]
  exact h i hi
theorem upd_in {f : Nat → Int32} {a k : Nat} {x : Int32} (h : ∀ i, a ≤ i → i < a + k → f i = x) : ∀ i, a ≤ i → i < a + (k + 1) → upd f (a + k) x i = x := fun i h1 h2 => by
  by_cases e : i = a + k
  · rw [e]; exact pk_us
  · rw [pk_un e]; exact h i h1 (by omega)
theorem upd_nl {lv : Nat → Int32} {z p q : Nat} (h : ∀ i, i < 16 → lv i ≠ nI q) (hp : p ≠ q) (h1 : p < 2 ^ 31) (h2 : q < 2 ^ 31) : ∀ i, i < 16 → upd lv z (nI p) i ≠ nI q := fun i hi => by
  unfold upd
  split
  · exact fun e => hp ((nI_eq h1 h2).mp e)
  · exact h i hi
/-- a record that voids -/
def vx (lw : Nat → Int32) (q : Nat) : Int32 := ((lw (4 * q + 2)).toUInt32 >>> (Int32.toUInt32 (nI 26) &&& Int32.toUInt32 31)).toInt32
def vd (lw : Nat → Int32) (q : Nat) : Prop := vx lw q = nI 63
/-- how many of the first records are tickets -/
def nv (lw : Nat → Int32) : Nat → Nat
  | 0 => 0
  | q + 1 => nv lw q + if vx lw q = nI 63 then 0 else 1
theorem nv_y {lw : Nat → Int32} {q : Nat} (h : vd lw q) : nv lw (q + 1) = nv lw q := by
  show nv lw q + (if vx lw q = nI 63 then 0 else 1) = _
  rw [if_pos (show vx lw q = nI 63 from h)]
  omega
theorem nv_n {lw : Nat → Int32} {q : Nat} (h : ¬ vd lw q) : nv lw (q + 1) = nv lw q + 1 := by
  show nv lw q + (if vx lw q = nI 63 then 0 else 1) = _
  rw [if_neg (show ¬ vx lw q = nI 63 from h)]
theorem nv_le (lw : Nat → Int32) (q : Nat) : nv lw q ≤ q := by
  induction q with
  | zero => exact Nat.le_refl _
  | succ q ih =>
    by_cases h : vd lw q
    · rw [nv_y h]; omega
    · rw [nv_n h]; omega
theorem no_s {k : Nat} {x : Int32} (h : ∀ t, 1 ≤ t → t ≤ k → x ≠ nI t) (c : ¬ nI (k + 1) = x) : ∀ t, 1 ≤ t → t ≤ k + 1 → x ≠ nI t := fun t h1 h2 e => by
  by_cases q : t = k + 1
  · rw [q] at e; exact c e.symm
  · exact h t h1 (by omega) e
/-- the leaf before a record's, where the record opens its own -/
theorem MI.before {rn q p : Nat} {lv : Nat → Int32} {c : Int32} (h : MI rn lv c) (hq : q < rn) (hl : lv (q / 3) = nI p) (hp : p < 32) (h0 : 0 < q) : IX 32 (lv ((q - 1) / 3)) := by
  by_cases e : (q - 1) / 3 = q / 3
  · rw [e]; exact ⟨p, hp, hl⟩
  · have h1 := h.1
    exact (h.2.1 _ (by omega)).resolve_left (h.2.2.2 _ (by omega) (by omega))
/-- the page that is free first -/
def FF (w : Nat → Int32) (b : Nat) (x : Int32) : Prop := (∃ j, j < 4 ∧ x = nI (4 * b + j) ∧ fp w (4 * b + j) ∧ ∀ i, i < j → ¬ fp w (4 * b + i)) ∨ (x = -1 ∧ ∀ j, j < 4 → ¬ fp w (4 * b + j))
theorem lt_n {P : Nat → Prop} {k : Nat} (h : ∀ i, i < k → ¬ P i) (hk : ¬ P k) : ∀ i, i < k + 1 → ¬ P i := fun i hi => if e : i = k then e ▸ hk else h i (by omega)
theorem lt_y {P : Nat → Prop} {k : Nat} (h : ∀ i, i < k → P i) (hk : P k) : ∀ i, i < k + 1 → P i := fun i hi => if e : i = k then e ▸ hk else h i (by omega)
/-- numbers of sayNumber -/
theorem lab (x : Int32) : ∃ L : Nat, L ≤ 2 ^ 31 ∧ (¬ 0 ≤ lg_cmp x.toInt64 0 → -x.toInt64 = lN L) ∧ (0 ≤ lg_cmp x.toInt64 0 → x.toInt64 = lN L) := by
  have hx : (x.toInt64).toInt = x.toInt := Int32.toInt_toInt64 x
  have h1 : -2 ^ 31 ≤ x.toInt := Int32.le_toInt x
  have h2 : x.toInt < 2 ^ 31 := Int32.toInt_lt x
  refine ⟨x.toInt.natAbs, by omega, fun c => ?_, fun c => ?_⟩
  · have c1 : ¬ (0 : Int64) ≤ x.toInt64 := fun q => c ((lg_cmp_ge _ _).mpr q)
    have c2 : x.toInt < 0 := by
      rw [Int64.le_iff_toInt_le, hx] at c1
      have h3 : (0 : Int64).toInt = 0 := by decide
      omega
    refine Int64.toInt_inj.mp ?_
    rw [pk_lT (by omega), Int64.toInt_neg, hx]
    rw [Int.bmod_eq_of_le (by omega) (by omega)]
    omega
  · have c1 : (0 : Int64) ≤ x.toInt64 := (lg_cmp_ge _ _).mp c
    have c2 : 0 ≤ x.toInt := by
      rw [Int64.le_iff_toInt_le, hx] at c1
      have h3 : (0 : Int64).toInt = 0 := by decide
      omega
    refine Int64.toInt_inj.mp ?_
    rw [pk_lT (by omega), hx]
    omega
theorem lN_ne {n : Nat} (h0 : 0 < n) (h : n < 2 ^ 63) : ¬ lN n = 0 := fun e => by
  have h1 := (pk_lEQ (b := 0) h (by decide)).mp (e.trans (by decide))
  omega
theorem l_gt9 {L T : Nat} (hL : L ≤ 2 ^ 31) (h0 : 0 < T) (hT : T < 2 ^ 40) (c : ¬ lg_cmp (lN L / lN T) 9 ≤ 0) : T * 10 ≤ L := by
  have h1 : ¬ lN L / lN T ≤ 9 := fun q => c ((lg_cmp_le _ _).mpr q)
  rw [pk_lDiv (by omega) h0 (by omega), show (9 : Int64) = lN 9 by decide, pk_lLE (by have := Nat.div_le_self L T; omega) (by decide)] at h1
  have h2 : 10 ≤ L / T := by omega
  have h3 := (Nat.le_div_iff_mul_le h0).mp h2
  omega
theorem l_mul10 (T : Nat) : lN T * 10 = lN (T * 10) := by
  show Int64.ofNat T * Int64.ofNat 10 = Int64.ofNat (T * 10)
  exact (Int64.ofNat_mul T 10).symm
theorem l_div10 {T : Nat} (h : T < 2 ^ 40) : lN T / 10 = lN (T / 10) := by
  rw [show (10 : Int64) = lN 10 by decide]
  exact pk_lDiv (by omega) (by decide) (by decide)
theorem l_pos {T : Nat} (h : T < 2 ^ 40) (c : ¬ lg_cmp (lN T) 0 ≤ 0) : 0 < T := by
  have h1 : ¬ lN T ≤ 0 := fun q => c ((lg_cmp_le _ _).mpr q)
  rw [show (0 : Int64) = lN 0 by decide, pk_lLE (by omega) (by decide)] at h1
  omega
theorem MI.mk {rn : Nat} {lv : Nat → Int32} {c : Int32} (h1 : rn ≤ 48) (h2 : ∀ i, i < 16 → PG 32 (lv i)) (h3 : PG 8 c) (h4 : ∀ k, k < 16 → 3 * k + 3 ≤ rn → lv k ≠ -1) : MI rn lv c := ⟨h1, h2, h3, h4⟩
theorem MI.offE {r : Nat} {lv : Nat → Int32} {c : Int32} (h0 : r = 0) (h : ∀ i, i < 16 → lv i = -1) (hc : c = -1) : MI r lv c := by
  rw [h0, hc]
  exact MI.off h
theorem MI.eq {r r' : Nat} {lv lv' : Nat → Int32} {c c' : Int32} (h : MI r lv c) (e1 : r' = r) (e2 : lv' = lv) (e3 : c' = c) : MI r' lv' c' := by
  rw [e1, e2, e3]
  exact h
theorem MI.putE {r r' lf p : Nat} {lv lv' : Nat → Int32} {c c' : Int32} (h : MI r lv c) (hp : p < 32) (e1 : r' = r) (e2 : lv' = upd lv lf (nI p)) (e3 : c' = c) : MI r' lv' c' := by
  rw [e1, e2, e3]
  exact h.put hp
theorem put_ne {lv lv' : Nat → Int32} {lf p : Nat} (e : lv' = upd lv lf (nI p)) (hp : p < 32) : lv' lf ≠ -1 := by
  rw [e, pk_us]
  exact nm_ne (by omega) (by decide)
theorem put_nes {lv : Nat → Int32} {k p : Nat} (h : ∀ i, i < k → lv i ≠ -1) (hp : p < 32) : ∀ i, i < k + 1 → upd lv k (nI p) i ≠ -1 := fun i hi => by
  unfold upd
  split
  · exact nm_ne (by omega) (by decide)
  · exact h i (by omega)
