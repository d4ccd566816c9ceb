/-! ranges of a state that any run may come to -/
def B01 (x : Int32) : Prop := x = nI 0 ∨ x = nI 1
theorem B01.nar {x : Int32} (h : B01 x) : narrow .boolean (.int x) = .int x := by
  rcases h with rfl | rfl <;> rfl
theorem B01.vn {x : Int32} (h : B01 x) : vp_nar .boolean x = x := by
  rcases h with rfl | rfl <;> rfl
theorem B01.n0 : B01 (nI 0) := Or.inl rfl
theorem B01.n1 : B01 (nI 1) := Or.inr rfl
theorem B01_upd {f : Nat → Int32} {n k : Nat} {x : Int32} (h : ∀ i, i < n → B01 (f i)) (hx : B01 (vp_nar .boolean x)) : ∀ i, i < n → B01 (upd f k (vp_nar .boolean x) i) := fun i hi => by
  unfold upd
  split
  · exact hx
  · exact h i hi
/-- a page or a block, or none -/
def PG (n : Nat) (x : Int32) : Prop := x = -1 ∨ ∃ p : Nat, p < n ∧ x = nI p
theorem PG.m1 {n : Nat} : PG n (-1) := Or.inl rfl
theorem PG.of {n p : Nat} (h : p < n) : PG n (nI p) := Or.inr ⟨p, h, rfl⟩
theorem PG_upd {f : Nat → Int32} {m n k : Nat} {x : Int32} (h : ∀ i, i < m → PG n (f i)) (hx : PG n x) : ∀ i, i < m → PG n (upd f k x i) := fun i hi => by
  unfold upd
  split
  · exact hx
  · exact h i hi
/-- an index -/
def IX (n : Nat) (x : Int32) : Prop := ∃ p : Nat, p < n ∧ x = nI p
theorem IX.of {n p : Nat} (h : p < n) : IX n (nI p) := ⟨p, h, rfl⟩
theorem IX_upd {f : Nat → Int32} {m n k : Nat} {x : Int32} (h : ∀ i, i < m → IX n (f i)) (hx : IX n x) : ∀ i, i < m → IX n (upd f k x i) := fun i hi => by
  unfold upd
  split
  · exact hx
  · exact h i hi
/-- what a search for a page answers: worn out, off, or a page -/
def PO (x : Int32) : Prop := x = -1 ∨ x = -2 ∨ ∃ p : Nat, p < 32 ∧ x = nI p
/-- done, worn out, off -/
def RO (x : Int32) : Prop := x = nI 1 ∨ x = -1 ∨ x = -2
theorem RO.po {x : Int32} (h : RO x) (c : ¬ x = nI 1) : PO x := by
  rcases h with h | h | h
  · exact absurd h c
  · exact Or.inl h
  · exact Or.inr (Or.inl h)
theorem PG.po {x : Int32} (h : PG 32 x) : PO x := h.elim Or.inl (fun z => Or.inr (Or.inr z))
theorem nm_ne {p : Nat} {x : Int32} (h : p < 2 ^ 31) (hx : x < 0) : ¬ nI p = x := fun q => nI_pos h (by rw [q]; exact hx)
theorem nm_lt {p : Nat} {x : Int32} (h : p < 2 ^ 31) (hx : x < 0) : ¬ nI p < x := fun q => by
  have h1 := Int32.lt_iff_toInt_lt.mp q
  have h2 := Int32.lt_iff_toInt_lt.mp hx
  rw [nI_toInt h] at h1
  have h3 : (0 : Int32).toInt = 0 := by decide
  omega
/-- a right page's head -/
def RT (w : Nat → Int32) (p : Nat) : Prop := ∃ h : Nat, h < 64 ∧ h % 4 ≠ 0 ∧ w (16 * p) = nI h
def RTP (w : Nat → Int32) (x : Int32) : Prop := x = -1 ∨ ∃ p : Nat, p < 32 ∧ x = nI p ∧ RT w p
theorem RTP.pg {w : Nat → Int32} {x : Int32} (h : RTP w x) : PG 32 x := h.elim Or.inl (fun ⟨p, a, b, _⟩ => Or.inr ⟨p, a, b⟩)
theorem RTP_upd {w f : Nat → Int32} {m k : Nat} {x : Int32} (h : ∀ i, i < m → RTP w (f i)) (hx : RTP w x) : ∀ i, i < m → RTP w (upd f k x i) := fun i hi => by
  unfold upd
  split
  · exact hx
  · exact h i hi
/-- a clean block -/
def CL (w fl : Nat → Int32) (b : Nat) : Prop := fl b = 0 ∧ ∀ j, j < 4 → fp w (b * 4 + j)
theorem fc_s {P : Nat → Prop} {n k : Nat} (h : n = k ↔ ∀ j, j < k → P j) (p : P k) : n + 1 = k + 1 ↔ ∀ j, j < k + 1 → P j :=
  ⟨fun e j hj => if q : j = k then q ▸ p else h.mp (by omega) j (by omega), fun f => by have := h.mpr (fun j hj => f j (by omega)); omega⟩
theorem fc_n {P : Nat → Prop} {n k : Nat} (hn : n ≤ k) (p : ¬ P k) : n = k + 1 ↔ ∀ j, j < k + 1 → P j :=
  ⟨fun e => by omega, fun f => absurd (f k (by omega)) p⟩
theorem fc_0 {P : Nat → Prop} : (0 = 0 ↔ ∀ j, j < 0 → P j) := ⟨fun _ j hj => absurd hj (Nat.not_lt_zero j), fun _ => rfl⟩
/-- a number between two others -/
theorem in_nt {x : Int32} {n : Nat} (h : nI 0 ≤ x ∧ x ≤ nI n) (hn : n < 2 ^ 31 := by decide) : ∃ j : Nat, j < n + 1 ∧ x = nI j := by
  obtain ⟨j, h1, h2⟩ := nI_of2 (M := nI n) (nI_toInt hn) (Int32.not_lt.mpr (by rw [← nI_0]; exact h.1)) h.2
  exact ⟨j, by omega, h2⟩
theorem tk_nat {x : Int32} {n : Nat} (h : nI 1 ≤ x ∧ x ≤ nI n) (hn : n < 2 ^ 31) : ∃ j : Nat, j < n ∧ x = nI (j + 1) := by
  have h0 : ¬ x < 0 := fun q => by
    have h1 := Int32.le_iff_toInt_le.mp h.1
    have h2 := Int32.lt_iff_toInt_lt.mp q
    rw [nI_toInt (by decide)] at h1
    have h3 : (0 : Int32).toInt = 0 := by decide
    omega
  obtain ⟨j, h1, h2⟩ := nI_of2 (M := nI n) (nI_toInt hn) h0 h.2
  subst h2
  have h3 := (nI_leI (by decide) (by omega)).mp h.1
  exact ⟨j - 1, by omega, by rw [show j - 1 + 1 = j by omega]⟩
theorem mx1 (x : Int32) : nI 1 ≤ (if x < nI 1 then nI 1 else x) := by
  split
  · decide
  · next h => exact Int32.not_lt.mp h
theorem mn_le (t : Int32) (n : Nat) : (if nI n < t then nI n else t) ≤ nI n := by
  split
  · exact Int32.le_refl _
  · next h => exact Int32.not_lt.mp h
theorem le_nat {j n : Nat} {z : Int32} (h : ¬ z < nI j) (hz : z ≤ nI n) (hj : j < 2 ^ 31) (hn : n < 2 ^ 31) : j ≤ n := (nI_leI hj hn).mp (Int32.le_trans (Int32.not_lt.mp h) hz)
/-- what is left of an index behind a line -/
theorem rest_sub {x : Int32} {n : Nat} (h0 : 0 ≤ x) (h : nI n ≤ x) (hn : n < 2 ^ 31) : 0 ≤ x - nI n := by
  obtain ⟨j, h1, h2⟩ := nI_of (x := x) (Int32.not_lt.mpr h0)
  subst h2
  rw [pk_sub ((nI_leI hn h1).mp h)]
  exact nI_pos' (by omega)
theorem rest_ix {x : Int32} {n : Nat} (h0 : 0 ≤ x) (h : ¬ nI n ≤ x) (hn : n < 2 ^ 31) : ∃ j : Nat, j < n ∧ x = nI j := by
  obtain ⟨j, h1, h2⟩ := nI_of (x := x) (Int32.not_lt.mpr h0)
  subst h2
  exact ⟨j, by have := cd_ge_f h1 hn h; omega, rfl⟩
theorem pl_m1 (a b : Nat) : nI (a + b) - nI 1 = nI (a + b) + (-1) := by rw [Int32.sub_eq_add_neg]; rfl
theorem rtp_new {w : Nat → Int32} {r kn : Int32} {p : Nat} (h : r = kn ∨ r = nI p) (hk : RTP w kn) (hp : p < 32) (hr : RT w p) : RTP w r := h.elim (fun e => e ▸ hk) (fun e => Or.inr ⟨p, hp, e, hr⟩)
theorem an_pos {u k : Nat} (hb : u + k < 2 ^ 30) (h : ¬ nI (u + k) + (-1) < nI u) : 0 < k := by
  rcases Nat.eq_zero_or_pos k with rfl | hk
  · refine absurd ?_ h
    have h1 : (nI (u + 0) + (-1)) = nI u - nI 1 := by rw [← pl_m1 u 0]; rfl
    rw [h1, Int32.lt_iff_toInt_lt, pk_sub_toInt (by omega) (by decide), nI_toInt (by omega)]
    omega
  · exact hk
