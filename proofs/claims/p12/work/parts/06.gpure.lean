/-! ranges of a state that any run may come to -/
def B01 (x : Int32) : Prop := x = 0 ∨ x = 1
theorem B01.nar {x : Int32} (h : B01 x) : narrow .boolean (.int x) = .int x := by
  rcases h with rfl | rfl <;> rfl
theorem B01.n0 : B01 (nI 0) := Or.inl rfl
theorem B01.n1 : B01 (nI 1) := Or.inr rfl
theorem B01_upd {f : Nat → Int32} {n k : Nat} {x : Int32} (h : ∀ i, i < n → B01 (f i)) (hx : B01 (vp_nar .boolean x)) : ∀ i, i < n → B01 (upd f k (vp_nar .boolean x) i) := fun i hi => by
  unfold upd
  split
  · exact hx
  · exact h i hi
/-- a page or a block, or none -/
def PG (n : Nat) (x : Int32) : Prop := x = -1 ∨ ∃ p : Nat, p < n ∧ x = nI p
theorem PG.m1 {n : Nat} : PG n (-1) := Or.inl rfl
theorem PG.of {n p : Nat} (h : p < n) : PG n (nI p) := Or.inr ⟨p, h, rfl⟩
theorem PG_upd {f : Nat → Int32} {m n k : Nat} {x : Int32} (h : ∀ i, i < m → PG n (f i)) (hx : PG n x) : ∀ i, i < m → PG n (upd f k x i) := fun i hi => by
  unfold upd
  split
  · exact hx
  · exact h i hi
