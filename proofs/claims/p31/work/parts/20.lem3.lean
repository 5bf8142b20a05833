theorem ten_cases (x : Int32) : P_X4_ten x = 1 ∨ P_X4_ten x = 10 ∨ P_X4_ten x = 100 ∨ P_X4_ten x = 1000 := by
  unfold P_X4_ten
  by_cases h0 : x = 0
  · exact Or.inl (by simp [h0])
  by_cases h1 : x = 1
  · exact Or.inr (Or.inl (by simp [h1]))
  by_cases h2 : x = 2
  · exact Or.inr (Or.inr (Or.inl (by simp [h2])))
  · exact Or.inr (Or.inr (Or.inr (by simp [h0, h1, h2])))
theorem ten_ne (x : Int32) : ¬ P_X4_ten x = 0 := by
  rcases ten_cases x with h | h | h | h <;> rw [h] <;> decide
theorem ten_b (x : Int32) : 1 ≤ (P_X4_ten x).toInt ∧ (P_X4_ten x).toInt ≤ 1000 := by
  rcases ten_cases x with h | h | h | h <;> rw [h] <;> decide
theorem pv_unk {pg : Nat → Int32} (h : PV pg) : 1 ≤ (P_X4_unknown pg).toInt ∧ (P_X4_unknown pg).toInt ≤ 9999 := by
  obtain ⟨h1, h2, h3, -⟩ := h
  unfold P_X4_unknown
  have h4 : (15 : Int32).toInt = 15 := by decide
  have e := toI_add (a := 15) (b := pg 10) (by omega) (by omega)
  have e2 : (15 + pg 10).toNatClampNeg = 15 + (pg 10).toInt.toNat := by
    rw [Int32.toNatClampNeg, e]
    omega
  show 1 ≤ (pg (15 + pg 10).toNatClampNeg).toInt ∧ (pg (15 + pg 10).toNatClampNeg).toInt ≤ 9999
  rw [e2]
  exact h3 (pg 10).toInt.toNat (by omega)
theorem div_val {pg : Nat → Int32} {x bx : Int32} (hx : 1 ≤ x.toInt ∧ x.toInt ≤ 9999) (hb : RB bx) : (P_X4_divisor pg x bx).toInt = ((P_X4_ten (pg 0)).toInt + (P_X4_ten (pg 1)).toInt) * (x.toInt + bx.toInt) := by
  unfold P_X4_divisor
  obtain ⟨hb1, hb2⟩ := hb
  have t0 := ten_b (pg 0)
  have t1 := ten_b (pg 1)
  have e1 := toI_add (a := P_X4_ten (pg 0)) (b := P_X4_ten (pg 1)) (by omega) (by omega)
  have e2 := toI_add (a := x) (b := bx) (by omega) (by omega)
  have hm : ((P_X4_ten (pg 0) + P_X4_ten (pg 1)).toInt) * (x + bx).toInt ≤ 2000 * 19998 := Int.mul_le_mul (by omega) (by omega) (by omega) (by omega)
  have hm0 : 0 ≤ ((P_X4_ten (pg 0) + P_X4_ten (pg 1)).toInt) * (x + bx).toInt := Int.mul_nonneg (by omega) (by omega)
  rw [toI_mul (by omega) (by omega), e1, e2]
theorem pv_div {pg : Nat → Int32} {bx : Int32} (h : PV pg) (hb : RB bx) : ¬ P_X4_divisor pg (P_X4_unknown pg) bx = 0 := by
  intro q
  have h1 := div_val (pg := pg) (pv_unk h) hb
  rw [q] at h1
  have t0 := ten_b (pg 0)
  have t1 := ten_b (pg 1)
  have hu := pv_unk h
  obtain ⟨hb1, hb2⟩ := hb
  have h2 : (0 : Int32).toInt = 0 := by decide
  have : 1 * 1 ≤ ((P_X4_ten (pg 0)).toInt + (P_X4_ten (pg 1)).toInt) * ((P_X4_unknown pg).toInt + bx.toInt) := Int.mul_le_mul (by omega) (by omega) (by omega) (by omega)
  omega
