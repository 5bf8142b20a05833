/-! plain facts that the rows ask for -/
def jmax (x y : Int32) : Int32 := if x < y then y else x
def jmin (x y : Int32) : Int32 := if y < x then y else x
def jabs (x : Int32) : Int32 := if 0 ≤ x then x else 0 - x
theorem ix_le {i N : Int32} {n : Nat} (h0 : ¬ i < 0) (h1 : ¬ N ≤ i) (hN : N.toInt = n) : vp_in i n := by
  rw [Int32.lt_iff_toInt_lt] at h0
  rw [Int32.le_iff_toInt_le] at h1
  have h2 : (0 : Int32).toInt = 0 := by decide
  exact vp_in_iff.mpr ⟨by omega, by omega⟩
theorem i32_mul4 (x : Int32) : ∃ k : Int, (x * 4).toInt = 4 * k := by
  rw [Int32.toInt_mul]
  have : (4 : Int32).toInt = 4 := by decide
  rw [this, Int.bmod_def]
  split
  · exact ⟨(x.toInt * 4 % 4294967296) / 4, by omega⟩
  · exact ⟨(x.toInt * 4 % 4294967296 - 4294967296) / 4, by omega⟩
theorem ix_w {x d : Int32} {k : Nat} (h0 : ¬ x * 4 < 0) (h1 : ¬ 80 ≤ x * 4 + 3) (hd : d.toInt = k) (hk : k ≤ 3) : vp_in (x * 4 + d) 80 := by
  obtain ⟨q, hq⟩ := i32_mul4 x
  rw [Int32.lt_iff_toInt_lt] at h0
  rw [Int32.le_iff_toInt_le] at h1
  have h2 : (0 : Int32).toInt = 0 := by decide
  have h3 : (80 : Int32).toInt = 80 := by decide
  have h4 : (3 : Int32).toInt = 3 := by decide
  have hb := (x * 4).toInt_lt
  have e3 : (x * 4 + 3).toInt = (x * 4).toInt + 3 := by
    rw [Int32.toInt_add, h4]
    apply Int.bmod_eq_of_le <;> omega
  have e : (x * 4 + d).toInt = (x * 4).toInt + k := by
    rw [Int32.toInt_add, hd]
    apply Int.bmod_eq_of_le <;> omega
  exact vp_in_iff.mpr ⟨by omega, by omega⟩
theorem ix_w0 {x : Int32} (h0 : ¬ x * 4 < 0) (h1 : ¬ 80 ≤ x * 4 + 3) : vp_in (x * 4) 80 := by
  have h := ix_w (d := 0) (k := 0) h0 h1 (by decide) (by decide)
  rwa [Int32.add_zero] at h
theorem ix_w1 {x : Int32} (h0 : ¬ x * 4 < 0) (h1 : ¬ 80 ≤ x * 4 + 3) : vp_in (x * 4 + 1) 80 := ix_w (k := 1) h0 h1 (by decide) (by decide)
theorem ix_w2 {x : Int32} (h0 : ¬ x * 4 < 0) (h1 : ¬ 80 ≤ x * 4 + 3) : vp_in (x * 4 + 2) 80 := ix_w (k := 2) h0 h1 (by decide) (by decide)
theorem ix_w3 {x : Int32} (h0 : ¬ x * 4 < 0) (h1 : ¬ 80 ≤ x * 4 + 3) : vp_in (x * 4 + 3) 80 := ix_w (k := 3) h0 h1 (by decide) (by decide)
theorem i64_ne {x : Int32} (h : ¬ x = 0) : ¬ x.toInt64 = 0 := fun q => h (by
  have h1 : x.toInt64.toInt = (0 : Int64).toInt := by rw [q]
  rw [Int32.toInt_toInt64] at h1
  exact Int32.toInt_inj.mp (h1.trans (by decide)))
theorem nn_inc {i N : Int32} (h0 : ¬ i < 0) (h : ¬ N ≤ i) : ¬ i + 1 < 0 := by
  rw [Int32.lt_iff_toInt_lt] at h0 ⊢
  rw [Int32.le_iff_toInt_le] at h
  have h2 : (0 : Int32).toInt = 0 := by decide
  have h3 : (1 : Int32).toInt = 1 := by decide
  have hb := N.toInt_lt
  have e : (i + 1).toInt = i.toInt + 1 := by
    rw [Int32.toInt_add, h3]
    apply Int.bmod_eq_of_le <;> omega
  omega
theorem nz {x : Int32} (h : x = 0 ∨ x = 1) : narrow .boolean (.int x) = .int x := by
  rcases h with rfl | rfl <;> rfl
theorem nf {x : Int32} (h : x = 0 ∨ x = 1) : fits .boolean (.int x) = true := by
  rcases h with rfl | rfl <;> rfl
theorem zif {c : Prop} {d : Decidable c} {a b : Int32} (ha : a = 0 ∨ a = 1) (hb : b = 0 ∨ b = 1) : ite c a b = 0 ∨ ite c a b = 1 := by
  by_cases h : c
  · rw [if_pos h]; exact ha
  · rw [if_neg h]; exact hb
