/-! the reference's calls: what their indices rest on -/
def AB (x : Int32) : Prop := 0 ≤ x.toInt ∧ x.toInt ≤ 14
def TB (x : Int32) : Prop := 0 ≤ x.toInt ∧ x.toInt ≤ 60
theorem ref_0 {mf : Nat → Int32} : P_X4_refused mf 0 = (0, upd mf 0 0) := by unfold P_X4_refused; exact if_pos (by decide)
theorem ref_1 {mf : Nat → Int32} : P_X4_refused mf 1 = (1, upd mf 0 1) := by unfold P_X4_refused; exact if_neg (by decide)
theorem ref_2 {mf : Nat → Int32} : P_X4_refused mf 2 = (1, upd mf 0 2) := by unfold P_X4_refused; exact if_neg (by decide)
theorem ref_o {mf : Nat → Int32} {w : Int32} : (P_X4_refused mf w).2 = upd mf 0 w := by
  unfold P_X4_refused
  by_cases h : w ≤ 0
  · rw [if_pos h]
  · rw [if_neg h]
theorem ref_ab {mf : Nat → Int32} {w : Int32} {u : Int32 × (Nat → Int32)} (h : P_X4_refused mf w = u) (ha : AB (mf 8)) : AB (u.2 8) := by
  rw [← h, ref_o]
  exact ha
theorem cp0 : CP 101 0 := ⟨by decide, by decide, by decide⟩
theorem cp_m {x : Int32} {k : Int} (hk : x.toInt = k) (h0 : 0 ≤ k) (h1 : k ≤ 13) : CP 1414 (101 * x) := by
  have h2 : (101 : Int32).toInt = 101 := by decide
  have e := toI_mul (a := 101) (b := x) (by omega) (by omega)
  exact ⟨by omega, by omega, by decide⟩
theorem cp_a {x : Int32} (h : AB x) (hn : ¬ x = 14) : CP 1414 (101 * x) := by
  obtain ⟨h1, h2⟩ := h
  have h3 : ¬ x.toInt = 14 := fun q => hn (Int32.toInt_inj.mp (q.trans (by decide)))
  exact cp_m rfl h1 (by omega)
theorem cp_b {x : Int32} (h : x = 14) : CP 1414 (101 * (x - 1)) := by
  subst h
  exact ⟨by decide, by decide, by decide⟩
theorem cp_u {x : Int32} (h : AB x) (hn : ¬ x = 0) : CP 1414 (101 * (x - 1)) := by
  obtain ⟨h1, h2⟩ := h
  have h3 : ¬ x.toInt = 0 := fun q => hn (Int32.toInt_inj.mp (q.trans (by decide)))
  have h4 : (1 : Int32).toInt = 1 := by decide
  have e := toI_sub (a := x) (b := 1) (by omega) (by omega)
  exact cp_m e (by omega) (by omega)
theorem ix_nt {k : Int32} (h0 : ¬ k < 0) (h1 : ¬ 1313 ≤ k) : vp_in k 1414 := by
  rw [Int32.lt_iff_toInt_lt] at h0
  rw [Int32.le_iff_toInt_le] at h1
  have h2 : (0 : Int32).toInt = 0 := by decide
  have h3 : (1313 : Int32).toInt = 1313 := by decide
  exact vp_in_iff.mpr ⟨by omega, by omega⟩
theorem ix_nt1 {k : Int32} (h0 : ¬ k < 0) (h1 : ¬ 1313 ≤ k) : vp_in (k + 101) 1414 := by
  rw [Int32.lt_iff_toInt_lt] at h0
  rw [Int32.le_iff_toInt_le] at h1
  have h2 : (0 : Int32).toInt = 0 := by decide
  have h3 : (1313 : Int32).toInt = 1313 := by decide
  have h4 : (101 : Int32).toInt = 101 := by decide
  have e := toI_add (a := k) (b := 101) (by omega) (by omega)
  exact vp_in_iff.mpr ⟨by omega, by omega⟩
theorem cmp_lt {x y : Int64} : lg_cmp x y < 0 ↔ x < y := by
  unfold lg_cmp
  by_cases h1 : y < x
  · have h2 : ¬ x < y := lg_lt_not h1
    simp [h1, h2]
    try decide
  · by_cases h2 : x < y
    · simp [h1, h2]
      try decide
    · simp [h1, h2]
      try decide
theorem cmp_gt {x y : Int64} : 0 < lg_cmp x y ↔ y < x := by
  unfold lg_cmp
  by_cases h1 : y < x
  · simp [h1]
    try decide
  · by_cases h2 : x < y
    · simp [h1, h2]
      try decide
    · simp [h1, h2]
      try decide
theorem in_1 {v lo hi : Int64} (h : ¬ P_X4_in v lo hi = 0) : lo.toInt ≤ v.toInt ∧ v.toInt ≤ hi.toInt := by
  unfold P_X4_in at h
  by_cases c1 : lg_cmp v lo < 0
  · rw [if_pos c1] at h
    exact absurd rfl h
  · rw [if_neg c1] at h
    by_cases c2 : 0 < lg_cmp v hi
    · rw [if_pos c2] at h
      exact absurd rfl h
    · rw [cmp_lt, Int64.lt_iff_toInt_lt] at c1
      rw [cmp_gt, Int64.lt_iff_toInt_lt] at c2
      omega
theorem in_0 {v lo hi : Int64} (h : P_X4_in v lo hi = 0) : ¬ (lo.toInt ≤ v.toInt ∧ v.toInt ≤ hi.toInt) := by
  unfold P_X4_in at h
  rintro ⟨e1, e2⟩
  rw [if_neg (by rw [cmp_lt, Int64.lt_iff_toInt_lt]; omega), if_neg (by rw [cmp_gt, Int64.lt_iff_toInt_lt]; omega)] at h
  exact absurd h (by decide)
theorem in_i {v : Int32} {lo hi : Int64} (h : ¬ P_X4_in v.toInt64 lo hi = 0) : lo.toInt ≤ v.toInt ∧ v.toInt ≤ hi.toInt := by
  have := in_1 h
  rwa [Int32.toInt_toInt64] at this
theorem ix_of {x : Int32} {n : Nat} {k : Int} (h : x.toInt = k) (h0 : 0 ≤ k) (h1 : k < n) : vp_in x n := vp_in_iff.mpr ⟨by omega, by omega⟩
theorem ix_app {x : Int32} (h : TB x) (hn : ¬ x = 60) : vp_in x 60 := by
  obtain ⟨h1, h2⟩ := h
  have h3 : ¬ x.toInt = 60 := fun q => hn (Int32.toInt_inj.mp (q.trans (by decide)))
  exact ix_of rfl h1 (by omega)
theorem ix_ab1 {x : Int32} (h : ¬ P_X4_in x.toInt64 0 15 = 0) (h2 : ¬ 8 ≤ x) : vp_in x 101 := by
  have h1 := in_i h
  have e0 : (0 : Int64).toInt = 0 := by decide
  have e1 : (15 : Int64).toInt = 15 := by decide
  exact ix_of rfl (by omega) (by omega)
theorem ix_ab2 {x : Int32} (h : ¬ P_X4_in x.toInt64 0 15 = 0) (h2 : 8 ≤ x) (_ : ¬ x = 8) : vp_in (x - 1) 101 := by
  have h1 := in_i h
  have e0 : (0 : Int64).toInt = 0 := by decide
  have e1 : (15 : Int64).toInt = 15 := by decide
  rw [Int32.le_iff_toInt_le] at h2
  have e2 : (8 : Int32).toInt = 8 := by decide
  have e3 : (1 : Int32).toInt = 1 := by decide
  have e := toI_sub (a := x) (b := 1) (by omega) (by omega)
  exact ix_of e (by omega) (by omega)
theorem ix_told {pn : Nat → Int32} {j w : Int32} (h : PV pn) (hj : ¬ j < 0) (hw : ¬ P_X4_in w.toInt64 0 3 = 0) (hl : ¬ pn 12 ≤ j) : vp_in ((21 + (4 * j)) + w) 101 := by
  have h1 := in_i hw
  obtain ⟨-, -, -, -, h2, h3⟩ := h
  have e0 : (0 : Int64).toInt = 0 := by decide
  have e1 : (3 : Int64).toInt = 3 := by decide
  rw [Int32.lt_iff_toInt_lt] at hj
  rw [Int32.le_iff_toInt_le] at hl
  have e2 : (0 : Int32).toInt = 0 := by decide
  have e3 : (4 : Int32).toInt = 4 := by decide
  have e4 : (21 : Int32).toInt = 21 := by decide
  have m := toI_mul (a := 4) (b := j) (by omega) (by omega)
  have a1 := toI_add (a := 21) (b := 4 * j) (by omega) (by omega)
  have a2 := toI_add (a := 21 + 4 * j) (b := w) (by omega) (by omega)
  exact ix_of a2 (by omega) (by omega)
theorem ix_set {w v : Int32} (h : ¬ P_X4_isSetting w v = 0) : vp_in w 101 := by
  unfold P_X4_isSetting at h
  by_cases c0 : w = 0
  · subst c0; unfold vp_in; decide
  by_cases c1 : w = 1
  · subst c1; unfold vp_in; decide
  by_cases c2 : w = 2
  · subst c2; unfold vp_in; decide
  by_cases c3 : w = 3
  · subst c3; unfold vp_in; decide
  by_cases c4 : w = 4
  · subst c4; unfold vp_in; decide
  by_cases c5 : w = 5
  · subst c5; unfold vp_in; decide
  by_cases c6 : w = 6
  · subst c6; unfold vp_in; decide
  · rw [if_neg c0, if_neg c1, if_neg c2, if_neg c3, if_neg c4, if_neg c5, if_neg c6] at h
    exact absurd rfl h
theorem ix_add6 {pn : Nat → Int32} (h : PV pn) (hn : ¬ pn 9 = 6) : vp_in (15 + pn 9) 101 := by
  obtain ⟨⟨h1, h2⟩, -⟩ := h
  have e4 : (15 : Int32).toInt = 15 := by decide
  have a1 := toI_add (a := 15) (b := pn 9) (by omega) (by omega)
  exact ix_of a1 (by omega) (by omega)
theorem ten2_ne (x : Int32) : ¬ (2 * P_X4_ten x) = 0 := by
  rcases ten_cases x with h | h | h | h <;> rw [h] <;> decide
