/-! the text: what is allowed at a place; the class's reading of it -/
def dgc (x : Int) : Prop := 48 ≤ x ∧ x ≤ 57
def okc (T : Nat → Int) : Nat → Prop
  | 0 => T 0 = 71
  | 1 => 48 ≤ T 1 ∧ T 1 ≤ 51
  | 2 => 48 ≤ T 2 ∧ T 2 ≤ 51
  | 3 => dgc (T 3)
  | 4 => dgc (T 4)
  | 5 => dgc (T 5)
  | 6 => dgc (T 6)
  | 7 => dgc (T 7)
  | 8 => dgc (T 8) ∧ 0 < 10 * (T 7 - 48) + (T 8 - 48)
  | 9 => 48 ≤ T 9 ∧ T 9 ≤ 51
  | 10 => T 10 = 43 ∨ T 10 = 45
  | 11 => 48 ≤ T 11 ∧ T 11 ≤ 53
  | 12 => dgc (T 12) ∧ 10 * (T 11 - 48) + (T 12 - 48) ≤ 50
  | 13 => 48 ≤ T 13 ∧ T 13 ≤ 50
  | 14 => dgc (T 14) ∧ 10 * (T 13 - 48) + (T 14 - 48) ≤ 20
  | j + 15 => j < 30 ∧ ((j % 5 = 0 → T (j + 15) = 120) ∧ (¬ j % 5 = 0 → dgc (T (j + 15))) ∧ (j % 5 = 4 → 0 < 1000 * (T (j + 12) - 48) + 100 * (T (j + 13) - 48) + 10 * (T (j + 14) - 48) + (T (j + 15) - 48)))
def TI (tc : Nat → Int32) : Nat → Int := fun j => (tc j).toInt
/-- the class's text and the reference's are the same -/
def TR (tf tc mf tt : Nat → Int32) : Prop := tf 1 = mf 2 ∧ TB (mf 2) ∧ (∀ j : Nat, (j : Int) < (mf 2).toInt → tc j = tt j) ∧ ∀ j : Nat, 0 ≤ (tc j).toInt ∧ (tc j).toInt ≤ 255
theorem dst {x c : Int32} (hx : -1000000 ≤ x.toInt ∧ x.toInt ≤ 1000000) (hc : 0 ≤ c.toInt ∧ c.toInt ≤ 255) : (((10 * x) + c) - 48).toInt = 10 * x.toInt + c.toInt - 48 := by
  have z10 : (10 : Int32).toInt = 10 := by decide
  have z48 : (48 : Int32).toInt = 48 := by decide
  have m : (10 * x).toInt = x.toInt * 10 := by
    rw [Int32.mul_comm]
    exact toI_mk z10 (by omega) (by omega)
  have a := toI_add (a := 10 * x) (b := c) (by omega) (by omega)
  have s := toI_sub (a := 10 * x + c) (b := 48) (by omega) (by omega)
  omega
section TX
variable {tf tc mf tt : Nat → Int32}
theorem let_i (h : TR tf tc mf tt) {x : Int32} {j : Nat} (hx : x.toInt = j) (hj : (j : Int) < (mf 2).toInt) : P_X2_letter tf tc x = tc j := by
  obtain ⟨h1, ⟨h2, h3⟩, -, -⟩ := h
  have z0 : (0 : Int32).toInt = 0 := by decide
  have z60 : (60 : Int32).toInt = 60 := by decide
  unfold P_X2_letter
  rw [if_neg (by rw [Int32.lt_iff_toInt_lt]; omega), if_neg (by rw [Int32.le_iff_toInt_le, h1]; omega), if_neg (by rw [Int32.le_iff_toInt_le]; omega)]
  have e : x.toNatClampNeg = j := by show x.toInt.toNat = j; omega
  rw [e]
theorem dig1_i (h : TR tf tc mf tt) {x : Int32} {j : Nat} (hx : x.toInt = j) (hj : (j : Int) < (mf 2).toInt) : (P_X2_digits tf tc x 1).toInt = TI tc j - 48 := by
  have e : P_X2_digits tf tc x 1 = (((10 * 0) + P_X2_letter tf tc (x + 0)) - 48) := rfl
  have z0 : (0 : Int32).toInt = 0 := by decide
  rw [e, let_i h (x := x + 0) (j := j) (by rw [Int32.add_zero]; exact hx) hj]
  have d := dst (x := 0) (c := tc j) (by decide) (h.2.2.2 j)
  rw [d, z0]
  show _ = (tc j).toInt - 48
  omega
theorem dig2_i (h : TR tf tc mf tt) {x : Int32} {j : Nat} (hx : x.toInt = j) (hj : (j : Int) + 1 < (mf 2).toInt) : (P_X2_digits tf tc x 2).toInt = 10 * (TI tc j - 48) + (TI tc (j + 1) - 48) := by
  have e : P_X2_digits tf tc x 2 = (((10 * (((10 * 0) + P_X2_letter tf tc (x + 0)) - 48)) + P_X2_letter tf tc (x + (0 + 1))) - 48) := rfl
  have z0 : (0 : Int32).toInt = 0 := by decide
  have z1 : (0 + 1 : Int32).toInt = 1 := by decide
  have hN := h.2.1.2
  have a1 := toI_add (a := x) (b := 0 + 1) (by omega) (by omega)
  rw [e, let_i h (x := x + 0) (j := j) (by rw [Int32.add_zero]; exact hx) (by omega), let_i h (x := x + (0 + 1)) (j := j + 1) (by omega) (by omega)]
  have b0 := h.2.2.2 j
  have b1 := h.2.2.2 (j + 1)
  have d := dst (x := 0) (c := tc j) (by decide) b0
  rw [z0] at d
  have d2 := dst (x := ((10 * 0) + tc j) - 48) (c := tc (j + 1)) (by omega) b1
  rw [d2, d]
  show _ = 10 * ((tc j).toInt - 48) + ((tc (j + 1)).toInt - 48)
  omega
theorem dig4_i (h : TR tf tc mf tt) {x : Int32} {j : Nat} (hx : x.toInt = j) (hj : (j : Int) + 3 < (mf 2).toInt) : (P_X2_digits tf tc x 4).toInt = 1000 * (TI tc j - 48) + 100 * (TI tc (j + 1) - 48) + 10 * (TI tc (j + 2) - 48) + (TI tc (j + 3) - 48) := by
  have e : P_X2_digits tf tc x 4 = (((10 * (((10 * (((10 * (((10 * 0) + P_X2_letter tf tc (x + 0)) - 48)) + P_X2_letter tf tc (x + (0 + 1))) - 48)) + P_X2_letter tf tc (x + (0 + 1 + 1))) - 48)) + P_X2_letter tf tc (x + (0 + 1 + 1 + 1))) - 48) := rfl
  have z0 : (0 : Int32).toInt = 0 := by decide
  have z1 : (0 + 1 : Int32).toInt = 1 := by decide
  have z2 : (0 + 1 + 1 : Int32).toInt = 2 := by decide
  have z3 : (0 + 1 + 1 + 1 : Int32).toInt = 3 := by decide
  have hN := h.2.1.2
  have a1 := toI_add (a := x) (b := 0 + 1) (by omega) (by omega)
  have a2 := toI_add (a := x) (b := 0 + 1 + 1) (by omega) (by omega)
  have a3 := toI_add (a := x) (b := 0 + 1 + 1 + 1) (by omega) (by omega)
  rw [e, let_i h (x := x + 0) (j := j) (by rw [Int32.add_zero]; exact hx) (by omega), let_i h (x := x + (0 + 1)) (j := j + 1) (by omega) (by omega), let_i h (x := x + (0 + 1 + 1)) (j := j + 2) (by omega) (by omega), let_i h (x := x + (0 + 1 + 1 + 1)) (j := j + 3) (by omega) (by omega)]
  have b0 := h.2.2.2 j
  have b1 := h.2.2.2 (j + 1)
  have b2 := h.2.2.2 (j + 2)
  have b3 := h.2.2.2 (j + 3)
  have d := dst (x := 0) (c := tc j) (by decide) b0
  rw [z0] at d
  have d2 := dst (x := ((10 * 0) + tc j) - 48) (c := tc (j + 1)) (by omega) b1
  have d3 := dst (x := ((10 * (((10 * 0) + tc j) - 48)) + tc (j + 1)) - 48) (c := tc (j + 2)) (by omega) b2
  have d4 := dst (x := ((10 * (((10 * (((10 * 0) + tc j) - 48)) + tc (j + 1)) - 48)) + tc (j + 2)) - 48) (c := tc (j + 3)) (by omega) b3
  rw [d4, d3, d2, d]
  show _ = 1000 * ((tc j).toInt - 48) + 100 * ((tc (j + 1)).toInt - 48) + 10 * ((tc (j + 2)).toInt - 48) + ((tc (j + 3)).toInt - 48)
  omega
theorem isd_i (c g : Int32) : (P_X2_isDigit c g = 0 ∧ ¬ (48 ≤ c.toInt ∧ c.toInt ≤ g.toInt)) ∨ (¬ P_X2_isDigit c g = 0 ∧ 48 ≤ c.toInt ∧ c.toInt ≤ g.toInt) := by
  have z : (48 : Int32).toInt = 48 := by decide
  unfold P_X2_isDigit
  by_cases c1 : c < 48
  · rw [if_pos c1]
    rw [Int32.lt_iff_toInt_lt] at c1
    exact Or.inl ⟨rfl, by omega⟩
  · rw [if_neg c1]
    rw [Int32.lt_iff_toInt_lt] at c1
    by_cases c2 : g < c
    · rw [if_pos c2]
      rw [Int32.lt_iff_toInt_lt] at c2
      exact Or.inl ⟨rfl, by omega⟩
    · rw [if_neg c2]
      rw [Int32.lt_iff_toInt_lt] at c2
      exact Or.inr ⟨by decide, by omega⟩
theorem fit_d {c g : Int32} {G : Int} {P : Prop} (hg : g.toInt = G) (hP : P ↔ (48 ≤ c.toInt ∧ c.toInt ≤ G)) : (P_X2_isDigit c g = 0 ∧ ¬ P) ∨ (¬ P_X2_isDigit c g = 0 ∧ P) := by
  rcases isd_i c g with ⟨a, b⟩ | ⟨a, b⟩
  · exact Or.inl ⟨a, fun q => b (by rw [hg]; exact hP.mp q)⟩
  · exact Or.inr ⟨a, hP.mpr (by rw [hg] at b; exact b)⟩
theorem fit_n {c g : Int32} {G : Int} {P R : Prop} {d : Decidable R} (hg : g.toInt = G) (hP : P ↔ ((48 ≤ c.toInt ∧ c.toInt ≤ G) ∧ ¬ R)) : ((if P_X2_isDigit c g = 0 then (0 : Int32) else (if R then 0 else 1)) = 0 ∧ ¬ P) ∨ (¬ (if P_X2_isDigit c g = 0 then (0 : Int32) else (if R then 0 else 1)) = 0 ∧ P) := by
  rcases isd_i c g with ⟨a, b⟩ | ⟨a, b⟩
  · rw [if_pos a]
    exact Or.inl ⟨rfl, fun q => b (by rw [hg]; exact (hP.mp q).1)⟩
  · rw [if_neg a]
    rw [hg] at b
    by_cases r : R
    · rw [if_pos r]
      exact Or.inl ⟨rfl, fun q => (hP.mp q).2 r⟩
    · rw [if_neg r]
      exact Or.inr ⟨by decide, hP.mpr ⟨b, r⟩⟩
theorem fit_e {c g : Int32} {G : Int} {P : Prop} (hg : g.toInt = G) (hP : P ↔ c.toInt = G) : ((if c = g then (1 : Int32) else 0) = 0 ∧ ¬ P) ∨ (¬ (if c = g then (1 : Int32) else 0) = 0 ∧ P) := by
  by_cases r : c = g
  · rw [if_pos r]
    exact Or.inr ⟨by decide, hP.mpr (by rw [r]; exact hg)⟩
  · rw [if_neg r]
    exact Or.inl ⟨rfl, fun q => r (Int32.toInt_inj.mp ((hP.mp q).trans hg.symm))⟩
theorem fits_0 : P_X2_fits tf tc 0 = (if (P_X2_letter tf tc 0) = 71 then 1 else 0) := by
  unfold P_X2_fits
  rw [if_pos (show (0 : Int32) = 0 from rfl)]
theorem fits_1 : P_X2_fits tf tc 1 = P_X2_isDigit (P_X2_letter tf tc 1) 51 := by
  unfold P_X2_fits
  rw [if_neg (show ¬ (1 : Int32) = 0 by decide), if_pos (show (1 : Int32) = 1 from rfl)]
theorem fits_2 : P_X2_fits tf tc 2 = P_X2_isDigit (P_X2_letter tf tc 2) 51 := by
  unfold P_X2_fits
  rw [if_neg (show ¬ (2 : Int32) = 0 by decide), if_neg (show ¬ (2 : Int32) = 1 by decide), if_pos (show (2 : Int32) = 2 from rfl)]
theorem fits_3 : P_X2_fits tf tc 3 = P_X2_isDigit (P_X2_letter tf tc 3) 57 := by
  unfold P_X2_fits
  rw [if_neg (show ¬ (3 : Int32) = 0 by decide), if_neg (show ¬ (3 : Int32) = 1 by decide), if_neg (show ¬ (3 : Int32) = 2 by decide), if_pos (show (3 : Int32) = 3 from rfl), if_neg (show ¬ (15 : Int32) ≤ 3 by decide)]
theorem fits_4 : P_X2_fits tf tc 4 = P_X2_isDigit (P_X2_letter tf tc 4) 57 := by
  unfold P_X2_fits
  rw [if_neg (show ¬ (4 : Int32) = 0 by decide), if_neg (show ¬ (4 : Int32) = 1 by decide), if_neg (show ¬ (4 : Int32) = 2 by decide), if_neg (show ¬ (4 : Int32) = 3 by decide), if_pos (show (4 : Int32) = 4 from rfl), if_neg (show ¬ (15 : Int32) ≤ 4 by decide)]
theorem fits_5 : P_X2_fits tf tc 5 = P_X2_isDigit (P_X2_letter tf tc 5) 57 := by
  unfold P_X2_fits
  rw [if_neg (show ¬ (5 : Int32) = 0 by decide), if_neg (show ¬ (5 : Int32) = 1 by decide), if_neg (show ¬ (5 : Int32) = 2 by decide), if_neg (show ¬ (5 : Int32) = 3 by decide), if_neg (show ¬ (5 : Int32) = 4 by decide), if_pos (show (5 : Int32) = 5 from rfl), if_neg (show ¬ (15 : Int32) ≤ 5 by decide)]
theorem fits_6 : P_X2_fits tf tc 6 = P_X2_isDigit (P_X2_letter tf tc 6) 57 := by
  unfold P_X2_fits
  rw [if_neg (show ¬ (6 : Int32) = 0 by decide), if_neg (show ¬ (6 : Int32) = 1 by decide), if_neg (show ¬ (6 : Int32) = 2 by decide), if_neg (show ¬ (6 : Int32) = 3 by decide), if_neg (show ¬ (6 : Int32) = 4 by decide), if_neg (show ¬ (6 : Int32) = 5 by decide), if_pos (show (6 : Int32) = 6 from rfl), if_neg (show ¬ (15 : Int32) ≤ 6 by decide)]
theorem fits_7 : P_X2_fits tf tc 7 = P_X2_isDigit (P_X2_letter tf tc 7) 57 := by
  unfold P_X2_fits
  rw [if_neg (show ¬ (7 : Int32) = 0 by decide), if_neg (show ¬ (7 : Int32) = 1 by decide), if_neg (show ¬ (7 : Int32) = 2 by decide), if_neg (show ¬ (7 : Int32) = 3 by decide), if_neg (show ¬ (7 : Int32) = 4 by decide), if_neg (show ¬ (7 : Int32) = 5 by decide), if_neg (show ¬ (7 : Int32) = 6 by decide), if_pos (show (7 : Int32) = 7 from rfl), if_neg (show ¬ (15 : Int32) ≤ 7 by decide)]
theorem fits_8 : P_X2_fits tf tc 8 = (if (P_X2_isDigit (P_X2_letter tf tc 8) 57) = 0 then 0 else (if (P_X2_digits tf tc 7 2) ≤ 0 then 0 else 1)) := by
  unfold P_X2_fits
  rw [if_neg (show ¬ (8 : Int32) = 0 by decide), if_neg (show ¬ (8 : Int32) = 1 by decide), if_neg (show ¬ (8 : Int32) = 2 by decide), if_neg (show ¬ (8 : Int32) = 3 by decide), if_neg (show ¬ (8 : Int32) = 4 by decide), if_neg (show ¬ (8 : Int32) = 5 by decide), if_neg (show ¬ (8 : Int32) = 6 by decide), if_neg (show ¬ (8 : Int32) = 7 by decide), if_pos (show (8 : Int32) = 8 from rfl)]
theorem fits_9 : P_X2_fits tf tc 9 = P_X2_isDigit (P_X2_letter tf tc 9) 51 := by
  unfold P_X2_fits
  rw [if_neg (show ¬ (9 : Int32) = 0 by decide), if_neg (show ¬ (9 : Int32) = 1 by decide), if_neg (show ¬ (9 : Int32) = 2 by decide), if_neg (show ¬ (9 : Int32) = 3 by decide), if_neg (show ¬ (9 : Int32) = 4 by decide), if_neg (show ¬ (9 : Int32) = 5 by decide), if_neg (show ¬ (9 : Int32) = 6 by decide), if_neg (show ¬ (9 : Int32) = 7 by decide), if_neg (show ¬ (9 : Int32) = 8 by decide), if_pos (show (9 : Int32) = 9 from rfl)]
theorem fits_10 : P_X2_fits tf tc 10 = (if (P_X2_letter tf tc 10) = 43 then 1 else (if (P_X2_letter tf tc 10) = 45 then 1 else 0)) := by
  unfold P_X2_fits
  rw [if_neg (show ¬ (10 : Int32) = 0 by decide), if_neg (show ¬ (10 : Int32) = 1 by decide), if_neg (show ¬ (10 : Int32) = 2 by decide), if_neg (show ¬ (10 : Int32) = 3 by decide), if_neg (show ¬ (10 : Int32) = 4 by decide), if_neg (show ¬ (10 : Int32) = 5 by decide), if_neg (show ¬ (10 : Int32) = 6 by decide), if_neg (show ¬ (10 : Int32) = 7 by decide), if_neg (show ¬ (10 : Int32) = 8 by decide), if_neg (show ¬ (10 : Int32) = 9 by decide), if_pos (show (10 : Int32) = 10 from rfl)]
theorem fits_11 : P_X2_fits tf tc 11 = P_X2_isDigit (P_X2_letter tf tc 11) 53 := by
  unfold P_X2_fits
  rw [if_neg (show ¬ (11 : Int32) = 0 by decide), if_neg (show ¬ (11 : Int32) = 1 by decide), if_neg (show ¬ (11 : Int32) = 2 by decide), if_neg (show ¬ (11 : Int32) = 3 by decide), if_neg (show ¬ (11 : Int32) = 4 by decide), if_neg (show ¬ (11 : Int32) = 5 by decide), if_neg (show ¬ (11 : Int32) = 6 by decide), if_neg (show ¬ (11 : Int32) = 7 by decide), if_neg (show ¬ (11 : Int32) = 8 by decide), if_neg (show ¬ (11 : Int32) = 9 by decide), if_neg (show ¬ (11 : Int32) = 10 by decide), if_pos (show (11 : Int32) = 11 from rfl)]
theorem fits_12 : P_X2_fits tf tc 12 = (if (P_X2_isDigit (P_X2_letter tf tc 12) 57) = 0 then 0 else (if 50 < (P_X2_digits tf tc 11 2) then 0 else 1)) := by
  unfold P_X2_fits
  rw [if_neg (show ¬ (12 : Int32) = 0 by decide), if_neg (show ¬ (12 : Int32) = 1 by decide), if_neg (show ¬ (12 : Int32) = 2 by decide), if_neg (show ¬ (12 : Int32) = 3 by decide), if_neg (show ¬ (12 : Int32) = 4 by decide), if_neg (show ¬ (12 : Int32) = 5 by decide), if_neg (show ¬ (12 : Int32) = 6 by decide), if_neg (show ¬ (12 : Int32) = 7 by decide), if_neg (show ¬ (12 : Int32) = 8 by decide), if_neg (show ¬ (12 : Int32) = 9 by decide), if_neg (show ¬ (12 : Int32) = 10 by decide), if_neg (show ¬ (12 : Int32) = 11 by decide), if_pos (show (12 : Int32) = 12 from rfl)]
theorem fits_13 : P_X2_fits tf tc 13 = P_X2_isDigit (P_X2_letter tf tc 13) 50 := by
  unfold P_X2_fits
  rw [if_neg (show ¬ (13 : Int32) = 0 by decide), if_neg (show ¬ (13 : Int32) = 1 by decide), if_neg (show ¬ (13 : Int32) = 2 by decide), if_neg (show ¬ (13 : Int32) = 3 by decide), if_neg (show ¬ (13 : Int32) = 4 by decide), if_neg (show ¬ (13 : Int32) = 5 by decide), if_neg (show ¬ (13 : Int32) = 6 by decide), if_neg (show ¬ (13 : Int32) = 7 by decide), if_neg (show ¬ (13 : Int32) = 8 by decide), if_neg (show ¬ (13 : Int32) = 9 by decide), if_neg (show ¬ (13 : Int32) = 10 by decide), if_neg (show ¬ (13 : Int32) = 11 by decide), if_neg (show ¬ (13 : Int32) = 12 by decide), if_pos (show (13 : Int32) = 13 from rfl)]
theorem fits_14 : P_X2_fits tf tc 14 = (if (P_X2_isDigit (P_X2_letter tf tc 14) 57) = 0 then 0 else (if 20 < (P_X2_digits tf tc 13 2) then 0 else 1)) := by
  unfold P_X2_fits
  rw [if_neg (show ¬ (14 : Int32) = 0 by decide), if_neg (show ¬ (14 : Int32) = 1 by decide), if_neg (show ¬ (14 : Int32) = 2 by decide), if_neg (show ¬ (14 : Int32) = 3 by decide), if_neg (show ¬ (14 : Int32) = 4 by decide), if_neg (show ¬ (14 : Int32) = 5 by decide), if_neg (show ¬ (14 : Int32) = 6 by decide), if_neg (show ¬ (14 : Int32) = 7 by decide), if_neg (show ¬ (14 : Int32) = 8 by decide), if_neg (show ¬ (14 : Int32) = 9 by decide), if_neg (show ¬ (14 : Int32) = 10 by decide), if_neg (show ¬ (14 : Int32) = 11 by decide), if_neg (show ¬ (14 : Int32) = 12 by decide), if_neg (show ¬ (14 : Int32) = 13 by decide), if_pos (show (14 : Int32) = 14 from rfl)]
theorem ne15 {x k : Int32} (hx : 15 ≤ x.toInt) (hk : k.toInt < 15) : ¬ x = k := fun q => by rw [q] at hx; omega
theorem fits_hi {x : Int32} (hx : 15 ≤ x.toInt) : P_X2_fits tf tc x = P_X2_fitsUnknown tf tc x (P_X2_letter tf tc x) := by
  have z15 : (15 : Int32).toInt = 15 := by decide
  unfold P_X2_fits
  rw [if_neg (ne15 (k := 0) hx (by decide)), if_neg (ne15 (k := 1) hx (by decide)), if_neg (ne15 (k := 2) hx (by decide)), if_neg (ne15 (k := 3) hx (by decide)), if_neg (ne15 (k := 4) hx (by decide)), if_neg (ne15 (k := 5) hx (by decide)), if_neg (ne15 (k := 6) hx (by decide)), if_neg (ne15 (k := 7) hx (by decide)), if_neg (ne15 (k := 8) hx (by decide)), if_neg (ne15 (k := 9) hx (by decide)), if_neg (ne15 (k := 10) hx (by decide)), if_neg (ne15 (k := 11) hx (by decide)), if_neg (ne15 (k := 12) hx (by decide)), if_neg (ne15 (k := 13) hx (by decide)), if_neg (ne15 (k := 14) hx (by decide)), if_pos (by rw [Int32.le_iff_toInt_le]; omega)]
theorem fits_i (h : TR tf tc mf tt) {x : Int32} {j : Nat} (hx : x.toInt = j) (hj : (j : Int) < (mf 2).toInt) : (P_X2_fits tf tc x = 0 ∧ ¬ okc (TI tc) j) ∨ (¬ P_X2_fits tf tc x = 0 ∧ okc (TI tc) j) := by
  have L := let_i h hx hj
  have hN := h.2.1.2
  match j, hx, hj, L with
  | 0, hx, hj, L =>
    have e : x = 0 := Int32.toInt_inj.mp (hx.trans (by decide))
    subst e
    rw [fits_0, L]
    exact fit_e (G := 71) (by decide) Iff.rfl
  | 1, hx, hj, L =>
    have e : x = 1 := Int32.toInt_inj.mp (hx.trans (by decide))
    subst e
    rw [fits_1, L]
    exact fit_d (G := 51) (by decide) Iff.rfl
  | 2, hx, hj, L =>
    have e : x = 2 := Int32.toInt_inj.mp (hx.trans (by decide))
    subst e
    rw [fits_2, L]
    exact fit_d (G := 51) (by decide) Iff.rfl
  | 3, hx, hj, L =>
    have e : x = 3 := Int32.toInt_inj.mp (hx.trans (by decide))
    subst e
    rw [fits_3, L]
    exact fit_d (G := 57) (by decide) Iff.rfl
  | 4, hx, hj, L =>
    have e : x = 4 := Int32.toInt_inj.mp (hx.trans (by decide))
    subst e
    rw [fits_4, L]
    exact fit_d (G := 57) (by decide) Iff.rfl
  | 5, hx, hj, L =>
    have e : x = 5 := Int32.toInt_inj.mp (hx.trans (by decide))
    subst e
    rw [fits_5, L]
    exact fit_d (G := 57) (by decide) Iff.rfl
  | 6, hx, hj, L =>
    have e : x = 6 := Int32.toInt_inj.mp (hx.trans (by decide))
    subst e
    rw [fits_6, L]
    exact fit_d (G := 57) (by decide) Iff.rfl
  | 7, hx, hj, L =>
    have e : x = 7 := Int32.toInt_inj.mp (hx.trans (by decide))
    subst e
    rw [fits_7, L]
    exact fit_d (G := 57) (by decide) Iff.rfl
  | 8, hx, hj, L =>
    have e : x = 8 := Int32.toInt_inj.mp (hx.trans (by decide))
    subst e
    rw [fits_8, L]
    have d : (P_X2_digits tf tc 7 2).toInt = 10 * (TI tc 7 - 48) + (TI tc 8 - 48) := dig2_i h (x := 7) (j := 7) (by decide) (by omega)
    have zb : (0 : Int32).toInt = 0 := by decide
    refine fit_n (G := 57) (by decide) ?_
    rw [Int32.le_iff_toInt_le, d, zb]
    refine ⟨fun q => ⟨q.1, fun q2 => ?_⟩, fun q => ⟨q.1, ?_⟩⟩
    · have := q.2
      omega
    · have := q.2
      show 0 < _
      omega
  | 9, hx, hj, L =>
    have e : x = 9 := Int32.toInt_inj.mp (hx.trans (by decide))
    subst e
    rw [fits_9, L]
    exact fit_d (G := 51) (by decide) Iff.rfl
  | 10, hx, hj, L =>
    have e : x = 10 := Int32.toInt_inj.mp (hx.trans (by decide))
    subst e
    rw [fits_10, L]
    by_cases c : tc 10 = 43
    · rw [if_pos c]
      exact Or.inr ⟨by decide, Or.inl (by show (tc 10).toInt = 43; rw [c]; decide)⟩
    · rw [if_neg c]
      refine fit_e (G := 45) (by decide) ⟨fun q => ?_, fun q => Or.inr q⟩
      rcases q with q | q
      · exact absurd (Int32.toInt_inj.mp (Eq.trans (show (tc 10).toInt = 43 from q) (by decide))) c
      · exact q
  | 11, hx, hj, L =>
    have e : x = 11 := Int32.toInt_inj.mp (hx.trans (by decide))
    subst e
    rw [fits_11, L]
    exact fit_d (G := 53) (by decide) Iff.rfl
  | 12, hx, hj, L =>
    have e : x = 12 := Int32.toInt_inj.mp (hx.trans (by decide))
    subst e
    rw [fits_12, L]
    have d : (P_X2_digits tf tc 11 2).toInt = 10 * (TI tc 11 - 48) + (TI tc 12 - 48) := dig2_i h (x := 11) (j := 11) (by decide) (by omega)
    have zb : (50 : Int32).toInt = 50 := by decide
    refine fit_n (G := 57) (by decide) ?_
    rw [Int32.lt_iff_toInt_lt, d, zb]
    refine ⟨fun q => ⟨q.1, fun q2 => ?_⟩, fun q => ⟨q.1, ?_⟩⟩
    · have := q.2
      omega
    · have := q.2
      show _ ≤ (50 : Int)
      omega
  | 13, hx, hj, L =>
    have e : x = 13 := Int32.toInt_inj.mp (hx.trans (by decide))
    subst e
    rw [fits_13, L]
    exact fit_d (G := 50) (by decide) Iff.rfl
  | 14, hx, hj, L =>
    have e : x = 14 := Int32.toInt_inj.mp (hx.trans (by decide))
    subst e
    rw [fits_14, L]
    have d : (P_X2_digits tf tc 13 2).toInt = 10 * (TI tc 13 - 48) + (TI tc 14 - 48) := dig2_i h (x := 13) (j := 13) (by decide) (by omega)
    have zb : (20 : Int32).toInt = 20 := by decide
    refine fit_n (G := 57) (by decide) ?_
    rw [Int32.lt_iff_toInt_lt, d, zb]
    refine ⟨fun q => ⟨q.1, fun q2 => ?_⟩, fun q => ⟨q.1, ?_⟩⟩
    · have := q.2
      omega
    · have := q.2
      show _ ≤ (20 : Int)
      omega
  | j + 15, hx, hj, L =>
    have hx15 : 15 ≤ x.toInt := by omega
    have z15 : (15 : Int32).toInt = 15 := by decide
    have z30 : (30 : Int32).toInt = 30 := by decide
    have z5 : (5 : Int32).toInt = 5 := by decide
    have z3 : (3 : Int32).toInt = 3 := by decide
    have z0 : (0 : Int32).toInt = 0 := by decide
    have z4 : (4 : Int32).toInt = 4 := by decide
    have s := toI_sub (a := x) (b := 15) (by omega) (by omega)
    have s3 := toI_sub (a := x) (b := 3) (by omega) (by omega)
    have md := i32_mod (g := x - 15) (k := 5) (by omega) (by decide)
    rw [z5] at md
    rw [fits_hi hx15, L]
    unfold P_X2_fitsUnknown
    generalize x - 15 - (x - 15) / 5 * 5 = r at *
    by_cases c : x - 15 < 30
    · rw [if_pos c]
      rw [Int32.lt_iff_toInt_lt] at c
      have hj30 : j < 30 := by omega
      have hr : r.toInt = ((j % 5 : Nat) : Int) := by omega
      by_cases c0 : r = 0
      · rw [if_pos c0]
        rw [c0] at hr
        have hm : j % 5 = 0 := by omega
        refine fit_e (G := 120) (by decide) ⟨fun q => q.2.1 hm, fun q => ⟨hj30, fun _ => q, fun q2 => absurd hm q2, fun q2 => ?_⟩⟩
        omega
      · rw [if_neg c0]
        have hm0 : ¬ j % 5 = 0 := fun q => c0 (Int32.toInt_inj.mp (by omega))
        by_cases c4 : r = 4
        · rw [if_pos c4]
          rw [c4] at hr
          have hm : j % 5 = 4 := by omega
          have d : (P_X2_digits tf tc (x - 3) 4).toInt = 1000 * (TI tc (j + 12) - 48) + 100 * (TI tc (j + 13) - 48) + 10 * (TI tc (j + 14) - 48) + (TI tc (j + 15) - 48) := dig4_i h (x := x - 3) (j := j + 12) (by omega) (by omega)
          refine fit_n (G := 57) (by decide) ?_
          rw [Int32.le_iff_toInt_le, d, z0]
          refine ⟨fun q => ⟨q.2.2.1 hm0, fun q2 => ?_⟩, fun q => ⟨hj30, fun q2 => absurd q2 hm0, fun _ => q.1, fun _ => ?_⟩⟩
          · have := q.2.2.2 hm
            show False
            omega
          · have := q.2
            show 0 < _
            omega
        · rw [if_neg c4]
          have hm : ¬ j % 5 = 4 := fun q => c4 (Int32.toInt_inj.mp (by omega))
          exact fit_d (G := 57) (by decide) ⟨fun q => q.2.2.1 hm0, fun q => ⟨hj30, fun q2 => absurd q2 hm0, fun _ => q, fun q2 => absurd q2 hm⟩⟩
    · rw [if_neg c]
      rw [Int32.lt_iff_toInt_lt] at c
      exact Or.inl ⟨rfl, fun q => by have := q.1; omega⟩
/-- what a reading of the whole text answers -/
def FE (T : Nat → Int) (N : Nat) (r : Int) : Prop := (∃ s : Nat, s < N ∧ (∀ i, i < s → okc T i) ∧ ¬ okc T s ∧ r = s) ∨ ((∀ i, i < N → okc T i) ∧ ((15 < N ∧ (N - 15) % 5 = 0 ∧ r = -9999) ∨ (¬ (15 < N ∧ (N - 15) % 5 = 0) ∧ r = N)))
theorem FE.uni {T : Nat → Int} {N : Nat} {r r' : Int} (h : FE T N r) (h' : FE T N r') : r = r' := by
  rcases h with ⟨s, a1, a2, a3, a4⟩ | ⟨a1, a2⟩
  · rcases h' with ⟨s', b1, b2, b3, b4⟩ | ⟨b1, b2⟩
    · have : s = s' := by
        rcases Nat.lt_trichotomy s s' with q | q | q
        · exact absurd (b2 s q) a3
        · exact q
        · exact absurd (a2 s' q) b3
      omega
    · exact absurd (b1 s a1) a3
  · rcases h' with ⟨s', b1, b2, b3, b4⟩ | ⟨b1, b2⟩
    · exact absurd (a1 s' b1) b3
    · rcases a2 with ⟨c1, c2, c3⟩ | ⟨c1, c2⟩
      · rcases b2 with ⟨d1, d2, d3⟩ | ⟨d1, d2⟩
        · omega
        · exact absurd ⟨c1, c2⟩ d1
      · rcases b2 with ⟨d1, d2, d3⟩ | ⟨d1, d2⟩
        · exact absurd ⟨d1, d2⟩ c1
        · omega
theorem ok_ext {T : Nat → Int} {s : Nat} (h : ∀ i, i < s → okc T i) (hs : okc T s) : ∀ i, i < s + 1 → okc T i := fun i hi => by
  by_cases c : i = s
  · rw [c]; exact hs
  · exact h i (by omega)
theorem fe_lp (h : TR tf tc mf tt) : ∀ (n : Nat) (v : Int32) (j : Nat), v.toInt = j → (j : Int) ≤ (mf 2).toInt → ((mf 2).toInt - j).toNat < n → (∀ i, i < j → okc (TI tc) i) → FE (TI tc) (mf 2).toInt.toNat (P_X2_firstError_2 tf tc n v).toInt := by
  intro n
  have hN := h.2.1.2
  have h1 := h.1
  have z0 : (0 : Int32).toInt = 0 := by decide
  have z1 : (1 : Int32).toInt = 1 := by decide
  have z5 : (5 : Int32).toInt = 5 := by decide
  have z15 : (15 : Int32).toInt = 15 := by decide
  induction n with
  | zero => intro v j _ _ hn; omega
  | succ n ih =>
    intro v j hv hj hn hok
    unfold P_X2_firstError_2
    rw [h1]
    by_cases c : mf 2 ≤ v
    · rw [if_pos c]
      rw [Int32.le_iff_toInt_le] at c
      have s := toI_sub (a := mf 2) (b := 15) (by omega) (by omega)
      have hall : ∀ i, i < (mf 2).toInt.toNat → okc (TI tc) i := fun i hi => hok i (by omega)
      refine Or.inr ⟨hall, ?_⟩
      show (15 < _ ∧ _ ∧ (if mf 2 - 15 ≤ 0 then mf 2 else (if (mf 2 - 15) - (mf 2 - 15) / 5 * 5 = 0 then (-9999) else mf 2)).toInt = _) ∨ (_ ∧ (if mf 2 - 15 ≤ 0 then mf 2 else (if (mf 2 - 15) - (mf 2 - 15) / 5 * 5 = 0 then (-9999) else mf 2)).toInt = _)
      by_cases c1 : mf 2 - 15 ≤ 0
      · rw [if_pos c1]
        rw [Int32.le_iff_toInt_le] at c1
        exact Or.inr ⟨by omega, by omega⟩
      · rw [if_neg c1]
        rw [Int32.le_iff_toInt_le] at c1
        have md := i32_mod (g := mf 2 - 15) (k := 5) (by omega) (by decide)
        rw [z5] at md
        generalize mf 2 - 15 - (mf 2 - 15) / 5 * 5 = r at *
        by_cases c2 : r = 0
        · rw [if_pos c2]
          rw [c2] at md
          exact Or.inl ⟨by omega, by omega, by decide⟩
        · rw [if_neg c2]
          have : ¬ r.toInt = 0 := fun q => c2 (Int32.toInt_inj.mp (q.trans z0.symm))
          exact Or.inr ⟨by omega, by omega⟩
    · rw [if_neg c]
      rw [Int32.le_iff_toInt_le] at c
      rcases fits_i h hv (by omega) with ⟨a, b⟩ | ⟨a, b⟩
      · rw [if_pos a]
        exact Or.inl ⟨j, by omega, hok, b, hv⟩
      · rw [if_neg a]
        have a1 := toI_add (a := v) (b := 1) (by omega) (by omega)
        exact ih (v + 1) (j + 1) (by omega) (by omega) (by omega) (ok_ext hok b)
theorem fe_i (h : TR tf tc mf tt) : FE (TI tc) (mf 2).toInt.toNat (P_X2_firstError tf tc).toInt := by
  have h0 := h.2.1.1
  have z0 : (0 : Int32).toInt = 0 := by decide
  unfold P_X2_firstError
  rw [h.1]
  exact fe_lp h _ 0 0 (by decide) h0 (by omega) (fun i hi => absurd hi (Nat.not_lt_zero _))
end TX
