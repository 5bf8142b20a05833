/-! answers alike: the best box, the best arms, at last -/
section Q3
variable {f oh lf ce pg : Nat → Int32}
theorem q_bestR (h : SR f oh lf ce pg) (bf mf : Nat → Int32) (i : Int32) : QM 3 (P_X3_bestR bf f oh i).1 (P_X4_bestR mf pg i).1 (P_X3_bestR bf f oh i).2 (P_X4_bestR mf pg i).2 mf := by
  have e0 : f 0 = pg 0 := h.lo (by decide)
  have e1 : f 1 = pg 1 := h.lo (by decide)
  unfold P_X3_bestR P_X4_bestR
  rcases h.unkn i with ⟨a, b⟩ | ⟨a, b, c, d, x1, x2⟩
  · rw [if_pos a, if_pos b]
    exact ⟨Or.inr rfl, rfl, fun q => absurd q (by decide)⟩
  · rw [if_neg a, if_neg b, d, e0, e1, ten_pow, ten_pow]
    have z9 : (9999 : Int32).toInt = 9999 := by decide
    have z1 : (1 : Int32).toInt = 1 := by decide
    have hp := ten10 (pg 0)
    have hT : 0 ≤ (P_X4_ten (pg 1) * pg (15 + i).toNatClampNeg).toInt ∧ (P_X4_ten (pg 1) * pg (15 + i).toNatClampNeg).toInt ≤ 9999000 := by
      have hq := ten10 (pg 1)
      have m : (P_X4_ten (pg 1) * pg (15 + i).toNatClampNeg).toInt = (pg (15 + i).toNatClampNeg).toInt * (P_X4_ten (pg 1)).toInt := by
        rw [Int32.mul_comm]
        refine toI_mk rfl ?_ ?_ <;> rcases hq with q | q | q | q <;> rw [q] <;> omega
      rw [m]
      rcases hq with q | q | q | q <;> rw [q] <;> omega
    generalize eT : P_X4_ten (pg 1) * pg (15 + i).toNatClampNeg = T at *
    have m0 : MN T.toInt (P_X4_ten (pg 0)).toInt (0 : Int32).toInt ((1 : Int32).toInt - 1) := by
      have z0 : (0 : Int32).toInt = 0 := by decide
      rw [z0, z1]
      refine ⟨⟨by decide, by decide⟩, fun x x0 x1 => ?_, fun x x0 x1 => ?_⟩
      · have e : x = 0 := by omega
        rw [e]; exact Int.le_refl _
      · omega
    have lp := bestR_lp pg i T (upd mf 0 0) hT eT ((10000 - (1 : Int32).toInt).toNat + 1) 0 1 ⟨by decide, by decide⟩ (by decide) m0
    obtain ⟨l1, l2⟩ := lp
    have hq : P_X3_quotient T (P_X4_ten (pg 0)) = T / P_X4_ten (pg 0) := if_neg (ten_ne _)
    rw [hq]
    have hB : (T / P_X4_ten (pg 0)).toInt = T.toInt / (P_X4_ten (pg 0)).toInt := i32_div hT.1 (by have := ten_b (pg 0); omega)
    generalize T / P_X4_ten (pg 0) = B at *
    have hB0 : 0 ≤ B.toInt ∧ B.toInt ≤ 9999000 := by
      rw [hB]
      rcases hp with q | q | q | q <;> rw [q] <;> omega
    have j1 := jmin_i 9999 B
    rw [z9] at j1
    have a1 := toI_add (a := jmin 9999 B) (b := 1) (by rw [j1]; split <;> omega) (by rw [j1]; split <;> omega)
    have j2 := jmin_i 9999 (jmin 9999 B + 1)
    rw [z9, a1, z1, j1] at j2
    have d1 := (ds_size (b := jmin 9999 B) hT hp ⟨by rw [j1]; split <;> omega, by rw [j1]; split <;> omega⟩).2
    have d2 := (ds_size (b := jmin 9999 (jmin 9999 B + 1)) hT hp ⟨by rw [j2]; split <;> (try split) <;> omega, by rw [j2]; split <;> omega⟩).2
    have mn := MN_of hT hp hB
    rw [j1] at d1
    rw [j2] at d2
    by_cases cc : jabs (T - P_X4_ten (pg 0) * jmin 9999 B) ≤ jabs (T - P_X4_ten (pg 0) * jmin 9999 (jmin 9999 B + 1))
    · rw [if_pos cc]
      rw [Int32.le_iff_toInt_le, d1, d2] at cc
      refine ⟨Or.inl rfl, l1, fun _ => Int32.toInt_inj.mp ?_⟩
      rw [if_neg (by omega)] at mn
      show (jmin 9999 B).toInt = _
      rw [j1]
      exact mn.uni l2
    · rw [if_neg cc]
      rw [Int32.le_iff_toInt_le, d1, d2] at cc
      refine ⟨Or.inl rfl, l1, fun _ => Int32.toInt_inj.mp ?_⟩
      rw [if_pos (by omega)] at mn
      show (jmin 9999 (jmin 9999 B + 1)).toInt = _
      rw [j2]
      exact mn.uni l2
theorem ba_keep {pn mf : Nat → Int32} {i v2 v3 v4 w : Int32} {n : Nat} {A B : Int} (hA : (9999 * P_X4_ten (v4 / 4)).toInt = A) (hB : (P_X4_ten (v4 - v4 / 4 * 4)).toInt = B) (h16 : ¬ 16 ≤ v4) (hw : v4 + 1 = w) (hx : 1 ≤ (pn (15 + i).toNatClampNeg).toInt ∧ (pn (15 + i).toNatClampNeg).toInt ≤ 9999) (hB2 : 1 ≤ B ∧ B ≤ 1000)
    (hm : (pn (15 + i).toNatClampNeg).toInt * B ≤ 9999000) (h : A < (pn (15 + i).toNatClampNeg).toInt * B ∨ (v4 - v4 / 4 * 4) - v4 / 4 ≤ v3) : P_X4_bestArms_35 pn i (n + 1) v2 v3 v4 mf = P_X4_bestArms_35 pn i n v2 v3 w mf := by
  subst hw
  have hm0 : 0 ≤ (pn (15 + i).toNatClampNeg).toInt * B := Int.mul_nonneg (by omega) (by omega)
  have m := toI_mk (a := pn (15 + i).toNatClampNeg) hB (by omega) (by omega)
  show (if 16 ≤ v4 then _ else (if (9999 * (P_X4_ten (v4 / 4))) < ((pn (15 + i).toNatClampNeg) * (P_X4_ten (v4 - v4 / 4 * 4))) then P_X4_bestArms_35 pn i n v2 v3 (v4 + 1) mf else (if ((v4 - v4 / 4 * 4) - (v4 / 4)) ≤ v3 then P_X4_bestArms_35 pn i n v2 v3 (v4 + 1) mf else _))) = _
  rw [if_neg h16]
  by_cases c : (9999 * (P_X4_ten (v4 / 4))) < ((pn (15 + i).toNatClampNeg) * (P_X4_ten (v4 - v4 / 4 * 4)))
  · rw [if_pos c]
  · rw [if_neg c]
    rw [Int32.lt_iff_toInt_lt, m, hA] at c
    rcases h with h | h
    · exact absurd h c
    · rw [if_pos h]
theorem ba_up {pn mf : Nat → Int32} {i v2 v3 v4 w x2 x3 : Int32} {n : Nat} {A B : Int} (hA : (9999 * P_X4_ten (v4 / 4)).toInt = A) (hB : (P_X4_ten (v4 - v4 / 4 * 4)).toInt = B) (h16 : ¬ 16 ≤ v4) (hw : v4 + 1 = w) (hx : 1 ≤ (pn (15 + i).toNatClampNeg).toInt ∧ (pn (15 + i).toNatClampNeg).toInt ≤ 9999) (hB2 : 1 ≤ B ∧ B ≤ 1000)
    (hm : (pn (15 + i).toNatClampNeg).toInt * B ≤ 9999000) (h : ¬ A < (pn (15 + i).toNatClampNeg).toInt * B) (h3 : ¬ (v4 - v4 / 4 * 4) - v4 / 4 ≤ v3) (e2 : (10 * (v4 / 4)) + (v4 - v4 / 4 * 4) = x2) (e3 : (v4 - v4 / 4 * 4) - v4 / 4 = x3) : P_X4_bestArms_35 pn i (n + 1) v2 v3 v4 mf = P_X4_bestArms_35 pn i n x2 x3 w mf := by
  subst hw
  subst e2
  subst e3
  have hm0 : 0 ≤ (pn (15 + i).toNatClampNeg).toInt * B := Int.mul_nonneg (by omega) (by omega)
  have m := toI_mk (a := pn (15 + i).toNatClampNeg) hB (by omega) (by omega)
  show (if 16 ≤ v4 then _ else (if (9999 * (P_X4_ten (v4 / 4))) < ((pn (15 + i).toNatClampNeg) * (P_X4_ten (v4 - v4 / 4 * 4))) then P_X4_bestArms_35 pn i n v2 v3 (v4 + 1) mf else (if ((v4 - v4 / 4 * 4) - (v4 / 4)) ≤ v3 then P_X4_bestArms_35 pn i n v2 v3 (v4 + 1) mf else P_X4_bestArms_35 pn i n ((10 * (v4 / 4)) + (v4 - v4 / 4 * 4)) ((v4 - v4 / 4 * 4) - v4 / 4) (v4 + 1) mf))) = _
  rw [if_neg h16, if_neg (show ¬ (9999 * (P_X4_ten (v4 / 4))) < ((pn (15 + i).toNatClampNeg) * (P_X4_ten (v4 - v4 / 4 * 4))) by rw [Int32.lt_iff_toInt_lt, m, hA]; exact h), if_neg h3]
theorem ca_keep {bf f oh : Nat → Int32} {i v2 v3 w : Int32} {n : Nat} {B : Int} {x : Int} (hB : (P_X3_power v3).toInt = B) (h3 : ¬ 3 < v3) (hw : v3 + 1 = w) (hx : (P_X1_ohmsOf f oh i).toInt = x) (hx2 : 1 ≤ x ∧ x ≤ 9999) (hB2 : 1 ≤ B) (hm : x * B ≤ 9999000) (h : 9999 < x * B) : P_X3_bestArms_25 bf f oh i (n + 1) v2 v3 = P_X3_bestArms_25 bf f oh i n v2 w := by
  subst hw
  have hm0 : 0 ≤ x * B := Int.mul_nonneg (by omega) (by omega)
  have m := toI_mk (a := P_X1_ohmsOf f oh i) hB (by rw [hx]; omega) (by rw [hx]; omega)
  have z9 : (9999 : Int32).toInt = 9999 := by decide
  show (if 3 < v3 then _ else (if 9999 < ((P_X1_ohmsOf f oh i) * (P_X3_power v3)) then P_X3_bestArms_25 bf f oh i n v2 (v3 + 1) else _)) = _
  rw [if_neg h3, if_pos (by rw [Int32.lt_iff_toInt_lt, m, hx, z9]; exact h)]
theorem ca_up {bf f oh : Nat → Int32} {i v2 v3 w : Int32} {n : Nat} {B : Int} {x : Int} (hB : (P_X3_power v3).toInt = B) (h3 : ¬ 3 < v3) (hw : v3 + 1 = w) (hx : (P_X1_ohmsOf f oh i).toInt = x) (hx2 : 1 ≤ x ∧ x ≤ 9999) (hB2 : 1 ≤ B) (hm : x * B ≤ 9999000) (h : ¬ 9999 < x * B) : P_X3_bestArms_25 bf f oh i (n + 1) v2 v3 = P_X3_bestArms_25 bf f oh i n v3 w := by
  subst hw
  have hm0 : 0 ≤ x * B := Int.mul_nonneg (by omega) (by omega)
  have m := toI_mk (a := P_X1_ohmsOf f oh i) hB (by rw [hx]; omega) (by rw [hx]; omega)
  have z9 : (9999 : Int32).toInt = 9999 := by decide
  show (if 3 < v3 then _ else (if 9999 < ((P_X1_ohmsOf f oh i) * (P_X3_power v3)) then _ else P_X3_bestArms_25 bf f oh i n v3 (v3 + 1))) = _
  rw [if_neg h3, if_neg (by rw [Int32.lt_iff_toInt_lt, m, hx, z9]; exact h)]
theorem ca_0 {bf f oh : Nat → Int32} {i : Int32} (h : 1 ≤ (P_X1_ohmsOf f oh i).toInt ∧ (P_X1_ohmsOf f oh i).toInt ≤ 9) : P_X3_bestArms_25 bf f oh i 4 0 1 = (0, 3) :=
  (ca_up (B := 10) (w := 2) (by decide) (by decide) (by decide) rfl ⟨by omega, by omega⟩ (by decide) (by omega) (by omega)).trans ((ca_up (B := 100) (w := 3) (by decide) (by decide) (by decide) rfl ⟨by omega, by omega⟩ (by decide) (by omega) (by omega)).trans ((ca_up (B := 1000) (w := 4) (by decide) (by decide) (by decide) rfl ⟨by omega, by omega⟩ (by decide) (by omega) (by omega)).trans rfl))
theorem ma_0 {pn mf : Nat → Int32} {i : Int32} (h : 1 ≤ (pn (15 + i).toNatClampNeg).toInt ∧ (pn (15 + i).toNatClampNeg).toInt ≤ 9) : P_X4_bestArms_35 pn i 17 (-9999) (-9) 0 mf = (3, mf) :=
  (ba_up (A := 9999) (B := 1) (w := 1) (x2 := 0) (x3 := 0) (by decide) (by decide) (by decide) (by decide) ⟨by omega, by omega⟩ (by decide) (by omega) (by omega) (by decide) (by decide) (by decide)).trans ((ba_up (A := 9999) (B := 10) (w := 2) (x2 := 1) (x3 := 1) (by decide) (by decide) (by decide) (by decide) ⟨by omega, by omega⟩ (by decide) (by omega) (by omega) (by decide) (by decide) (by decide)).trans ((ba_up (A := 9999) (B := 100) (w := 3) (x2 := 2) (x3 := 2) (by decide) (by decide) (by decide) (by decide) ⟨by omega, by omega⟩ (by decide) (by omega) (by omega) (by decide) (by decide) (by decide)).trans ((ba_up (A := 9999) (B := 1000) (w := 4) (x2 := 3) (x3 := 3) (by decide) (by decide) (by decide) (by decide) ⟨by omega, by omega⟩ (by decide) (by omega) (by omega) (by decide) (by decide) (by decide)).trans ((ba_keep (A := 99990) (B := 1) (w := 5) (by decide) (by decide) (by decide) (by decide) ⟨by omega, by omega⟩ (by decide) (by omega) (Or.inr (by decide))).trans ((ba_keep (A := 99990) (B := 10) (w := 6) (by decide) (by decide) (by decide) (by decide) ⟨by omega, by omega⟩ (by decide) (by omega) (Or.inr (by decide))).trans ((ba_keep (A := 99990) (B := 100) (w := 7) (by decide) (by decide) (by decide) (by decide) ⟨by omega, by omega⟩ (by decide) (by omega) (Or.inr (by decide))).trans ((ba_keep (A := 99990) (B := 1000) (w := 8) (by decide) (by decide) (by decide) (by decide) ⟨by omega, by omega⟩ (by decide) (by omega) (Or.inr (by decide))).trans ((ba_keep (A := 999900) (B := 1) (w := 9) (by decide) (by decide) (by decide) (by decide) ⟨by omega, by omega⟩ (by decide) (by omega) (Or.inr (by decide))).trans ((ba_keep (A := 999900) (B := 10) (w := 10) (by decide) (by decide) (by decide) (by decide) ⟨by omega, by omega⟩ (by decide) (by omega) (Or.inr (by decide))).trans ((ba_keep (A := 999900) (B := 100) (w := 11) (by decide) (by decide) (by decide) (by decide) ⟨by omega, by omega⟩ (by decide) (by omega) (Or.inr (by decide))).trans ((ba_keep (A := 999900) (B := 1000) (w := 12) (by decide) (by decide) (by decide) (by decide) ⟨by omega, by omega⟩ (by decide) (by omega) (Or.inr (by decide))).trans ((ba_keep (A := 9999000) (B := 1) (w := 13) (by decide) (by decide) (by decide) (by decide) ⟨by omega, by omega⟩ (by decide) (by omega) (Or.inr (by decide))).trans ((ba_keep (A := 9999000) (B := 10) (w := 14) (by decide) (by decide) (by decide) (by decide) ⟨by omega, by omega⟩ (by decide) (by omega) (Or.inr (by decide))).trans ((ba_keep (A := 9999000) (B := 100) (w := 15) (by decide) (by decide) (by decide) (by decide) ⟨by omega, by omega⟩ (by decide) (by omega) (Or.inr (by decide))).trans ((ba_keep (A := 9999000) (B := 1000) (w := 16) (by decide) (by decide) (by decide) (by decide) ⟨by omega, by omega⟩ (by decide) (by omega) (Or.inr (by decide))).trans rfl)))))))))))))))
theorem ca_1 {bf f oh : Nat → Int32} {i : Int32} (h : 10 ≤ (P_X1_ohmsOf f oh i).toInt ∧ (P_X1_ohmsOf f oh i).toInt ≤ 99) : P_X3_bestArms_25 bf f oh i 4 0 1 = (0, 2) :=
  (ca_up (B := 10) (w := 2) (by decide) (by decide) (by decide) rfl ⟨by omega, by omega⟩ (by decide) (by omega) (by omega)).trans ((ca_up (B := 100) (w := 3) (by decide) (by decide) (by decide) rfl ⟨by omega, by omega⟩ (by decide) (by omega) (by omega)).trans ((ca_keep (B := 1000) (w := 4) (by decide) (by decide) (by decide) rfl ⟨by omega, by omega⟩ (by decide) (by omega) (by omega)).trans rfl))
theorem ma_1 {pn mf : Nat → Int32} {i : Int32} (h : 10 ≤ (pn (15 + i).toNatClampNeg).toInt ∧ (pn (15 + i).toNatClampNeg).toInt ≤ 99) : P_X4_bestArms_35 pn i 17 (-9999) (-9) 0 mf = (2, mf) :=
  (ba_up (A := 9999) (B := 1) (w := 1) (x2 := 0) (x3 := 0) (by decide) (by decide) (by decide) (by decide) ⟨by omega, by omega⟩ (by decide) (by omega) (by omega) (by decide) (by decide) (by decide)).trans ((ba_up (A := 9999) (B := 10) (w := 2) (x2 := 1) (x3 := 1) (by decide) (by decide) (by decide) (by decide) ⟨by omega, by omega⟩ (by decide) (by omega) (by omega) (by decide) (by decide) (by decide)).trans ((ba_up (A := 9999) (B := 100) (w := 3) (x2 := 2) (x3 := 2) (by decide) (by decide) (by decide) (by decide) ⟨by omega, by omega⟩ (by decide) (by omega) (by omega) (by decide) (by decide) (by decide)).trans ((ba_keep (A := 9999) (B := 1000) (w := 4) (by decide) (by decide) (by decide) (by decide) ⟨by omega, by omega⟩ (by decide) (by omega) (Or.inl (by omega))).trans ((ba_keep (A := 99990) (B := 1) (w := 5) (by decide) (by decide) (by decide) (by decide) ⟨by omega, by omega⟩ (by decide) (by omega) (Or.inr (by decide))).trans ((ba_keep (A := 99990) (B := 10) (w := 6) (by decide) (by decide) (by decide) (by decide) ⟨by omega, by omega⟩ (by decide) (by omega) (Or.inr (by decide))).trans ((ba_keep (A := 99990) (B := 100) (w := 7) (by decide) (by decide) (by decide) (by decide) ⟨by omega, by omega⟩ (by decide) (by omega) (Or.inr (by decide))).trans ((ba_keep (A := 99990) (B := 1000) (w := 8) (by decide) (by decide) (by decide) (by decide) ⟨by omega, by omega⟩ (by decide) (by omega) (Or.inr (by decide))).trans ((ba_keep (A := 999900) (B := 1) (w := 9) (by decide) (by decide) (by decide) (by decide) ⟨by omega, by omega⟩ (by decide) (by omega) (Or.inr (by decide))).trans ((ba_keep (A := 999900) (B := 10) (w := 10) (by decide) (by decide) (by decide) (by decide) ⟨by omega, by omega⟩ (by decide) (by omega) (Or.inr (by decide))).trans ((ba_keep (A := 999900) (B := 100) (w := 11) (by decide) (by decide) (by decide) (by decide) ⟨by omega, by omega⟩ (by decide) (by omega) (Or.inr (by decide))).trans ((ba_keep (A := 999900) (B := 1000) (w := 12) (by decide) (by decide) (by decide) (by decide) ⟨by omega, by omega⟩ (by decide) (by omega) (Or.inr (by decide))).trans ((ba_keep (A := 9999000) (B := 1) (w := 13) (by decide) (by decide) (by decide) (by decide) ⟨by omega, by omega⟩ (by decide) (by omega) (Or.inr (by decide))).trans ((ba_keep (A := 9999000) (B := 10) (w := 14) (by decide) (by decide) (by decide) (by decide) ⟨by omega, by omega⟩ (by decide) (by omega) (Or.inr (by decide))).trans ((ba_keep (A := 9999000) (B := 100) (w := 15) (by decide) (by decide) (by decide) (by decide) ⟨by omega, by omega⟩ (by decide) (by omega) (Or.inr (by decide))).trans ((ba_keep (A := 9999000) (B := 1000) (w := 16) (by decide) (by decide) (by decide) (by decide) ⟨by omega, by omega⟩ (by decide) (by omega) (Or.inr (by decide))).trans rfl)))))))))))))))
theorem ca_2 {bf f oh : Nat → Int32} {i : Int32} (h : 100 ≤ (P_X1_ohmsOf f oh i).toInt ∧ (P_X1_ohmsOf f oh i).toInt ≤ 999) : P_X3_bestArms_25 bf f oh i 4 0 1 = (0, 1) :=
  (ca_up (B := 10) (w := 2) (by decide) (by decide) (by decide) rfl ⟨by omega, by omega⟩ (by decide) (by omega) (by omega)).trans ((ca_keep (B := 100) (w := 3) (by decide) (by decide) (by decide) rfl ⟨by omega, by omega⟩ (by decide) (by omega) (by omega)).trans ((ca_keep (B := 1000) (w := 4) (by decide) (by decide) (by decide) rfl ⟨by omega, by omega⟩ (by decide) (by omega) (by omega)).trans rfl))
theorem ma_2 {pn mf : Nat → Int32} {i : Int32} (h : 100 ≤ (pn (15 + i).toNatClampNeg).toInt ∧ (pn (15 + i).toNatClampNeg).toInt ≤ 999) : P_X4_bestArms_35 pn i 17 (-9999) (-9) 0 mf = (1, mf) :=
  (ba_up (A := 9999) (B := 1) (w := 1) (x2 := 0) (x3 := 0) (by decide) (by decide) (by decide) (by decide) ⟨by omega, by omega⟩ (by decide) (by omega) (by omega) (by decide) (by decide) (by decide)).trans ((ba_up (A := 9999) (B := 10) (w := 2) (x2 := 1) (x3 := 1) (by decide) (by decide) (by decide) (by decide) ⟨by omega, by omega⟩ (by decide) (by omega) (by omega) (by decide) (by decide) (by decide)).trans ((ba_keep (A := 9999) (B := 100) (w := 3) (by decide) (by decide) (by decide) (by decide) ⟨by omega, by omega⟩ (by decide) (by omega) (Or.inl (by omega))).trans ((ba_keep (A := 9999) (B := 1000) (w := 4) (by decide) (by decide) (by decide) (by decide) ⟨by omega, by omega⟩ (by decide) (by omega) (Or.inl (by omega))).trans ((ba_keep (A := 99990) (B := 1) (w := 5) (by decide) (by decide) (by decide) (by decide) ⟨by omega, by omega⟩ (by decide) (by omega) (Or.inr (by decide))).trans ((ba_keep (A := 99990) (B := 10) (w := 6) (by decide) (by decide) (by decide) (by decide) ⟨by omega, by omega⟩ (by decide) (by omega) (Or.inr (by decide))).trans ((ba_keep (A := 99990) (B := 100) (w := 7) (by decide) (by decide) (by decide) (by decide) ⟨by omega, by omega⟩ (by decide) (by omega) (Or.inr (by decide))).trans ((ba_keep (A := 99990) (B := 1000) (w := 8) (by decide) (by decide) (by decide) (by decide) ⟨by omega, by omega⟩ (by decide) (by omega) (Or.inl (by omega))).trans ((ba_keep (A := 999900) (B := 1) (w := 9) (by decide) (by decide) (by decide) (by decide) ⟨by omega, by omega⟩ (by decide) (by omega) (Or.inr (by decide))).trans ((ba_keep (A := 999900) (B := 10) (w := 10) (by decide) (by decide) (by decide) (by decide) ⟨by omega, by omega⟩ (by decide) (by omega) (Or.inr (by decide))).trans ((ba_keep (A := 999900) (B := 100) (w := 11) (by decide) (by decide) (by decide) (by decide) ⟨by omega, by omega⟩ (by decide) (by omega) (Or.inr (by decide))).trans ((ba_keep (A := 999900) (B := 1000) (w := 12) (by decide) (by decide) (by decide) (by decide) ⟨by omega, by omega⟩ (by decide) (by omega) (Or.inr (by decide))).trans ((ba_keep (A := 9999000) (B := 1) (w := 13) (by decide) (by decide) (by decide) (by decide) ⟨by omega, by omega⟩ (by decide) (by omega) (Or.inr (by decide))).trans ((ba_keep (A := 9999000) (B := 10) (w := 14) (by decide) (by decide) (by decide) (by decide) ⟨by omega, by omega⟩ (by decide) (by omega) (Or.inr (by decide))).trans ((ba_keep (A := 9999000) (B := 100) (w := 15) (by decide) (by decide) (by decide) (by decide) ⟨by omega, by omega⟩ (by decide) (by omega) (Or.inr (by decide))).trans ((ba_keep (A := 9999000) (B := 1000) (w := 16) (by decide) (by decide) (by decide) (by decide) ⟨by omega, by omega⟩ (by decide) (by omega) (Or.inr (by decide))).trans rfl)))))))))))))))
theorem ca_3 {bf f oh : Nat → Int32} {i : Int32} (h : 1000 ≤ (P_X1_ohmsOf f oh i).toInt ∧ (P_X1_ohmsOf f oh i).toInt ≤ 9999) : P_X3_bestArms_25 bf f oh i 4 0 1 = (0, 0) :=
  (ca_keep (B := 10) (w := 2) (by decide) (by decide) (by decide) rfl ⟨by omega, by omega⟩ (by decide) (by omega) (by omega)).trans ((ca_keep (B := 100) (w := 3) (by decide) (by decide) (by decide) rfl ⟨by omega, by omega⟩ (by decide) (by omega) (by omega)).trans ((ca_keep (B := 1000) (w := 4) (by decide) (by decide) (by decide) rfl ⟨by omega, by omega⟩ (by decide) (by omega) (by omega)).trans rfl))
theorem ma_3 {pn mf : Nat → Int32} {i : Int32} (h : 1000 ≤ (pn (15 + i).toNatClampNeg).toInt ∧ (pn (15 + i).toNatClampNeg).toInt ≤ 9999) : P_X4_bestArms_35 pn i 17 (-9999) (-9) 0 mf = (0, mf) :=
  (ba_up (A := 9999) (B := 1) (w := 1) (x2 := 0) (x3 := 0) (by decide) (by decide) (by decide) (by decide) ⟨by omega, by omega⟩ (by decide) (by omega) (by omega) (by decide) (by decide) (by decide)).trans ((ba_keep (A := 9999) (B := 10) (w := 2) (by decide) (by decide) (by decide) (by decide) ⟨by omega, by omega⟩ (by decide) (by omega) (Or.inl (by omega))).trans ((ba_keep (A := 9999) (B := 100) (w := 3) (by decide) (by decide) (by decide) (by decide) ⟨by omega, by omega⟩ (by decide) (by omega) (Or.inl (by omega))).trans ((ba_keep (A := 9999) (B := 1000) (w := 4) (by decide) (by decide) (by decide) (by decide) ⟨by omega, by omega⟩ (by decide) (by omega) (Or.inl (by omega))).trans ((ba_keep (A := 99990) (B := 1) (w := 5) (by decide) (by decide) (by decide) (by decide) ⟨by omega, by omega⟩ (by decide) (by omega) (Or.inr (by decide))).trans ((ba_keep (A := 99990) (B := 10) (w := 6) (by decide) (by decide) (by decide) (by decide) ⟨by omega, by omega⟩ (by decide) (by omega) (Or.inr (by decide))).trans ((ba_keep (A := 99990) (B := 100) (w := 7) (by decide) (by decide) (by decide) (by decide) ⟨by omega, by omega⟩ (by decide) (by omega) (Or.inl (by omega))).trans ((ba_keep (A := 99990) (B := 1000) (w := 8) (by decide) (by decide) (by decide) (by decide) ⟨by omega, by omega⟩ (by decide) (by omega) (Or.inl (by omega))).trans ((ba_keep (A := 999900) (B := 1) (w := 9) (by decide) (by decide) (by decide) (by decide) ⟨by omega, by omega⟩ (by decide) (by omega) (Or.inr (by decide))).trans ((ba_keep (A := 999900) (B := 10) (w := 10) (by decide) (by decide) (by decide) (by decide) ⟨by omega, by omega⟩ (by decide) (by omega) (Or.inr (by decide))).trans ((ba_keep (A := 999900) (B := 100) (w := 11) (by decide) (by decide) (by decide) (by decide) ⟨by omega, by omega⟩ (by decide) (by omega) (Or.inr (by decide))).trans ((ba_keep (A := 999900) (B := 1000) (w := 12) (by decide) (by decide) (by decide) (by decide) ⟨by omega, by omega⟩ (by decide) (by omega) (Or.inl (by omega))).trans ((ba_keep (A := 9999000) (B := 1) (w := 13) (by decide) (by decide) (by decide) (by decide) ⟨by omega, by omega⟩ (by decide) (by omega) (Or.inr (by decide))).trans ((ba_keep (A := 9999000) (B := 10) (w := 14) (by decide) (by decide) (by decide) (by decide) ⟨by omega, by omega⟩ (by decide) (by omega) (Or.inr (by decide))).trans ((ba_keep (A := 9999000) (B := 100) (w := 15) (by decide) (by decide) (by decide) (by decide) ⟨by omega, by omega⟩ (by decide) (by omega) (Or.inr (by decide))).trans ((ba_keep (A := 9999000) (B := 1000) (w := 16) (by decide) (by decide) (by decide) (by decide) ⟨by omega, by omega⟩ (by decide) (by omega) (Or.inr (by decide))).trans rfl)))))))))))))))
theorem q_bestArms (h : SR f oh lf ce pg) (bf mf : Nat → Int32) (i : Int32) : QM 3 (P_X3_bestArms bf f oh i).1 (P_X4_bestArms mf pg i).1 (P_X3_bestArms bf f oh i).2 (P_X4_bestArms mf pg i).2 mf := by
  unfold P_X3_bestArms P_X4_bestArms
  rcases h.unkn i with ⟨a, b⟩ | ⟨a, b, c, d, x1, x2⟩
  · rw [if_pos a, if_pos b]
    exact ⟨Or.inr rfl, rfl, fun q => absurd q (by decide)⟩
  · rw [if_neg a, if_neg b]
    have k1 : (((3 : Int32).toInt + 1 - (1 : Int32).toInt).toNat + 1) = 4 := by decide
    have k2 : ((((16 : Int32)).toInt - (0 : Int32).toInt).toNat + 1) = 17 := by decide
    rw [k1, k2]
    have dd : (P_X1_ohmsOf f oh i).toInt = (pg (15 + i).toNatClampNeg).toInt := by rw [d]
    by_cases r0 : (pg (15 + i).toNatClampNeg).toInt ≤ 9
    · rw [ca_0 ⟨by omega, by omega⟩, ma_0 ⟨by omega, by omega⟩]; exact ⟨Or.inl rfl, rfl, fun _ => rfl⟩
    by_cases r1 : (pg (15 + i).toNatClampNeg).toInt ≤ 99
    · rw [ca_1 ⟨by omega, by omega⟩, ma_1 ⟨by omega, by omega⟩]; exact ⟨Or.inl rfl, rfl, fun _ => rfl⟩
    by_cases r2 : (pg (15 + i).toNatClampNeg).toInt ≤ 999
    · rw [ca_2 ⟨by omega, by omega⟩, ma_2 ⟨by omega, by omega⟩]; exact ⟨Or.inl rfl, rfl, fun _ => rfl⟩
    · rw [ca_3 ⟨by omega, by omega⟩, ma_3 ⟨by omega, by omega⟩]; exact ⟨Or.inl rfl, rfl, fun _ => rfl⟩
end Q3
