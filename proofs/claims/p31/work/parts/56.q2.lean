/-! answers alike: the best box, the best arms -/
section Q2
variable {f oh lf ce pg : Nat → Int32}
theorem SR.unkn (h : SR f oh lf ce pg) (i : Int32) : (P_X1_hasUnknown f i = 0 ∧ P_X4_isUnknown pg i = 0) ∨ (¬ P_X1_hasUnknown f i = 0 ∧ ¬ P_X4_isUnknown pg i = 0 ∧ (0 ≤ i.toInt ∧ i.toInt < (pg 9).toInt) ∧ P_X1_ohmsOf f oh i = pg (15 + i).toNatClampNeg ∧ 1 ≤ (pg (15 + i).toNatClampNeg).toInt ∧ (pg (15 + i).toNatClampNeg).toInt ≤ 9999) := by
  have e9 := h.2.1.1
  have h9 := h.pv.1
  have z0 : (0 : Int32).toInt = 0 := by decide
  have z1 : (1 : Int32).toInt = 1 := by decide
  have z6 : (6 : Int32).toInt = 6 := by decide
  have z15 : (15 : Int32).toInt = 15 := by decide
  by_cases c : P_X4_isUnknown pg i = 0
  · refine Or.inl ⟨?_, c⟩
    have s := toI_sub (a := pg 9) (b := 1) (by omega) (by omega)
    have h2 := in_0 c
    rw [Int32.toInt_toInt64, Int32.toInt_toInt64] at h2
    have zl : (0 : Int64).toInt = 0 := by decide
    unfold P_X1_hasUnknown
    by_cases c2 : i < 0
    · rw [if_pos c2]
    · rw [if_neg c2]
      rw [Int32.lt_iff_toInt_lt] at c2
      rw [← e9, if_pos (by rw [Int32.le_iff_toInt_le]; omega)]
  · obtain ⟨u1, u2⟩ := unk_i h.pv c
    have a := toI_add (a := 15) (b := i) (by omega) (by omega)
    have n1 : (15 + i).toNatClampNeg = 15 + i.toNatClampNeg := by
      show (15 + i).toInt.toNat = 15 + i.toInt.toNat
      omega
    have n2 : i.toNatClampNeg = i.toInt.toNat := rfl
    have x := h.pv.2.2.1 i.toNatClampNeg (by omega)
    refine Or.inr ⟨?_, c, ⟨u1, u2⟩, ?_, ?_⟩
    · unfold P_X1_hasUnknown
      rw [if_neg (by rw [Int32.lt_iff_toInt_lt]; omega), ← e9, if_neg (by rw [Int32.le_iff_toInt_le]; omega)]
      decide
    · unfold P_X1_ohmsOf
      rw [if_neg (by rw [Int32.lt_iff_toInt_lt]; omega), if_neg (by rw [Int32.le_iff_toInt_le]; omega), n1]
      exact (h.2.2.1 _ (by rw [← e9]; omega)).symm
    · rw [n1]; exact x
/-- how far off, for a box -/
def ds (T p b : Int) : Int := if 0 ≤ T - p * b then T - p * b else p * b - T
def P10 (p : Int) : Prop := p = 1 ∨ p = 10 ∨ p = 100 ∨ p = 1000
theorem ten10 (x : Int32) : P10 (P_X4_ten x).toInt := by
  rcases ten_cases x with h | h | h | h <;> rw [h]
  · exact Or.inl (by decide)
  · exact Or.inr (Or.inl (by decide))
  · exact Or.inr (Or.inr (Or.inl (by decide)))
  · exact Or.inr (Or.inr (Or.inr (by decide)))
theorem ds_size {T p b : Int32} (hT : 0 ≤ T.toInt ∧ T.toInt ≤ 9999000) (hp : P10 p.toInt) (hb : 0 ≤ b.toInt ∧ b.toInt ≤ 9999) : (P_X4_size (T - p * b)).toInt = ds T.toInt p.toInt b.toInt ∧ (jabs (T - p * b)).toInt = ds T.toInt p.toInt b.toInt := by
  have z0 : (0 : Int32).toInt = 0 := by decide
  have key : ∀ P : Int, p.toInt = P → P10 P → (P_X4_size (T - p * b)).toInt = ds T.toInt P b.toInt ∧ (jabs (T - p * b)).toInt = ds T.toInt P b.toInt := by
    intro P e hP
    have m : (p * b).toInt = b.toInt * P := by
      rw [Int32.mul_comm]
      refine toI_mk e ?_ ?_ <;> rcases hP with rfl | rfl | rfl | rfl <;> omega
    have hm : 0 ≤ b.toInt * P ∧ b.toInt * P ≤ 9999000 := by rcases hP with rfl | rfl | rfl | rfl <;> omega
    have s := toI_sub (a := T) (b := p * b) (by omega) (by omega)
    have e2 : P * b.toInt = b.toInt * P := Int.mul_comm _ _
    unfold ds P_X4_size jabs
    rw [e2]
    by_cases c : 0 ≤ T - p * b
    · rw [if_pos c, if_pos c]
      rw [Int32.le_iff_toInt_le] at c
      rw [if_pos (by omega)]
      exact ⟨by omega, by omega⟩
    · rw [if_neg c, if_neg c]
      rw [Int32.le_iff_toInt_le] at c
      rw [if_neg (by omega)]
      have n := toI_sub (a := 0) (b := T - p * b) (by omega) (by omega)
      have n' : -(T - p * b) = 0 - (T - p * b) := (Int32.zero_sub _).symm
      rw [n']
      exact ⟨by omega, by omega⟩
  exact key _ rfl hp
def MN (T p r : Int) (b : Int) : Prop := (0 ≤ r ∧ r ≤ b) ∧ (∀ x : Int, 0 ≤ x → x ≤ b → ds T p r ≤ ds T p x) ∧ (∀ x : Int, 0 ≤ x → x < r → ds T p r < ds T p x)
theorem MN.uni {T p r r' b : Int} (h : MN T p r b) (h' : MN T p r' b) : r = r' := by
  obtain ⟨⟨a1, a2⟩, a3, a4⟩ := h
  obtain ⟨⟨b1, b2⟩, b3, b4⟩ := h'
  have c1 := a3 r' b1 b2
  have c2 := b3 r a1 a2
  by_cases q : r < r'
  · have := b4 r a1 q; omega
  · by_cases q2 : r' < r
    · have := a4 r' b1 q2; omega
    · omega
theorem bestR_lp (pn : Nat → Int32) (i : Int32) (T : Int32) (mf : Nat → Int32) (hT : 0 ≤ T.toInt ∧ T.toInt ≤ 9999000) (eT : P_X4_ten (pn 1) * pn (15 + i).toNatClampNeg = T) : ∀ (n : Nat) (v2 v3 : Int32), 1 ≤ v3.toInt ∧ v3.toInt ≤ 10000 → (10000 - v3.toInt).toNat < n → MN T.toInt (P_X4_ten (pn 0)).toInt v2.toInt (v3.toInt - 1) →
    (P_X4_bestR_29 pn i n v2 v3 mf).2 = mf ∧ MN T.toInt (P_X4_ten (pn 0)).toInt (P_X4_bestR_29 pn i n v2 v3 mf).1.toInt 9999 := by
  intro n
  have z1 : (1 : Int32).toInt = 1 := by decide
  have z9 : (9999 : Int32).toInt = 9999 := by decide
  induction n with
  | zero => intro v2 v3 _ hn; omega
  | succ n ih =>
    intro v2 v3 hv hn hm
    have E : P_X4_bestR_29 pn i (n + 1) v2 v3 mf = (if 9999 < v3 then (v2, mf) else (if (P_X4_size (P_X4_missing pn (pn (15 + i).toNatClampNeg) v2)) ≤ (P_X4_size (P_X4_missing pn (pn (15 + i).toNatClampNeg) v3)) then P_X4_bestR_29 pn i n v2 (v3 + 1) mf else P_X4_bestR_29 pn i n v3 (v3 + 1) mf)) := rfl
    rw [E]
    by_cases c : 9999 < v3
    · rw [if_pos c]
      rw [Int32.lt_iff_toInt_lt] at c
      have e : v3.toInt - 1 = 9999 := by omega
      rw [e] at hm
      exact ⟨rfl, hm⟩
    · rw [if_neg c]
      rw [Int32.lt_iff_toInt_lt] at c
      have a := toI_add (a := v3) (b := 1) (by omega) (by omega)
      obtain ⟨⟨m1, m2⟩, m3, m4⟩ := hm
      have d2 := (ds_size (b := v2) hT (ten10 (pn 0)) ⟨by omega, by omega⟩).1
      have d3 := (ds_size (b := v3) hT (ten10 (pn 0)) ⟨by omega, by omega⟩).1
      unfold P_X4_missing
      rw [eT]
      by_cases c2 : P_X4_size (T - P_X4_ten (pn 0) * v2) ≤ P_X4_size (T - P_X4_ten (pn 0) * v3)
      · rw [if_pos c2]
        rw [Int32.le_iff_toInt_le, d2, d3] at c2
        refine ih v2 (v3 + 1) ⟨by omega, by omega⟩ (by omega) ⟨⟨m1, by omega⟩, fun x x0 x1 => ?_, m4⟩
        by_cases q : x = v3.toInt
        · rw [q]; exact c2
        · exact m3 x x0 (by omega)
      · rw [if_neg c2]
        rw [Int32.le_iff_toInt_le, d2, d3] at c2
        refine ih v3 (v3 + 1) ⟨by omega, by omega⟩ (by omega) ⟨⟨by omega, by omega⟩, fun x x0 x1 => ?_, fun x x0 x1 => ?_⟩
        · by_cases q : x = v3.toInt
          · rw [q]; omega
          · have := m3 x x0 (by omega); omega
        · have := m3 x x0 (by omega); omega
theorem MN_of {T p B : Int} (hT : 0 ≤ T ∧ T ≤ 9999000) (hp : P10 p) (hB : B = T / p) : MN T p (if ds T p (if (if B < 9999 then B else 9999) + 1 < 9999 then (if B < 9999 then B else 9999) + 1 else 9999) < ds T p (if B < 9999 then B else 9999) then (if (if B < 9999 then B else 9999) + 1 < 9999 then (if B < 9999 then B else 9999) + 1 else 9999) else (if B < 9999 then B else 9999)) 9999 := by
  have aux : ∀ x y : Int, ds T p x = ds T p x → True := fun _ _ _ => trivial
  unfold MN
  unfold ds
  rcases hp with rfl | rfl | rfl | rfl
  all_goals
    by_cases c : B < 9999
    · rw [if_pos c]
      by_cases c2 : B + 1 < 9999
      · rw [if_pos c2]
        split
        · refine ⟨⟨by omega, by omega⟩, fun x x0 x1 => ?_, fun x x0 x1 => ?_⟩ <;> (repeat' split) <;> (repeat' split at *) <;> omega
        · refine ⟨⟨by omega, by omega⟩, fun x x0 x1 => ?_, fun x x0 x1 => ?_⟩ <;> (repeat' split) <;> (repeat' split at *) <;> omega
      · rw [if_neg c2]
        split
        · refine ⟨⟨by omega, by omega⟩, fun x x0 x1 => ?_, fun x x0 x1 => ?_⟩ <;> (repeat' split) <;> (repeat' split at *) <;> omega
        · refine ⟨⟨by omega, by omega⟩, fun x x0 x1 => ?_, fun x x0 x1 => ?_⟩ <;> (repeat' split) <;> (repeat' split at *) <;> omega
    · rw [if_neg c, if_neg (by omega)]
      split
      · refine ⟨⟨by omega, by omega⟩, fun x x0 x1 => ?_, fun x x0 x1 => ?_⟩ <;> (repeat' split) <;> (repeat' split at *) <;> omega
      · refine ⟨⟨by omega, by omega⟩, fun x x0 x1 => ?_, fun x x0 x1 => ?_⟩ <;> (repeat' split) <;> (repeat' split at *) <;> omega
theorem jmin_i (x y : Int32) : (jmin x y).toInt = if y.toInt < x.toInt then y.toInt else x.toInt := by
  unfold jmin
  by_cases c : y < x
  · rw [if_pos c]; rw [Int32.lt_iff_toInt_lt] at c; rw [if_pos c]
  · rw [if_neg c]; rw [Int32.lt_iff_toInt_lt] at c; rw [if_neg c]
end Q2
