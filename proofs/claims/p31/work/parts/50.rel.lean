def hm (e1 t : Int32) : Int32 := if t = 0 then 0 else if t = e1 then 1 else 2
/-! a state of the class and a page of the reference that say the same -/
def LR (lf ce pg : Nat → Int32) : Prop := (0 ≤ (lf 2).toInt ∧ (lf 2).toInt ≤ 19) ∧ ∀ j w : Nat, (j : Int) < (lf 1).toInt → w < 4 → pg (21 + 4 * j + w) = ce (4 * (((lf 2).toInt.toNat + 19 - j) % 20) + w)
def RG (pg : Nat → Int32) : Prop := (1 ≤ (pg 3).toInt ∧ (pg 3).toInt ≤ 99) ∧ (-50 ≤ (pg 5).toInt ∧ (pg 5).toInt ≤ 50) ∧ (0 ≤ (pg 6).toInt ∧ (pg 6).toInt ≤ 20) ∧ (0 ≤ (pg 7).toInt ∧ (pg 7).toInt ≤ 9999) ∧ (pg 11 = 0 ∨ pg 11 = 1)
def SR (f oh lf ce pg : Nat → Int32) : Prop := (∀ j : Nat, j < 9 → pg j = f j) ∧ (pg 9 = f 13 ∧ pg 10 = f 14 ∧ pg 11 = f 9 ∧ pg 12 = lf 1 ∧ pg 13 = f 10 ∧ pg 14 = f 11) ∧ (∀ i : Nat, (i : Int) < (f 13).toInt → pg (15 + i) = oh i) ∧ LR lf ce pg ∧ PV pg ∧ RG pg
theorem ten_pow (i : Int32) : P_X3_power i = P_X4_ten i := rfl
section SRS
variable {f oh lf ce pg : Nat → Int32}
theorem SR.pv (h : SR f oh lf ce pg) : PV pg := h.2.2.2.2.1
theorem SR.rg (h : SR f oh lf ce pg) : RG pg := h.2.2.2.2.2
theorem SR.lr (h : SR f oh lf ce pg) : LR lf ce pg := h.2.2.2.1
theorem SR.lo (h : SR f oh lf ce pg) {j : Nat} (hj : j < 9) : f j = pg j := (h.1 j hj).symm
theorem SR.stk (h : SR f oh lf ce pg) : f 9 = 0 ∨ f 9 = 1 := by
  rw [← h.2.1.2.2.1]; exact h.rg.2.2.2.2
theorem SR.unk (h : SR f oh lf ce pg) : P_X1_ohmsOf f oh (f 14) = P_X4_unknown pg := by
  obtain ⟨-, ⟨e9, e10, -⟩, hx, -, ⟨⟨a1, a2⟩, ⟨b1, b2⟩, -⟩, -⟩ := h
  unfold P_X1_ohmsOf P_X4_unknown
  rw [← e10]
  have z0 : (0 : Int32).toInt = 0 := by decide
  have z6 : (6 : Int32).toInt = 6 := by decide
  rw [if_neg (by rw [Int32.lt_iff_toInt_lt]; omega), if_neg (by rw [Int32.le_iff_toInt_le]; omega)]
  have e15 : (15 : Int32).toInt = 15 := by decide
  have a := toI_add (a := 15) (b := pg 10) (by omega) (by omega)
  have n1 : (15 + pg 10).toNatClampNeg = 15 + (pg 10).toNatClampNeg := by
    show (15 + pg 10).toInt.toNat = 15 + (pg 10).toInt.toNat
    omega
  rw [n1, hx _ (by show (((pg 10).toInt.toNat : Nat) : Int) < _; rw [← e9]; omega)]
theorem SR.dif (h : SR f oh lf ce pg) (box : Int32) : P_X1_difference f oh box = P_X4_missing pg (P_X4_unknown pg) box := by
  unfold P_X1_difference P_X4_missing
  rw [h.unk, h.lo (j := 1) (by decide), h.lo (j := 0) (by decide)]
  rfl
theorem SR.den (h : SR f oh lf ce pg) (box : Int32) : P_X1_denominator f oh box = P_X4_divisor pg (P_X4_unknown pg) box := by
  unfold P_X1_denominator P_X4_divisor
  rw [h.unk, h.lo (j := 1) (by decide), h.lo (j := 0) (by decide)]
  rfl
theorem SR.dfl (h : SR f oh lf ce pg) {box : Int32} (hb : RB box) (sh : Int32) : P_X1_deflection f (P_X1_difference f oh box) (P_X1_denominator f oh box) sh = P_X4_trueOf pg box sh := by
  rw [h.dif, h.den]
  unfold P_X1_deflection
  rw [if_neg (pv_div h.pv hb), ten_pow, if_neg (ten_ne sh), h.lo (j := 3) (by decide)]
  rfl
theorem SR.off (h : SR f oh lf ce pg) : P_X1_offset f = P_X4_offsetOf pg := by
  unfold P_X1_offset P_X1_offsetAt P_X4_offsetOf
  rw [h.lo (j := 5) (by decide), h.lo (j := 6) (by decide), h.lo (j := 7) (by decide)]
theorem SR.dfw (h : SR f oh lf ce pg) (bf : Nat → Int32) {box : Int32} (hb : RB box) : P_X3_deflectionWith bf f oh box = P_X4_trueOf pg box (pg 4) := by
  rw [← h.lo (j := 4) (by decide)]
  exact h.dfl hb _
end SRS
/-! a press -/
theorem rd_eq (x : Int32) : jmax (-500) (jmin 500 x) = rd500 x := by
  unfold jmax jmin rd500
  have z1 : (500 : Int32).toInt = 500 := by decide
  have z2 : (-500 : Int32).toInt = -500 := by decide
  by_cases c1 : x < 500
  · rw [if_pos c1]
    rw [Int32.lt_iff_toInt_lt] at c1
    rw [if_pos (show x ≤ 500 by rw [Int32.le_iff_toInt_le]; omega)]
    by_cases c2 : -500 < x
    · rw [if_pos c2]
      rw [Int32.lt_iff_toInt_lt] at c2
      rw [if_pos (show -500 ≤ x by rw [Int32.le_iff_toInt_le]; omega)]
    · rw [if_neg c2]
      by_cases c3 : -500 ≤ x
      · rw [if_pos c3]
        rw [Int32.lt_iff_toInt_lt] at c2
        rw [Int32.le_iff_toInt_le] at c3
        exact Int32.toInt_inj.mp (by omega)
      · rw [if_neg c3]
  · rw [if_neg c1, if_pos (by decide)]
    rw [Int32.lt_iff_toInt_lt] at c1
    by_cases c2 : x ≤ 500
    · rw [if_pos c2]
      rw [Int32.le_iff_toInt_le] at c2
      rw [if_pos (show -500 ≤ x by rw [Int32.le_iff_toInt_le]; omega)]
      exact Int32.toInt_inj.mp (by omega)
    · rw [if_neg c2]
def pkg (f : Nat → Int32) (raw : Int32) : Nat → Int32 := if ovr raw = 0 then upd f 10 (f 10 + 1) else upd (upd (upd f 10 (f 10 + 1)) 9 1) 11 (f 11 + 1)
def pkf (f : Nat → Int32) (raw : Int32) : Nat → Int32 := upd (upd (pkg f raw) 7 (P_X1_warmed (pkg f raw 7) (pkg f raw 3))) 8 (pkg f raw 8 + 1)
def kraw (f oh : Nat → Int32) (w : Int32) : Int32 := (w * (P_X1_deflection f (P_X1_difference f oh (f 2)) (P_X1_denominator f oh (f 2)) (f 4))) + (P_X1_offset f)
def kway (rv : Int32) : Int32 := if rv = 0 then 1 else (-1)
theorem ovr_0 {x : Int32} (h1 : ¬ x < -5000) (h2 : x ≤ 5000) : ovr x = 0 := by
  unfold ovr; rw [if_neg h1, if_pos h2]
theorem ovr_1 {x : Int32} (h : x < -5000 ∨ ¬ x ≤ 5000) : ovr x = 1 := by
  unfold ovr
  by_cases c : x < -5000
  · rw [if_pos c]
  · rcases h with h | h
    · exact absurd h c
    · rw [if_neg c, if_neg h]
theorem key_eq (f oh lf ce : Nat → Int32) (rv : Int32) : P_X1_pressKey f oh lf ce rv = (rd500 (kraw f oh (kway rv)), pkf f (kraw f oh (kway rv)), (P_X0_write lf ce (rd500 (kraw f oh (kway rv))) (kway rv) (f 2) (f 8)).1, (P_X0_write lf ce (rd500 (kraw f oh (kway rv))) (kway rv) (f 2) (f 8)).2) := by
  have key : ∀ w : Int32, (let u72 := P_X0_write lf ce (jmax (-500) (jmin 500 ((w * (P_X1_deflection f (P_X1_difference f oh (f 2)) (P_X1_denominator f oh (f 2)) (f 4))) + (P_X1_offset f)))) w (f 2) (f 8); let j114 := fun (j114_w0 : Nat → Int32) => ((jmax (-500) (jmin 500 ((w * (P_X1_deflection f (P_X1_difference f oh (f 2)) (P_X1_denominator f oh (f 2)) (f 4))) + (P_X1_offset f)))), (upd (upd j114_w0 7 (P_X1_warmed (j114_w0 7) (j114_w0 3))) 8 ((j114_w0 8) + 1)), u72.1, u72.2); let j99 := fun (_ : Unit) => (j114 (upd (upd (upd f 10 ((f 10) + 1)) 9 1) 11 ((f 11) + 1))); (if ((w * (P_X1_deflection f (P_X1_difference f oh (f 2)) (P_X1_denominator f oh (f 2)) (f 4))) + (P_X1_offset f)) < (-5000) then (j99 ()) else (if ((w * (P_X1_deflection f (P_X1_difference f oh (f 2)) (P_X1_denominator f oh (f 2)) (f 4))) + (P_X1_offset f)) ≤ 5000 then (j114 (upd f 10 ((f 10) + 1))) else (j99 ())))) = (rd500 (kraw f oh w), pkf f (kraw f oh w), (P_X0_write lf ce (rd500 (kraw f oh w)) w (f 2) (f 8)).1, (P_X0_write lf ce (rd500 (kraw f oh w)) w (f 2) (f 8)).2) := by
    intro w
    show (if kraw f oh w < (-5000) then _ else (if kraw f oh w ≤ 5000 then _ else _)) = _
    have hr : jmax (-500) (jmin 500 ((w * (P_X1_deflection f (P_X1_difference f oh (f 2)) (P_X1_denominator f oh (f 2)) (f 4))) + (P_X1_offset f))) = rd500 (kraw f oh w) := rd_eq _
    rw [hr]
    unfold pkf pkg
    by_cases c1 : kraw f oh w < (-5000)
    · rw [if_pos c1, if_neg (by rw [ovr_1 (Or.inl c1)]; decide)]
    · rw [if_neg c1]
      by_cases c2 : kraw f oh w ≤ 5000
      · rw [if_pos c2, if_pos (ovr_0 c1 c2)]
      · rw [if_neg c2, if_neg (by rw [ovr_1 (Or.inr c2)]; decide)]
  by_cases c : rv = 0
  · have e : kway rv = 1 := if_pos c
    rw [e]
    unfold P_X1_pressKey
    exact (if_pos c).trans (key 1)
  · have e : kway rv = -1 := if_neg c
    rw [e]
    unfold P_X1_pressKey
    exact (if_neg c).trans (key (-1))
