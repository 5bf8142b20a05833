/-! a press keeps the two alike -/
theorem toI_mk {a b : Int32} {k : Int} (hb : b.toInt = k) (h1 : -2147483648 ≤ a.toInt * k) (h2 : a.toInt * k < 2147483648) : (a * b).toInt = a.toInt * k := by
  rw [← hb] at h1 h2 ⊢
  exact toI_mul h1 h2
theorem write_eq {lf : Nat → Int32} (h : 0 ≤ (lf 2).toInt ∧ (lf 2).toInt ≤ 19) (ce : Nat → Int32) (rd wy r ck : Int32) :
    P_X0_write lf ce rd wy r ck = (upd (upd lf 2 (if 19 ≤ lf 2 then 0 else lf 2 + 1)) 1 (jmin 20 (lf 1 + 1)), upd (upd (upd (upd ce (4 * (lf 2).toInt.toNat) rd) (4 * (lf 2).toInt.toNat + 1) wy) (4 * (lf 2).toInt.toNat + 2) r) (4 * (lf 2).toInt.toNat + 3) ck) := by
  have z4 : (4 : Int32).toInt = 4 := by decide
  have z0 : (0 : Int32).toInt = 0 := by decide
  have z1 : (1 : Int32).toInt = 1 := by decide
  have z2 : (2 : Int32).toInt = 2 := by decide
  have z3 : (3 : Int32).toInt = 3 := by decide
  have z80 : (80 : Int32).toInt = 80 := by decide
  have m := toI_mk (a := lf 2) z4 (by omega) (by omega)
  have a1 := toI_add (a := lf 2 * 4) (b := 1) (by omega) (by omega)
  have a2 := toI_add (a := lf 2 * 4) (b := 2) (by omega) (by omega)
  have a3 := toI_add (a := lf 2 * 4) (b := 3) (by omega) (by omega)
  have n0 : (lf 2 * 4).toNatClampNeg = 4 * (lf 2).toInt.toNat := by show (lf 2 * 4).toInt.toNat = _; omega
  have n1 : (lf 2 * 4 + 1).toNatClampNeg = 4 * (lf 2).toInt.toNat + 1 := by show (lf 2 * 4 + 1).toInt.toNat = _; omega
  have n2 : (lf 2 * 4 + 2).toNatClampNeg = 4 * (lf 2).toInt.toNat + 2 := by show (lf 2 * 4 + 2).toInt.toNat = _; omega
  have n3 : (lf 2 * 4 + 3).toNatClampNeg = 4 * (lf 2).toInt.toNat + 3 := by show (lf 2 * 4 + 3).toInt.toNat = _; omega
  unfold P_X0_write
  show (if lf 2 * 4 < 0 then _ else (if 80 ≤ lf 2 * 4 + 3 then _ else _)) = _
  rw [if_neg (by rw [Int32.lt_iff_toInt_lt]; omega), if_neg (by rw [Int32.le_iff_toInt_le]; omega), n0, n1, n2, n3]
  show (if 19 ≤ lf 2 then _ else _) = _
  by_cases c : 19 ≤ lf 2
  · rw [if_pos c, if_pos c]
  · rw [if_neg c, if_neg c]
theorem upd_o {f : Nat → Int32} {k j : Nat} {x : Int32} (h : j ≠ k) : upd f k x j = f j := if_neg h
theorem upd4 {ce : Nat → Int32} {b : Nat} {x0 x1 x2 x3 : Int32} {k w : Nat} (h : k ≠ b) (hw : w < 4) : upd (upd (upd (upd ce (4 * b) x0) (4 * b + 1) x1) (4 * b + 2) x2) (4 * b + 3) x3 (4 * k + w) = ce (4 * k + w) := by
  rw [upd_o (by omega), upd_o (by omega), upd_o (by omega), upd_o (by omega)]
theorem pressP_hi (pg : Nat → Int32) (rv v ov : Int32) {j : Nat} (h1 : 25 ≤ j) (h2 : j ≤ 100) : pressP pg rv v ov j = pg (j - 4) := by
  unfold pressP
  rw [upd_o (by omega), upd_o (by omega), upd_o (by omega), upd_o (by omega), upd_o (by omega), upd_o (by omega), upd_o (by omega), upd_o (by omega), upd_o (by omega), upd_o (by omega)]
  exact if_pos ⟨h1, by omega⟩
theorem cnt20 {x : Int32} (h : 0 ≤ x.toInt ∧ x.toInt ≤ 20) : jmin 20 (x + 1) = (if 20 ≤ x then 20 else x + 1) := by
  have z1 : (1 : Int32).toInt = 1 := by decide
  have z20 : (20 : Int32).toInt = 20 := by decide
  have a := toI_add (a := x) (b := 1) (by omega) (by omega)
  unfold jmin
  by_cases c : 20 ≤ x
  · rw [if_pos c]
    rw [Int32.le_iff_toInt_le] at c
    rw [if_neg (by rw [Int32.lt_iff_toInt_lt]; omega)]
  · rw [if_neg c]
    rw [Int32.le_iff_toInt_le] at c
    by_cases c2 : x + 1 < 20
    · rw [if_pos c2]
    · rw [if_neg c2]
      rw [Int32.lt_iff_toInt_lt] at c2
      exact Int32.toInt_inj.mp (by omega)
theorem cnt20_i {x : Int32} (h : 0 ≤ x.toInt ∧ x.toInt ≤ 20) : (jmin 20 (x + 1)).toInt = if x.toInt = 20 then 20 else x.toInt + 1 := by
  have z1 : (1 : Int32).toInt = 1 := by decide
  have z20 : (20 : Int32).toInt = 20 := by decide
  have a := toI_add (a := x) (b := 1) (by omega) (by omega)
  rw [cnt20 h]
  by_cases c : 20 ≤ x
  · rw [if_pos c]
    rw [Int32.le_iff_toInt_le] at c
    rw [if_pos (by omega)]
    exact z20
  · rw [if_neg c]
    rw [Int32.le_iff_toInt_le] at c
    rw [if_neg (by omega)]
    exact a
theorem lr_press {lf ce pg : Nat → Int32} (h : LR lf ce pg) (hc : 0 ≤ (lf 1).toInt ∧ (lf 1).toInt ≤ 20) (rv v ov wy r ck : Int32) (e1 : wy = (if rv = 0 then 1 else -1)) (e2 : r = pg 2) (e3 : ck = pg 8) :
    LR (P_X0_write lf ce v wy r ck).1 (P_X0_write lf ce v wy r ck).2 (pressP pg rv v ov) := by
  obtain ⟨h2, hl⟩ := h
  rw [write_eq h2]
  have z1 : (1 : Int32).toInt = 1 := by decide
  have z0 : (0 : Int32).toInt = 0 := by decide
  have z19 : (19 : Int32).toInt = 19 := by decide
  have nx : ((if 19 ≤ lf 2 then 0 else lf 2 + 1 : Int32)).toInt.toNat = ((lf 2).toInt.toNat + 1) % 20 ∧ 0 ≤ ((if 19 ≤ lf 2 then 0 else lf 2 + 1 : Int32)).toInt ∧ ((if 19 ≤ lf 2 then 0 else lf 2 + 1 : Int32)).toInt ≤ 19 := by
    have a := toI_add (a := lf 2) (b := 1) (by omega) (by omega)
    by_cases c : 19 ≤ lf 2
    · rw [if_pos c]
      rw [Int32.le_iff_toInt_le] at c
      omega
    · rw [if_neg c]
      rw [Int32.le_iff_toInt_le] at c
      omega
  refine ⟨nx.2, fun j w hj hw => ?_⟩
  have hj : (j : Int) < (jmin 20 (lf 1 + 1)).toInt := hj
  rw [cnt20_i hc] at hj
  have hj20 : j < 20 := by
    by_cases c : (lf 1).toInt = 20
    · rw [if_pos c] at hj; omega
    · rw [if_neg c] at hj; omega
  show pressP pg rv v ov (21 + 4 * j + w) = upd (upd (upd (upd ce (4 * (lf 2).toInt.toNat) v) (4 * (lf 2).toInt.toNat + 1) wy) (4 * (lf 2).toInt.toNat + 2) r) (4 * (lf 2).toInt.toNat + 3) ck (4 * ((((if 19 ≤ lf 2 then 0 else lf 2 + 1 : Int32)).toInt.toNat + 19 - j) % 20) + w)
  rw [nx.1]
  by_cases c0 : j = 0
  · subst c0
    have e : ((((lf 2).toInt.toNat + 1) % 20 + 19 - 0) % 20) = (lf 2).toInt.toNat := by omega
    rw [e]
    match w, hw with
    | 0, _ => rw [upd_o (by omega), upd_o (by omega), upd_o (by omega)]; exact upd_me.symm
    | 1, _ => rw [upd_o (by omega), upd_o (by omega)]; exact e1.symm.trans upd_me.symm
    | 2, _ => rw [upd_o (by omega)]; exact e2.symm.trans upd_me.symm
    | 3, _ => exact e3.symm.trans upd_me.symm
  · have e : ((((lf 2).toInt.toNat + 1) % 20 + 19 - j) % 20) = (((lf 2).toInt.toNat + 19 - (j - 1)) % 20) := by omega
    rw [e, upd4 (by omega) hw, pressP_hi _ _ _ _ (by omega) (by omega)]
    rw [← hl (j - 1) w (by by_cases c : (lf 1).toInt = 20
                           · rw [if_pos c] at hj; omega
                           · rw [if_neg c] at hj; omega) hw]
    congr 1
    omega
