/-! answers alike: what there is, values -/
theorem io {v lo hi : Int32} {l h : Int64} (e1 : l.toInt = lo.toInt) (e2 : h.toInt = hi.toInt) : (P_X3_outside v lo hi = 0 ∧ ¬ P_X4_in v.toInt64 l h = 0 ∧ lo.toInt ≤ v.toInt ∧ v.toInt ≤ hi.toInt) ∨ (¬ P_X3_outside v lo hi = 0 ∧ P_X4_in v.toInt64 l h = 0) := by
  by_cases c : P_X4_in v.toInt64 l h = 0
  · refine Or.inr ⟨fun q => ?_, c⟩
    have h1 := out_i q
    have h2 := in_0 c
    rw [Int32.toInt_toInt64] at h2
    exact h2 (by omega)
  · have h1 := in_i c
    refine Or.inl ⟨?_, c, by omega, by omega⟩
    unfold P_X3_outside
    rw [if_neg (by rw [Int32.lt_iff_toInt_lt]; omega), if_pos (by rw [Int32.le_iff_toInt_le]; omega)]
theorem i_nI {x : Int32} {n : Nat} (h0 : 0 ≤ x.toInt) (h : x.toInt < n) : ∃ k : Nat, k < n ∧ x = nI k := by
  have hb := x.toInt_lt
  refine ⟨x.toInt.toNat, by omega, Int32.toInt_inj.mp ?_⟩
  rw [nI_toInt (by omega)]
  omega
theorem i16 {x : Int32} (h0 : 0 ≤ x.toInt) (h : x.toInt ≤ 15) : x = 0 ∨ x = 1 ∨ x = 2 ∨ x = 3 ∨ x = 4 ∨ x = 5 ∨ x = 6 ∨ x = 7 ∨ x = 8 ∨ x = 9 ∨ x = 10 ∨ x = 11 ∨ x = 12 ∨ x = 13 ∨ x = 14 ∨ x = 15 := by
  have e : ∀ k : Int32, x.toInt = k.toInt → x = k := fun k q => Int32.toInt_inj.mp q
  rcases (show x.toInt = 0 ∨ x.toInt = 1 ∨ x.toInt = 2 ∨ x.toInt = 3 ∨ x.toInt = 4 ∨ x.toInt = 5 ∨ x.toInt = 6 ∨ x.toInt = 7 ∨ x.toInt = 8 ∨ x.toInt = 9 ∨ x.toInt = 10 ∨ x.toInt = 11 ∨ x.toInt = 12 ∨ x.toInt = 13 ∨ x.toInt = 14 ∨ x.toInt = 15 by omega) with q | q | q | q | q | q | q | q | q | q | q | q | q | q | q | q
  · exact Or.inl (e 0 (q.trans (by decide)))
  · exact Or.inr (Or.inl (e 1 (q.trans (by decide))))
  · exact Or.inr (Or.inr (Or.inl (e 2 (q.trans (by decide)))))
  · exact Or.inr (Or.inr (Or.inr (Or.inl (e 3 (q.trans (by decide))))))
  · exact Or.inr (Or.inr (Or.inr (Or.inr (Or.inl (e 4 (q.trans (by decide)))))))
  · exact Or.inr (Or.inr (Or.inr (Or.inr (Or.inr (Or.inl (e 5 (q.trans (by decide))))))))
  · exact Or.inr (Or.inr (Or.inr (Or.inr (Or.inr (Or.inr (Or.inl (e 6 (q.trans (by decide)))))))))
  · exact Or.inr (Or.inr (Or.inr (Or.inr (Or.inr (Or.inr (Or.inr (Or.inl (e 7 (q.trans (by decide))))))))))
  · exact Or.inr (Or.inr (Or.inr (Or.inr (Or.inr (Or.inr (Or.inr (Or.inr (Or.inl (e 8 (q.trans (by decide)))))))))))
  · exact Or.inr (Or.inr (Or.inr (Or.inr (Or.inr (Or.inr (Or.inr (Or.inr (Or.inr (Or.inl (e 9 (q.trans (by decide))))))))))))
  · exact Or.inr (Or.inr (Or.inr (Or.inr (Or.inr (Or.inr (Or.inr (Or.inr (Or.inr (Or.inr (Or.inl (e 10 (q.trans (by decide)))))))))))))
  · exact Or.inr (Or.inr (Or.inr (Or.inr (Or.inr (Or.inr (Or.inr (Or.inr (Or.inr (Or.inr (Or.inr (Or.inl (e 11 (q.trans (by decide))))))))))))))
  · exact Or.inr (Or.inr (Or.inr (Or.inr (Or.inr (Or.inr (Or.inr (Or.inr (Or.inr (Or.inr (Or.inr (Or.inr (Or.inl (e 12 (q.trans (by decide)))))))))))))))
  · exact Or.inr (Or.inr (Or.inr (Or.inr (Or.inr (Or.inr (Or.inr (Or.inr (Or.inr (Or.inr (Or.inr (Or.inr (Or.inr (Or.inl (e 13 (q.trans (by decide))))))))))))))))
  · exact Or.inr (Or.inr (Or.inr (Or.inr (Or.inr (Or.inr (Or.inr (Or.inr (Or.inr (Or.inr (Or.inr (Or.inr (Or.inr (Or.inr (Or.inl (e 14 (q.trans (by decide)))))))))))))))))
  · exact Or.inr (Or.inr (Or.inr (Or.inr (Or.inr (Or.inr (Or.inr (Or.inr (Or.inr (Or.inr (Or.inr (Or.inr (Or.inr (Or.inr (Or.inr ((e 15 (q.trans (by decide))))))))))))))))))
theorem hm_0 (e1 : Int32) : hm e1 0 = 0 := if_pos rfl
theorem hm_1 {e1 : Int32} (h : ¬ e1 = 0) : hm e1 e1 = 1 := by
  unfold hm
  rw [if_neg h, if_pos rfl]
/-- an answer of the class and one of the reference, nothing changed -/
def QM (e1 : Int32) (u v1 : Int32) (r : Int32) (q mf : Nat → Int32) : Prop := (u = 0 ∨ u = e1) ∧ q = upd mf 0 (hm e1 u) ∧ (u = 0 → r = v1)
section QQ
variable {f oh lf ce pg : Nat → Int32}
theorem q_about (h : SR f oh lf ce pg) (bf mf : Nat → Int32) (what : Int32) : QM 1 (P_X3_about bf f lf what).1 (P_X4_about mf pg what).1 (P_X3_about bf f lf what).2 (P_X4_about mf pg what).2 mf := by
  unfold P_X3_about P_X4_about
  rcases io (v := what) (lo := 0) (hi := 15) (l := 0) (h := 15) (by decide) (by decide) with ⟨a, b, c, d⟩ | ⟨a, b⟩
  · rw [if_pos a, if_neg b]
    have z0 : (0 : Int32).toInt = 0 := by decide
    have z15 : (15 : Int32).toInt = 15 := by decide
    have hh : 0 ≤ what.toInt ∧ what.toInt ≤ 15 := ⟨by omega, by omega⟩
    obtain ⟨e9, e10, e11, e12, e13, e14⟩ := h.2.1
    clear a b c d
    rcases i16 hh.1 hh.2 with rfl | rfl | rfl | rfl | rfl | rfl | rfl | rfl | rfl | rfl | rfl | rfl | rfl | rfl | rfl | rfl
    · exact ⟨Or.inl rfl, rfl, fun _ => h.lo (j := 0) (by decide)⟩
    · exact ⟨Or.inl rfl, rfl, fun _ => h.lo (j := 1) (by decide)⟩
    · exact ⟨Or.inl rfl, rfl, fun _ => h.lo (j := 2) (by decide)⟩
    · exact ⟨Or.inl rfl, rfl, fun _ => h.lo (j := 3) (by decide)⟩
    · exact ⟨Or.inl rfl, rfl, fun _ => h.lo (j := 4) (by decide)⟩
    · exact ⟨Or.inl rfl, rfl, fun _ => h.lo (j := 5) (by decide)⟩
    · exact ⟨Or.inl rfl, rfl, fun _ => h.lo (j := 6) (by decide)⟩
    · exact ⟨Or.inl rfl, rfl, fun _ => h.lo (j := 7) (by decide)⟩
    · exact ⟨Or.inl rfl, rfl, fun _ => h.off⟩
    · exact ⟨Or.inl rfl, rfl, fun _ => h.lo (j := 8) (by decide)⟩
    · exact ⟨Or.inl rfl, rfl, fun _ => e9.symm⟩
    · exact ⟨Or.inl rfl, rfl, fun _ => e10.symm⟩
    · refine ⟨Or.inl rfl, rfl, fun _ => ?_⟩
      show (if f 9 = 0 then 0 else 1) = pg 11
      rw [e11]
      rcases h.stk with q | q <;> rw [q] <;> rfl
    · exact ⟨Or.inl rfl, rfl, fun _ => e12.symm⟩
    · exact ⟨Or.inl rfl, rfl, fun _ => e13.symm⟩
    · exact ⟨Or.inl rfl, rfl, fun _ => e14.symm⟩
  · rw [if_neg a, if_pos b]
    exact ⟨Or.inr rfl, rfl, fun q => absurd q (by decide)⟩
theorem cell_eq (h : LR lf ce pg) (h12 : pg 12 = lf 1) (hl : 0 ≤ (lf 1).toInt ∧ (lf 1).toInt ≤ 20) {j w : Int32} (hj : ¬ j < 0) (hw : 0 ≤ w.toInt ∧ w.toInt ≤ 3) : P_X0_cell lf ce j w = if pg 12 ≤ j then (-9999) else pg ((21 + (4 * j)) + w).toNatClampNeg := by
  obtain ⟨⟨h1, h2⟩, hd⟩ := h
  have z0 : (0 : Int32).toInt = 0 := by decide
  have z1 : (1 : Int32).toInt = 1 := by decide
  have z4 : (4 : Int32).toInt = 4 := by decide
  have z20 : (20 : Int32).toInt = 20 := by decide
  have z21 : (21 : Int32).toInt = 21 := by decide
  have z80 : (80 : Int32).toInt = 80 := by decide
  unfold P_X0_cell
  rw [if_neg hj, h12]
  rw [Int32.lt_iff_toInt_lt] at hj
  by_cases c : lf 1 ≤ j
  · rw [if_pos c]
    rw [Int32.le_iff_toInt_le] at c
    rw [if_neg (by rw [Int32.lt_iff_toInt_lt]; omega)]
  · rw [if_neg c]
    rw [Int32.le_iff_toInt_le] at c
    rw [if_pos (by rw [Int32.lt_iff_toInt_lt]; omega)]
    have a1 := toI_add (a := lf 2) (b := 20) (by omega) (by omega)
    have a2 := toI_sub (a := lf 2 + 20) (b := 1) (by omega) (by omega)
    have a3 := toI_sub (a := lf 2 + 20 - 1) (b := j) (by omega) (by omega)
    have a4 := i32_mod (g := lf 2 + 20 - 1 - j) (k := 20) (by omega) (by omega)
    rw [z20] at a4
    generalize lf 2 + 20 - 1 - j - (lf 2 + 20 - 1 - j) / 20 * 20 = x at *
    have a5 := toI_mk (a := x) z4 (by omega) (by omega)
    have a6 := toI_add (a := x * 4) (b := w) (by omega) (by omega)
    rw [if_neg (by rw [Int32.lt_iff_toInt_lt]; omega), if_neg (by rw [Int32.le_iff_toInt_le]; omega)]
    have b1 : (4 * j).toInt = j.toInt * 4 := by rw [Int32.mul_comm]; exact toI_mk z4 (by omega) (by omega)
    have b2 := toI_add (a := 21) (b := 4 * j) (by omega) (by omega)
    have b3 := toI_add (a := 21 + 4 * j) (b := w) (by omega) (by omega)
    have n1 : (x * 4 + w).toNatClampNeg = 4 * (((lf 2).toInt.toNat + 19 - j.toInt.toNat) % 20) + w.toInt.toNat := by
      show (x * 4 + w).toInt.toNat = _
      omega
    have n2 : (21 + 4 * j + w).toNatClampNeg = 21 + 4 * j.toInt.toNat + w.toInt.toNat := by
      show (21 + 4 * j + w).toInt.toNat = _
      omega
    rw [n1, n2, hd _ _ (by omega) (by omega)]
theorem q_told (h : SR f oh lf ce pg) (bf mf : Nat → Int32) (j w : Int32) : QM 1 (P_X3_told bf f lf ce j w).1 (P_X4_told mf pg j w).1 (P_X3_told bf f lf ce j w).2 (P_X4_told mf pg j w).2 mf := by
  unfold P_X3_told P_X4_told
  by_cases cj : j < 0
  · rw [if_pos cj, if_pos cj]
    exact ⟨Or.inr rfl, rfl, fun q => absurd q (by decide)⟩
  · rw [if_neg cj, if_neg cj]
    rcases io (v := w) (lo := 0) (hi := 3) (l := 0) (h := 3) (by decide) (by decide) with ⟨a, b, c, d⟩ | ⟨a, b⟩
    · rw [if_pos a, if_neg b]
      have z0 : (0 : Int32).toInt = 0 := by decide
      have z3 : (3 : Int32).toInt = 3 := by decide
      have e := cell_eq h.lr h.2.1.2.2.2.1 h.lf1 cj (w := w) ⟨by omega, by omega⟩
      rw [e]
      by_cases c2 : pg 12 ≤ j
      · rw [if_pos c2, if_pos c2]; exact ⟨Or.inl rfl, rfl, fun _ => rfl⟩
      · rw [if_neg c2, if_neg c2]; exact ⟨Or.inl rfl, rfl, fun _ => rfl⟩
    · rw [if_neg a, if_pos b]
      exact ⟨Or.inr rfl, rfl, fun q => absurd q (by decide)⟩
theorem q_bridge (h : SR f oh lf ce pg) (bf mf : Nat → Int32) (what : Int32) : QM 1 (P_X3_bridge bf f oh what).1 (P_X4_bridge mf pg what).1 (P_X3_bridge bf f oh what).2 (P_X4_bridge mf pg what).2 mf := by
  have e2 : f 2 = pg 2 := h.lo (by decide)
  have hr := pv_r h.pv
  unfold P_X3_bridge P_X4_bridge
  rw [e2, h.dif, h.den, h.dfw bf hr, h.off]
  rcases io (v := what) (lo := 0) (hi := 4) (l := 0) (h := 4) (by decide) (by decide) with ⟨a, b, c, d⟩ | ⟨a, b⟩
  · rw [if_pos a, if_neg b]
    by_cases c0 : what = 0
    · rw [if_pos c0, if_pos c0]; exact ⟨Or.inl rfl, rfl, fun _ => rfl⟩
    rw [if_neg c0, if_neg c0]
    by_cases c1 : what = 1
    · rw [if_pos c1, if_pos c1]; exact ⟨Or.inl rfl, rfl, fun _ => rfl⟩
    rw [if_neg c1, if_neg c1]
    by_cases c2 : what = 2
    · rw [if_pos c2, if_pos c2]; exact ⟨Or.inl rfl, rfl, fun _ => rfl⟩
    rw [if_neg c2, if_neg c2]
    by_cases c3 : what = 3
    · rw [if_pos c3, if_pos c3]; exact ⟨Or.inl rfl, rfl, fun _ => rfl⟩
    rw [if_neg c3, if_neg c3]
    exact ⟨Or.inl rfl, rfl, fun _ => Int32.sub_eq_add_neg _ _⟩
  · rw [if_neg a, if_pos b]
    exact ⟨Or.inr rfl, rfl, fun q => absurd q (by decide)⟩
theorem q_value (h : SR f oh lf ce pg) (bf mf : Nat → Int32) (lim : Int32) : QM 1 (P_X3_value bf f lim).1 (P_X4_value mf pg lim).1 (P_X3_value bf f lim).2 (P_X4_value mf pg lim).2 mf := by
  have e0 : f 0 = pg 0 := h.lo (by decide)
  have e1 : f 1 = pg 1 := h.lo (by decide)
  have e2 : f 2 = pg 2 := h.lo (by decide)
  have hq : ∀ a b : Int32, ¬ b = 0 → P_X3_quotient a b = a / b := fun a b hb => if_neg hb
  unfold P_X3_value P_X4_value
  rw [e0, e1, e2, ten_pow, ten_pow, hq _ _ (ten2_ne _), hq _ _ (ten_ne _), hq _ _ (ten_ne _)]
  rcases io (v := lim) (lo := 0) (hi := 2) (l := 0) (h := 2) (by decide) (by decide) with ⟨a, b, c, d⟩ | ⟨a, b⟩
  · rw [if_pos a, if_neg b]
    by_cases c0 : lim = 0
    · rw [if_pos c0, if_pos c0]; exact ⟨Or.inl rfl, rfl, fun _ => rfl⟩
    rw [if_neg c0, if_neg c0]
    by_cases c1 : lim = 1
    · rw [if_pos c1, if_pos c1]; exact ⟨Or.inl rfl, rfl, fun _ => rfl⟩
    rw [if_neg c1, if_neg c1]
    exact ⟨Or.inl rfl, rfl, fun _ => rfl⟩
  · rw [if_neg a, if_pos b]
    exact ⟨Or.inr rfl, rfl, fun q => absurd q (by decide)⟩
end QQ
