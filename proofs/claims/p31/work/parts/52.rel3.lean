theorem pkg_o {f : Nat → Int32} {raw : Int32} {j : Nat} (h9 : j ≠ 9) (h10 : j ≠ 10) (h11 : j ≠ 11) : pkg f raw j = f j := by
  unfold pkg
  by_cases c : ovr raw = 0
  · rw [if_pos c, upd_o h10]
  · rw [if_neg c, upd_o h11, upd_o h9, upd_o h10]
theorem pkf_o {f : Nat → Int32} {raw : Int32} {j : Nat} (h7 : j ≠ 7) (h8 : j ≠ 8) (h9 : j ≠ 9) (h10 : j ≠ 10) (h11 : j ≠ 11) : pkf f raw j = f j := by
  unfold pkf
  rw [upd_o h8, upd_o h7]
  exact pkg_o h9 h10 h11
theorem pkf_7 (f : Nat → Int32) (raw : Int32) : pkf f raw 7 = P_X1_warmed (f 7) (f 3) := by
  unfold pkf
  rw [upd_o (by decide), upd_me, pkg_o (by decide) (by decide) (by decide), pkg_o (by decide) (by decide) (by decide)]
theorem pkf_8 (f : Nat → Int32) (raw : Int32) : pkf f raw 8 = f 8 + 1 := by
  unfold pkf
  rw [upd_me, pkg_o (by decide) (by decide) (by decide)]
theorem pkf_9 (f : Nat → Int32) (raw : Int32) : pkf f raw 9 = if ovr raw = 0 then f 9 else 1 := by
  unfold pkf pkg
  rw [upd_o (by decide), upd_o (by decide)]
  by_cases c : ovr raw = 0
  · rw [if_pos c, if_pos c]; rfl
  · rw [if_neg c, if_neg c]; rfl
theorem pkf_10 (f : Nat → Int32) (raw : Int32) : pkf f raw 10 = f 10 + 1 := by
  unfold pkf pkg
  rw [upd_o (by decide), upd_o (by decide)]
  by_cases c : ovr raw = 0
  · rw [if_pos c]; rfl
  · rw [if_neg c]; rfl
theorem pkf_11 (f : Nat → Int32) (raw : Int32) : pkf f raw 11 = f 11 + (if ovr raw = 0 then 0 else 1) := by
  unfold pkf pkg
  rw [upd_o (by decide), upd_o (by decide)]
  by_cases c : ovr raw = 0
  · rw [if_pos c, if_pos c, Int32.add_zero]; rfl
  · rw [if_neg c, if_neg c]; rfl
theorem warm_eq (w e : Int32) : P_X1_warmed w e = if w + e ≤ 9999 then w + e else 9999 := by
  unfold P_X1_warmed jmin
  have z : (9999 : Int32).toInt = 9999 := by decide
  by_cases c : w + e < 9999
  · rw [if_pos c]
    rw [Int32.lt_iff_toInt_lt] at c
    rw [if_pos (show w + e ≤ 9999 by rw [Int32.le_iff_toInt_le]; omega)]
  · rw [if_neg c]
    by_cases c2 : w + e ≤ 9999
    · rw [if_pos c2]
      rw [Int32.lt_iff_toInt_lt] at c
      rw [Int32.le_iff_toInt_le] at c2
      exact Int32.toInt_inj.mp (by omega)
    · rw [if_neg c2]
theorem warm_i {w e : Int32} (hw : 0 ≤ w.toInt ∧ w.toInt ≤ 9999) (he : 1 ≤ e.toInt ∧ e.toInt ≤ 99) : 0 ≤ (if w + e ≤ 9999 then w + e else 9999 : Int32).toInt ∧ (if w + e ≤ 9999 then w + e else 9999 : Int32).toInt ≤ 9999 := by
  have z : (9999 : Int32).toInt = 9999 := by decide
  have a := toI_add (a := w) (b := e) (by omega) (by omega)
  by_cases c : w + e ≤ 9999
  · rw [if_pos c]
    rw [Int32.le_iff_toInt_le] at c
    omega
  · rw [if_neg c]
    omega
section SRP
variable {f oh lf ce pg : Nat → Int32}
theorem SR.raw (h : SR f oh lf ce pg) (rv : Int32) : kraw f oh (kway rv) = P_X4_rawOf pg rv (pg 4) := by
  have hd : P_X1_deflection f (P_X1_difference f oh (f 2)) (P_X1_denominator f oh (f 2)) (f 4) = P_X4_trueOf pg (pg 2) (pg 4) := by
    rw [h.lo (j := 2) (by decide), h.lo (j := 4) (by decide)]
    exact h.dfl (pv_r h.pv) _
  unfold kraw P_X4_rawOf
  rw [hd, h.off]
  by_cases c : rv = 0
  · rw [show kway rv = 1 from if_pos c, Int32.one_mul, Int32.add_comm]
    exact (if_pos c).symm
  · rw [show kway rv = -1 from if_neg c, Int32.neg_mul, Int32.one_mul, Int32.add_comm]
    exact (if_neg c).symm
theorem SR.lf1 (h : SR f oh lf ce pg) : 0 ≤ (lf 1).toInt ∧ (lf 1).toInt ≤ 20 := by
  rw [← h.2.1.2.2.2.1]
  exact h.pv.2.2.2.2
theorem lt9 {P : Nat → Prop} (h0 : P 0) (h1 : P 1) (h2 : P 2) (h3 : P 3) (h4 : P 4) (h5 : P 5) (h6 : P 6) (h7 : P 7) (h8 : P 8) : ∀ j : Nat, j < 9 → P j := fun j hj => by
  match j, hj with
  | 0, _ => exact h0
  | 1, _ => exact h1
  | 2, _ => exact h2
  | 3, _ => exact h3
  | 4, _ => exact h4
  | 5, _ => exact h5
  | 6, _ => exact h6
  | 7, _ => exact h7
  | 8, _ => exact h8
theorem pressP_7 (pg : Nat → Int32) (rv v ov : Int32) : pressP pg rv v ov 7 = if pg 7 + pg 3 ≤ 9999 then pg 7 + pg 3 else 9999 := rfl
theorem pressP_8 (pg : Nat → Int32) (rv v ov : Int32) : pressP pg rv v ov 8 = pg 8 + 1 := rfl
theorem pressP_11 (pg : Nat → Int32) (rv v ov : Int32) : pressP pg rv v ov 11 = if ov = 0 then pg 11 else 1 := rfl
theorem pressP_12 (pg : Nat → Int32) (rv v ov : Int32) : pressP pg rv v ov 12 = if 20 ≤ pg 12 then 20 else pg 12 + 1 := rfl
theorem pressP_13 (pg : Nat → Int32) (rv v ov : Int32) : pressP pg rv v ov 13 = pg 13 + 1 := rfl
theorem pressP_14 (pg : Nat → Int32) (rv v ov : Int32) : pressP pg rv v ov 14 = pg 14 + (if ov = 0 then 0 else 1) := rfl
theorem sr_press (h : SR f oh lf ce pg) (rv : Int32) : (P_X1_pressKey f oh lf ce rv).1 = (P_X4_pressOn pg rv).1 ∧ SR (P_X1_pressKey f oh lf ce rv).2.1 oh (P_X1_pressKey f oh lf ce rv).2.2.1 (P_X1_pressKey f oh lf ce rv).2.2.2 (P_X4_pressOn pg rv).2 := by
  have hpv := pv_press (rv := rv) rfl h.pv
  rw [key_eq, press_eq, h.raw rv] at *
  generalize hraw : P_X4_rawOf pg rv (pg 4) = raw at *
  refine ⟨rfl, ?_⟩
  obtain ⟨e9, e10, e11, e12, e13, e14⟩ := h.2.1
  have lo : ∀ j : Nat, j < 7 → pressP pg rv (rd500 raw) (ovr raw) j = pkf f raw j := fun j hj => by
    rw [pressP_lo (by omega) (by omega) (by omega) (by omega) (by omega) (by omega) (by omega), pkf_o (by omega) (by omega) (by omega) (by omega) (by omega)]
    exact h.1 j (by omega)
  refine ⟨lt9 (P := fun j => pressP pg rv (rd500 raw) (ovr raw) j = pkf f raw j) (lo 0 (by decide)) (lo 1 (by decide)) (lo 2 (by decide)) (lo 3 (by decide)) (lo 4 (by decide)) (lo 5 (by decide)) (lo 6 (by decide)) ?_ ?_, ⟨?_, ?_, ?_, ?_, ?_, ?_⟩, fun i hi => ?_, ?_, hpv, ?_⟩
  · show pressP pg rv (rd500 raw) (ovr raw) 7 = pkf f raw 7
    rw [pressP_7, pkf_7, warm_eq, h.lo (j := 7) (by decide), h.lo (j := 3) (by decide)]
  · show pressP pg rv (rd500 raw) (ovr raw) 8 = pkf f raw 8
    rw [pressP_8, pkf_8, h.lo (j := 8) (by decide)]
  · show pressP pg rv (rd500 raw) (ovr raw) 9 = pkf f raw 13
    rw [pressP_lo (by decide) (by decide) (by decide) (by decide) (by decide) (by decide) (by decide), pkf_o (by decide) (by decide) (by decide) (by decide) (by decide), e9]
  · show pressP pg rv (rd500 raw) (ovr raw) 10 = pkf f raw 14
    rw [pressP_lo (by decide) (by decide) (by decide) (by decide) (by decide) (by decide) (by decide), pkf_o (by decide) (by decide) (by decide) (by decide) (by decide), e10]
  · show pressP pg rv (rd500 raw) (ovr raw) 11 = pkf f raw 9
    rw [pressP_11, pkf_9, e11]
  · show pressP pg rv (rd500 raw) (ovr raw) 12 = _
    rw [write_eq h.lr.1, pressP_12, e12]
    exact (cnt20 h.lf1).symm
  · show pressP pg rv (rd500 raw) (ovr raw) 13 = pkf f raw 10
    rw [pressP_13, pkf_10, e13]
  · show pressP pg rv (rd500 raw) (ovr raw) 14 = pkf f raw 11
    rw [pressP_14, pkf_11, e14]
  · show pressP pg rv (rd500 raw) (ovr raw) (15 + i) = _
    have hi : (i : Int) < (pkf f raw 13).toInt := hi
    rw [pkf_o (by decide) (by decide) (by decide) (by decide) (by decide)] at hi
    have := h.pv.1.2
    rw [e9] at this
    rw [pressP_lo (by omega) (by omega) (by omega) (by omega) (by omega) (by omega) (by omega)]
    exact h.2.2.1 i hi
  · exact lr_press h.lr h.lf1 rv _ _ _ _ _ rfl (h.lo (by decide)) (h.lo (by decide))
  · obtain ⟨r3, r5, r6, r7, r11⟩ := h.rg
    show RG (pressP pg rv (rd500 raw) (ovr raw))
    refine ⟨?_, ?_, ?_, ?_, ?_⟩
    · rw [pressP_lo (by decide) (by decide) (by decide) (by decide) (by decide) (by decide) (by decide)]; exact r3
    · rw [pressP_lo (by decide) (by decide) (by decide) (by decide) (by decide) (by decide) (by decide)]; exact r5
    · rw [pressP_lo (by decide) (by decide) (by decide) (by decide) (by decide) (by decide) (by decide)]; exact r6
    · rw [pressP_7]; exact warm_i r7 r3
    · rw [pressP_11]
      by_cases c : ovr raw = 0
      · rw [if_pos c]; exact r11
      · rw [if_neg c]; exact Or.inr rfl
end SRP
