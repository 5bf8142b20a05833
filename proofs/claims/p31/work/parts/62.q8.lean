/-! a command of a script -/
def RE (oht : Nat → Int32) (u : Int32 × (Nat → Int32) × (Nat → Int32) × (Nat → Int32)) (v : Int32 × (Nat → Int32)) : Prop := u.1 = v.1 ∧ SR u.2.1 oht u.2.2.1 u.2.2.2 v.2
theorem g_four {g : Int32} (hg : 0 ≤ g.toInt ∧ g.toInt ≤ 99999) : (g - g / 10000 * 10000).toInt = g.toInt % 10000 := i32_mod hg.1 (by decide)
theorem g_sec {g : Int32} (hg : 0 ≤ g.toInt ∧ g.toInt ≤ 99999) : (g / 1000) - (g / 1000) / 10 * 10 = (g - g / 10000 * 10000) / 1000 := by
  have z1 : (1000 : Int32).toInt = 1000 := by decide
  have z2 : (10 : Int32).toInt = 10 := by decide
  have f := g_four hg
  have d1 := i32_div (g := g) (k := 1000) hg.1 (by decide)
  rw [z1] at d1
  have d2 := i32_mod (g := g / 1000) (k := 10) (by omega) (by decide)
  have d3 := i32_div (g := g - g / 10000 * 10000) (k := 1000) (by omega) (by decide)
  rw [z1] at d3
  rw [z2] at d2
  apply Int32.toInt_inj.mp
  omega
theorem g_thr {g : Int32} (hg : 0 ≤ g.toInt ∧ g.toInt ≤ 99999) : g - g / 1000 * 1000 = (g - g / 10000 * 10000) - (g - g / 10000 * 10000) / 1000 * 1000 := by
  have z1 : (1000 : Int32).toInt = 1000 := by decide
  have f := g_four hg
  have d1 := i32_mod (g := g) (k := 1000) hg.1 (by decide)
  have d3 := i32_mod (g := g - g / 10000 * 10000) (k := 1000) (by omega) (by decide)
  rw [z1] at d1 d3
  apply Int32.toInt_inj.mp
  omega
theorem g_two {g : Int32} (hg : 0 ≤ g.toInt ∧ g.toInt ≤ 99999) (h : (g - g / 1000 * 1000).toInt < 100) : g - g / 100 * 100 = g - g / 1000 * 1000 := by
  have z1 : (1000 : Int32).toInt = 1000 := by decide
  have z2 : (100 : Int32).toInt = 100 := by decide
  have d1 := i32_mod (g := g) (k := 1000) hg.1 (by decide)
  have d3 := i32_mod (g := g) (k := 100) hg.1 (by decide)
  rw [z1] at d1
  rw [z2] at d3
  apply Int32.toInt_inj.mp
  omega
section Q8
variable {ft oht lft cet pt : Nat → Int32}
theorem po_lp (bf mf : Nat → Int32) (how four rv tm v3 : Int32) (hrv : rv = (if v3 = 1 then 1 else 0)) : ∀ (n : Nat) (v : Int32) (ft lft cet pt : Nat → Int32), SR ft oht lft cet pt → (tm.toInt - v.toInt).toNat < n → RE oht (P_X3_pressesOften_14 bf oht rv tm n v ft lft cet) (P_X4_does_87 mf how four n v3 tm v pt) ∧ ((P_X4_does_87 mf how four n v3 tm v pt).1 = 0 ∨ (P_X4_does_87 mf how four n v3 tm v pt).1 = 1) := by
  intro n
  induction n with
  | zero => intro v ft lft cet pt _ hn; omega
  | succ n ih =>
    intro v ft lft cet pt h hn
    have E1 : P_X3_pressesOften_14 bf oht rv tm (n + 1) v ft lft cet = (if tm ≤ v then (1, ft, lft, cet) else (if (ft 9) = 0 then (P_X3_pressesOften_14 bf oht rv tm n (v + 1) (P_X1_pressKey ft oht lft cet rv).2.1 (P_X1_pressKey ft oht lft cet rv).2.2.1 (P_X1_pressKey ft oht lft cet rv).2.2.2) else (0, ft, lft, cet))) := rfl
    have E2 : P_X4_does_87 mf how four (n + 1) v3 tm v pt = (if tm ≤ v then (1, pt) else (if (pt 11) = 1 then (0, pt) else (P_X4_does_87 mf how four n v3 tm (v + 1) (P_X4_pressOn pt rv).2))) := by
      show (if tm ≤ v then (1, pt) else (if (pt 11) = 1 then (0, pt) else (if v3 = 1 then _ else _))) = _
      rw [hrv]
      by_cases q : v3 = 1
      · rw [if_pos q, if_pos q]
      · rw [if_neg q, if_neg q]
    rw [E1, E2]
    by_cases c : tm ≤ v
    · rw [if_pos c, if_pos c]; exact ⟨⟨rfl, h⟩, Or.inr rfl⟩
    · rw [if_neg c, if_neg c]
      have hmu := mu_up c
      have e11 : pt 11 = ft 9 := h.2.1.2.2.1
      rcases h.stk with k | k
      · rw [if_pos k, if_neg (show ¬ pt 11 = 1 by rw [e11, k]; decide)]
        exact ih _ _ _ _ _ (sr_press h rv).2 (by omega)
      · rw [if_neg (show ¬ ft 9 = 0 by rw [k]; decide), if_pos (show pt 11 = 1 by rw [e11, k])]
        exact ⟨⟨rfl, h⟩, Or.inl rfl⟩
theorem sr_does (h : SR ft oht lft cet pt) (bf mf : Nat → Int32) {g : Int32} (hg : 0 ≤ g.toInt ∧ g.toInt ≤ 99999) : RE oht (P_X3_succeeds bf ft oht lft cet g) (P_X4_does mf pt (g / 10000) (g - g / 10000 * 10000)) := by
  have f4 := g_four hg
  have ht := g_thr hg
  have h2 := g_two hg
  unfold P_X3_succeeds P_X4_does
  rw [g_sec hg]
  rw [ht] at h2 ⊢
  have z1 : (1000 : Int32).toInt = 1000 := by decide
  have z0 : (0 : Int32).toInt = 0 := by decide
  have zz1 : (1 : Int32).toInt = 1 := by decide
  have zz2 : (2 : Int32).toInt = 2 := by decide
  have z99 : (99 : Int32).toInt = 99 := by decide
  have z100 : (100 : Int32).toInt = 100 := by decide
  have hb : RB (g - g / 10000 * 10000) := ⟨by omega, by omega⟩
  clear ht
  generalize hfour : g - g / 10000 * 10000 = four at *
  have ha := i32_div (g := four) (k := 1000) (by omega) (by decide)
  have hth := i32_mod (g := four) (k := 1000) (by omega) (by decide)
  rw [z1] at ha hth
  generalize g / 10000 = how at *
  generalize four - four / 1000 * 1000 = three at *
  generalize four / 1000 = a at *
  have a9 : 0 ≤ a.toInt ∧ a.toInt ≤ 9 := ⟨by omega, by omega⟩
  have e11 : pt 11 = ft 9 := h.2.1.2.2.1
  have ag : (1 < a ↔ 2 ≤ a) := by
    rw [Int32.lt_iff_toInt_lt, Int32.le_iff_toInt_le]
    exact ⟨fun q => by omega, fun q => by omega⟩
  have t99 : (99 < three ↔ 100 ≤ three) := by
    rw [Int32.lt_iff_toInt_lt, Int32.le_iff_toInt_le]
    exact ⟨fun q => by omega, fun q => by omega⟩
  by_cases c1 : how = 1
  · rw [if_pos c1, if_pos c1]
    by_cases d1 : 1 < a
    · rw [if_pos d1, if_pos d1]; exact ⟨rfl, h⟩
    · rw [if_neg d1, if_neg d1]
      have key : ∀ rv : Int32, rv = (if a = 1 then 1 else 0) → RE oht (if (P_X3_pressesOften bf ft oht lft cet rv three).1 = 0 then (0, (P_X3_pressesOften bf ft oht lft cet rv three).2.1, (P_X3_pressesOften bf ft oht lft cet rv three).2.2.1, (P_X3_pressesOften bf ft oht lft cet rv three).2.2.2) else (1, (P_X3_pressesOften bf ft oht lft cet rv three).2.1, (P_X3_pressesOften bf ft oht lft cet rv three).2.2.1, (P_X3_pressesOften bf ft oht lft cet rv three).2.2.2)) (if (P_X4_in (three.toInt64) 1 99) = 0 then (0, pt) else (P_X4_does_87 mf how four (((three).toInt - (0 : Int32).toInt).toNat + 1) a three 0 pt)) := by
        intro rv hrv
        rcases io (v := three) (lo := 1) (hi := 99) (l := 1) (h := 99) (by decide) (by decide) with ⟨x, y, x3, x4⟩ | ⟨x, y⟩
        · rw [if_neg y]
          have E : P_X3_pressesOften bf ft oht lft cet rv three = P_X3_pressesOften_14 bf oht rv three (((three).toInt - (0 : Int32).toInt).toNat + 1) 0 ft lft cet := if_pos x
          rw [E]
          obtain ⟨⟨p1, p2⟩, p3⟩ := po_lp (oht := oht) bf mf how four rv three a hrv (((three).toInt - (0 : Int32).toInt).toNat + 1) 0 ft lft cet pt h (Nat.lt_succ_self _)
          generalize P_X3_pressesOften_14 bf oht rv three (((three).toInt - (0 : Int32).toInt).toNat + 1) 0 ft lft cet = u at *
          generalize P_X4_does_87 mf how four (((three).toInt - (0 : Int32).toInt).toNat + 1) a three 0 pt = w at *
          rcases p3 with q | q
          · rw [if_pos (p1.trans q)]; exact ⟨q.symm, p2⟩
          · rw [if_neg (by rw [p1, q]; decide)]; exact ⟨q.symm, p2⟩
        · rw [if_pos y]
          have E : P_X3_pressesOften bf ft oht lft cet rv three = (0, ft, lft, cet) := if_neg x
          rw [E]
          exact ⟨rfl, h⟩
      dsimp only
      by_cases d2 : a = 1
      · rw [if_pos d2]
        exact key 1 (if_pos d2).symm
      · rw [if_neg d2]
        exact key 0 (if_neg d2).symm
  rw [if_neg c1, if_neg c1]
  by_cases c2 : how = 2
  · rw [if_pos c2, if_pos c2]
    by_cases d1 : a = 0
    · rw [if_pos d1, if_pos d1]
      rcases io (v := three) (lo := 1) (hi := 200) (l := 1) (h := 200) (by decide) (by decide) with ⟨x, y, x3, x4⟩ | ⟨x, y⟩
      · have E : P_X3_waits bf ft three = (1, P_X1_waitTicks ft three) := if_pos x
        rw [if_neg y, E]
        exact ⟨rfl, sr_wait h three⟩
      · have E : P_X3_waits bf ft three = (0, ft) := if_neg x
        rw [if_pos y, E]
        exact ⟨rfl, h⟩
    · rw [if_neg d1, if_neg d1]; exact ⟨rfl, h⟩
  rw [if_neg c2, if_neg c2]
  by_cases c3 : how = 3
  · rw [if_pos c3, if_pos c3]
    exact ⟨rfl, sr_r h hb⟩
  rw [if_neg c3, if_neg c3]
  by_cases c4 : how = 4
  · rw [if_pos c4, if_pos c4]
    by_cases d1 : a = 2
    · rw [if_pos d1, if_pos d1]; exact ⟨rfl, h⟩
    rw [if_neg d1, if_neg d1]
    by_cases d2 : 100 ≤ three
    · rw [if_pos d2, if_pos (t99.mpr d2)]; exact ⟨rfl, h⟩
    rw [if_neg d2, if_neg (fun q => d2 (t99.mp q))]
    rw [h2 (by rw [Int32.le_iff_toInt_le] at d2; omega)]
    by_cases d3 : P_X4_isSetting a three = 0
    · have E : P_X3_changes bf ft a three = (0, ft) := if_pos (by rw [mayBe_eq]; exact d3)
      rw [if_pos d3, E]
      exact ⟨rfl, h⟩
    · have E : P_X3_changes bf ft a three = (1, P_X1_change ft a three) := if_neg (by rw [mayBe_eq]; exact d3)
      rw [if_neg d3, E]
      exact ⟨rfl, (sr_set h d3).1⟩
  rw [if_neg c4, if_neg c4]
  by_cases c5 : how = 5
  · rw [if_pos c5, if_pos c5]
    by_cases d1 : three = 0
    · rw [if_pos d1, if_pos d1]
      rcases h.unkn a with ⟨x, y⟩ | ⟨x, y, -⟩
      · have E : P_X3_puts bf ft a = (0, ft) := if_pos x
        rw [if_pos y, E]; exact ⟨rfl, h⟩
      · have E : P_X3_puts bf ft a = (1, upd ft 14 a) := if_neg x
        rw [if_neg y, E]; exact ⟨rfl, sr_put h y⟩
    · rw [if_neg d1, if_neg d1]; exact ⟨rfl, h⟩
  rw [if_neg c5, if_neg c5]
  by_cases c6 : how = 6
  · rw [if_pos c6, if_pos c6]
    by_cases d1 : four = 0
    · rw [if_pos d1, if_pos d1]
      rcases h.stk with k | k
      · rw [if_pos k, if_neg (show ¬ pt 11 = 1 by rw [e11, k]; decide)]
        have b := sr_bal h k
        generalize P_X1_balanceBox ft oht lft cet = u at *
        generalize P_X4_balanceOn pt = w at *
        exact ⟨rfl, b⟩
      · rw [if_neg (show ¬ ft 9 = 0 by rw [k]; decide), if_pos (show pt 11 = 1 by rw [e11, k])]
        exact ⟨rfl, h⟩
    · rw [if_neg d1, if_neg d1]; exact ⟨rfl, h⟩
  rw [if_neg c6, if_neg c6]
  by_cases c7 : how = 7
  · rw [if_pos c7, if_pos c7, h.lo (j := 2) (by decide)]
    by_cases d1 : pt 2 = four
    · rw [if_pos d1, if_pos d1]; exact ⟨rfl, h⟩
    · rw [if_neg d1, if_neg d1]; exact ⟨rfl, h⟩
  rw [if_neg c7, if_neg c7]
  by_cases c8 : how = 8
  · rw [if_pos c8, if_pos c8]
    by_cases d1 : 1 < a
    · rw [if_pos d1, if_pos (ag.mp d1)]; exact ⟨rfl, h⟩
    rw [if_neg d1, if_neg (fun q => d1 (ag.mpr q))]
    have e12 : pt 12 = lft 1 := h.2.1.2.2.2.1
    rw [← e12]
    by_cases d2 : pt 12 ≤ 0
    · rw [if_pos d2, if_pos d2]; exact ⟨rfl, h⟩
    rw [if_neg d2, if_neg d2]
    have ec : P_X0_cell lft cet 0 0 = pt 21 := by
      rw [cell_eq h.lr e12 h.lf1 (by decide) ⟨by decide, by decide⟩, if_neg d2]
      rfl
    rw [ec]
    rw [Int32.lt_iff_toInt_lt] at d1
    have tail : ∀ x : Int32, RE oht (if pt 21 = x then (1, ft, lft, cet) else (0, ft, lft, cet)) (if pt 21 = x then (1, pt) else (0, pt)) := fun x => by
      by_cases q : pt 21 = x
      · rw [if_pos q, if_pos q]; exact ⟨rfl, h⟩
      · rw [if_neg q, if_neg q]; exact ⟨rfl, h⟩
    dsimp only
    by_cases d3 : a = 1
    · rw [if_pos d3, if_neg (show ¬ a = 0 by rw [d3]; decide)]
      exact tail _
    · have d4 : a = 0 := Int32.toInt_inj.mp (by
        have : ¬ a.toInt = 1 := fun q => d3 (Int32.toInt_inj.mp (q.trans (by decide)))
        omega)
      rw [if_neg d3, if_pos d4]
      exact tail _
  rw [if_neg c8, if_neg c8]
  by_cases c9 : how = 9
  · rw [if_pos c9, if_pos c9]
    by_cases d1 : 1 < a
    · rw [if_pos d1, if_pos (ag.mp d1)]; exact ⟨rfl, h⟩
    rw [if_neg d1, if_neg (fun q => d1 (ag.mpr q))]
    by_cases d2 : 100 ≤ three
    · rw [if_pos d2, if_pos d2]; exact ⟨rfl, h⟩
    rw [if_neg d2, if_neg d2]
    rw [h2 (by rw [Int32.le_iff_toInt_le] at d2; omega), h.off]
    rw [Int32.lt_iff_toInt_lt] at d1
    have tail : ∀ x : Int32, RE oht (if x < P_X4_offsetOf pt then (0, ft, lft, cet) else (1, ft, lft, cet)) (if x < P_X4_offsetOf pt then (0, pt) else (1, pt)) := fun x => by
      by_cases q : x < P_X4_offsetOf pt
      · rw [if_pos q, if_pos q]; exact ⟨rfl, h⟩
      · rw [if_neg q, if_neg q]; exact ⟨rfl, h⟩
    dsimp only
    by_cases d3 : a = 1
    · rw [if_pos d3, if_neg (show ¬ a = 0 by rw [d3]; decide)]
      exact tail _
    · have d4 : a = 0 := Int32.toInt_inj.mp (by
        have : ¬ a.toInt = 1 := fun q => d3 (Int32.toInt_inj.mp (q.trans (by decide)))
        omega)
      rw [if_neg d3, if_pos d4]
      exact tail _
  rw [if_neg c9, if_neg c9]
  exact ⟨rfl, h⟩
end Q8
