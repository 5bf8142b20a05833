theorem copy_lp (n1 n2 : Nat) (pf : Nat → Int32) (fa ta : Int32) (hf : CP n1 fa) (ht : CP n2 ta) : ∀ (n : Nat) (v4 : Int32) (pt : Nat → Int32), ¬ v4 < 0 → ((101 : Int32).toInt - v4.toInt).toNat < n →
    P_X4_copyPage_3 n1 n2 pf fa ta n v4 pt = fun j => if ta.toInt.toNat + v4.toInt.toNat ≤ j ∧ j < ta.toInt.toNat + 101 then pf (fa.toInt.toNat + (j - ta.toInt.toNat)) else pt j := by
  intro n
  induction n with
  | zero => intros; omega
  | succ n ih =>
    intro v4 pt h0 hm
    have e1 : (101 : Int32).toInt = 101 := by decide
    unfold P_X4_copyPage_3
    by_cases c : 101 ≤ v4
    · rw [if_pos c]
      rw [Int32.le_iff_toInt_le] at c
      funext j
      rw [if_neg (by omega)]
    · rw [if_neg c]
      have hi := nn_inc h0 c
      have hmu := mu_up (N := (101 : Int32)) c
      have x1 := vp_in_iff.mp (cp_ix hf h0 c)
      have x2 := vp_in_iff.mp (cp_ix ht h0 c)
      rw [ih (v4 + 1) _ hi (by omega)]
      rw [Int32.lt_iff_toInt_lt] at h0
      rw [Int32.le_iff_toInt_le] at c
      have e0 : (0 : Int32).toInt = 0 := by decide
      have e2 : (1 : Int32).toInt = 1 := by decide
      obtain ⟨f1, f2, f3⟩ := hf
      obtain ⟨t1, t2, t3⟩ := ht
      have a1 := toI_add (a := v4) (b := 1) (by omega) (by omega)
      have a2 := toI_add (a := fa) (b := v4) (by omega) (by omega)
      have a3 := toI_add (a := ta) (b := v4) (by omega) (by omega)
      have n2' : (fa + v4).toNatClampNeg = fa.toInt.toNat + v4.toInt.toNat := by
        show (fa + v4).toInt.toNat = _
        omega
      have n3 : (ta + v4).toNatClampNeg = ta.toInt.toNat + v4.toInt.toNat := by
        show (ta + v4).toInt.toNat = _
        omega
      funext j
      unfold upd
      rw [n2', n3]
      by_cases hj : ta.toInt.toNat + v4.toInt.toNat ≤ j ∧ j < ta.toInt.toNat + 101
      · rw [if_pos hj]
        by_cases hk : j = ta.toInt.toNat + v4.toInt.toNat
        · rw [if_neg (by omega), if_pos hk]
          congr 1
          omega
        · rw [if_pos (by omega)]
      · rw [if_neg hj, if_neg (by omega), if_neg (by omega)]
theorem copy_eq {n1 n2 : Nat} {pf pt : Nat → Int32} {fa ta : Int32} (hf : CP n1 fa) (ht : CP n2 ta) : P_X4_copyPage n1 n2 pf pt fa ta = fun j => if ta.toInt.toNat ≤ j ∧ j < ta.toInt.toNat + 101 then pf (fa.toInt.toNat + (j - ta.toInt.toNat)) else pt j := by
  unfold P_X4_copyPage
  rw [copy_lp n1 n2 pf fa ta hf ht _ _ _ (by decide) (Nat.lt_succ_self _)]
  have e0 : (0 : Int32).toInt.toNat = 0 := by decide
  rw [e0, Nat.add_zero]
theorem copy_00 {pf pt u : Nat → Int32} (hu : P_X4_copyPage 101 101 pf pt 0 0 = u) {j : Nat} (hj : j < 101) : u j = pf j := by
  rw [← hu, copy_eq cp0 cp0]
  have e0 : (0 : Int32).toInt.toNat = 0 := by decide
  show (if (0 : Int32).toInt.toNat ≤ j ∧ j < (0 : Int32).toInt.toNat + 101 then pf ((0 : Int32).toInt.toNat + (j - (0 : Int32).toInt.toNat)) else pt j) = pf j
  rw [e0, if_pos (by omega), Nat.zero_add, Nat.sub_zero]
theorem pv_same {pg q : Nat → Int32} (h : PV pg) (hq : ∀ j, j < 21 → j ≠ 7 → j ≠ 8 → j ≠ 11 → j ≠ 13 → j ≠ 14 → q j = pg j) : PV q := by
  refine h.to ?_ (hq 9 (by decide) (by decide) (by decide) (by decide) (by decide) (by decide)) (hq 10 (by decide) (by decide) (by decide) (by decide) (by decide) (by decide)) (fun i hi => hq (15 + i) (by omega) (by omega) (by omega) (by omega) (by omega) (by omega)) ?_
  · rw [hq 2 (by decide) (by decide) (by decide) (by decide) (by decide) (by decide)]; exact pv_r h
  · rw [hq 12 (by decide) (by decide) (by decide) (by decide) (by decide) (by decide)]; exact h.2.2.2.2
theorem pv_copy {pf pt u : Nat → Int32} (hu : P_X4_copyPage 101 101 pf pt 0 0 = u) (h : PV pf) : PV u := pv_same h (fun j hj _ _ _ _ _ => copy_00 hu (by omega))
theorem pv_up2 {pg : Nat → Int32} {x : Int32} (h : PV pg) (hx : RB x) : PV (upd pg 2 x) := by
  refine h.to hx rfl rfl (fun i hi => ?_) h.2.2.2.2
  show (if 15 + i = 2 then x else pg (15 + i)) = _
  rw [if_neg (by omega)]
theorem pv_up11 {pg : Nat → Int32} {x : Int32} (h : PV pg) : PV (upd pg 11 x) := pv_same h (fun j _ _ _ h11 _ _ => by show (if j = 11 then x else pg j) = _; rw [if_neg h11])
def DE (x : Int32) : Prop := 0 ≤ x.toInt ∧ x.toInt ≤ 1000
theorem div10 {x : Int32} (h : 0 ≤ x.toInt) : (x / 10).toInt = x.toInt / 10 := by
  have e : (10 : Int32).toInt = 10 := by decide
  rw [Int32.toInt_div, e]
  have hb := x.toInt_lt
  rw [Int.tdiv_eq_ediv_of_nonneg h]
  apply Int.bmod_eq_of_le <;> omega
theorem de10 {x : Int32} (h : DE x) : DE (x / 10) := by
  obtain ⟨h1, h2⟩ := h
  have e := div10 h1
  exact ⟨by omega, by omega⟩
theorem mu_10 {x : Int32} (h : DE x) (c : ¬ x ≤ 0) : (x / 10).toInt.toNat < x.toInt.toNat := by
  rw [Int32.le_iff_toInt_le] at c
  have e0 : (0 : Int32).toInt = 0 := by decide
  have e := div10 h.1
  omega
theorem pair_eq (pg : Nat → Int32) : P_X4_pairOn pg = if (P_X4_pressOn pg 0).2 11 = 1 then ((P_X4_pressOn pg 0).1, (P_X4_pressOn pg 0).2) else ((P_X4_pressOn pg 0).1 - (P_X4_pressOn (P_X4_pressOn pg 0).2 1).1, (P_X4_pressOn (P_X4_pressOn pg 0).2 1).2) := rfl
theorem pair_lo {pg : Nat → Int32} {u : Int32 × (Nat → Int32)} (hu : P_X4_pairOn pg = u) {j : Nat} (h : j < 21) (h7 : j ≠ 7) (h8 : j ≠ 8) (h11 : j ≠ 11) (h12 : j ≠ 12) (h13 : j ≠ 13) (h14 : j ≠ 14) : u.2 j = pg j := by
  rw [← hu, pair_eq]
  have e1 : (P_X4_pressOn pg 0).2 j = pg j := by rw [press_eq]; exact pressP_lo h h7 h8 h11 h12 h13 h14
  by_cases c : (P_X4_pressOn pg 0).2 11 = 1
  · rw [if_pos c]; exact e1
  · rw [if_neg c]
    have e2 : (P_X4_pressOn (P_X4_pressOn pg 0).2 1).2 j = (P_X4_pressOn pg 0).2 j := by
      rw [press_eq (P_X4_pressOn pg 0).2]; exact pressP_lo h h7 h8 h11 h12 h13 h14
    exact e2.trans e1
theorem pv_pair {pg : Nat → Int32} {u : Int32 × (Nat → Int32)} (hu : P_X4_pairOn pg = u) (h : PV pg) : PV u.2 := by
  rw [← hu, pair_eq]
  have h1 : PV (P_X4_pressOn pg 0).2 := pv_press rfl h
  have h2 : PV (P_X4_pressOn (P_X4_pressOn pg 0).2 1).2 := pv_press rfl h1
  by_cases c : (P_X4_pressOn pg 0).2 11 = 1
  · rw [if_pos c]; exact h1
  · rw [if_neg c]; exact h2
-- balancing
theorem bal_up {pg : Nat → Int32} {d : Int32} (h : PV pg) (hd : DE d) (c : ¬ 9999 < pg 2 + d) : PV (upd pg 2 (pg 2 + d)) ∧ (pg 2 + d).toInt = (pg 2).toInt + d.toInt := by
  obtain ⟨r1, r2⟩ := pv_r h
  obtain ⟨d1, d2⟩ := hd
  have e := toI_add (a := pg 2) (b := d) (by omega) (by omega)
  rw [Int32.lt_iff_toInt_lt] at c
  have e9 : (9999 : Int32).toInt = 9999 := by decide
  exact ⟨pv_up2 h ⟨by omega, by omega⟩, e⟩
theorem bal_u2 {pg : Nat → Int32} {d : Int32} {u : Int32 × (Nat → Int32)} (hu : P_X4_pairOn (upd pg 2 (pg 2 + d)) = u) : u.2 2 = pg 2 + d := pair_lo hu (by decide) (by decide) (by decide) (by decide) (by decide) (by decide) (by decide)
theorem bal_A {pg : Nat → Int32} {d : Int32} {u : Int32 × (Nat → Int32)} (h : PV pg) (hd : DE d) (c : ¬ 9999 < pg 2 + d) (hu : P_X4_pairOn (upd pg 2 (pg 2 + d)) = u) : PV (upd u.2 2 (u.2 2 - d)) := by
  obtain ⟨h1, h2⟩ := bal_up h hd c
  refine pv_up2 (pv_pair hu h1) ?_
  rw [bal_u2 hu]
  obtain ⟨r1, r2⟩ := pv_r h
  obtain ⟨d1, d2⟩ := hd
  have e := toI_sub (a := pg 2 + d) (b := d) (by omega) (by omega)
  exact ⟨by omega, by omega⟩
theorem bal_B {pg : Nat → Int32} {d : Int32} {u : Int32 × (Nat → Int32)} (h : PV pg) (hd : DE d) (c : ¬ 9999 < pg 2 + d) (hu : P_X4_pairOn (upd pg 2 (pg 2 + d)) = u) : PV (upd u.2 2 (u.2 2 - 0)) := by
  obtain ⟨h1, h2⟩ := bal_up h hd c
  refine pv_up2 (pv_pair hu h1) ?_
  rw [Int32.sub_zero]
  exact pv_r (pv_pair hu h1)
theorem bal_d0 {v2 : Int32} {pg q : Nat → Int32} (c : ¬ v2 = 0) (h : PV pg) : (if (0 : Int32) = 0 then 0 else (10000 - (q 2).toInt).toNat) < (if v2 = 0 then 0 else (10000 - (pg 2).toInt).toNat) := by
  rw [if_pos rfl, if_neg c]
  obtain ⟨r1, r2⟩ := pv_r h
  omega
theorem bal_d1 {v2 d : Int32} {pg : Nat → Int32} {u : Int32 × (Nat → Int32)} (c : ¬ v2 = 0) (h : PV pg) (hd : DE d) (hd0 : ¬ d ≤ 0) (c9 : ¬ 9999 < pg 2 + d) (hu : P_X4_pairOn (upd pg 2 (pg 2 + d)) = u) : (if (1 : Int32) = 0 then 0 else (10000 - ((upd u.2 2 (u.2 2 - 0)) 2).toInt).toNat) < (if v2 = 0 then 0 else (10000 - (pg 2).toInt).toNat) := by
  rw [if_neg (by decide), if_neg c]
  show (10000 - (u.2 2 - 0).toInt).toNat < _
  obtain ⟨h1, h2⟩ := bal_up h hd c9
  rw [Int32.sub_zero, bal_u2 hu]
  rw [Int32.le_iff_toInt_le] at hd0
  have e0 : (0 : Int32).toInt = 0 := by decide
  obtain ⟨r1, r2⟩ := pv_r h
  rw [h2]
  omega
theorem rb_inc {x : Int32} (h : RB x) (c : ¬ 9999 ≤ x) : RB (x + 1) := by
  obtain ⟨h1, h2⟩ := h
  rw [Int32.le_iff_toInt_le] at c
  have e9 : (9999 : Int32).toInt = 9999 := by decide
  have e1 : (1 : Int32).toInt = 1 := by decide
  have e := toI_add (a := x) (b := 1) (by omega) (by omega)
  exact ⟨by omega, by omega⟩
theorem rb_dec {x : Int32} (h : RB x) (c : ¬ x ≤ 0) : RB (x - 1) := by
  obtain ⟨h1, h2⟩ := h
  rw [Int32.le_iff_toInt_le] at c
  have e0 : (0 : Int32).toInt = 0 := by decide
  have e1 : (1 : Int32).toInt = 1 := by decide
  have e := toI_sub (a := x) (b := 1) (by omega) (by omega)
  exact ⟨by omega, by omega⟩
theorem unk_i {pn : Nat → Int32} {i : Int32} (h : PV pn) (hi : ¬ P_X4_isUnknown pn i = 0) : 0 ≤ i.toInt ∧ i.toInt < (pn 9).toInt := by
  unfold P_X4_isUnknown at hi
  have h1 := in_i hi
  obtain ⟨⟨h2, h3⟩, -⟩ := h
  have e1 : (1 : Int32).toInt = 1 := by decide
  have e := toI_sub (a := pn 9) (b := 1) (by omega) (by omega)
  rw [Int32.toInt_toInt64, e] at h1
  have e0 : (0 : Int64).toInt = 0 := by decide
  omega
theorem ix_u {pn : Nat → Int32} {i : Int32} (h : PV pn) (hi : ¬ P_X4_isUnknown pn i = 0) : vp_in (15 + i) 101 := by
  have h1 := unk_i h hi
  obtain ⟨⟨h2, h3⟩, -⟩ := h
  have e4 : (15 : Int32).toInt = 15 := by decide
  have a1 := toI_add (a := 15) (b := i) (by omega) (by omega)
  exact ix_of a1 (by omega) (by omega)
theorem mu_le {i : Int32} (h : ¬ 9999 < i) : (10000 - (i + 1 : Int32).toInt).toNat < (10000 - (i : Int32).toInt).toNat := by
  rw [Int32.lt_iff_toInt_lt] at h
  have e9 : (9999 : Int32).toInt = 9999 := by decide
  have e1 : (1 : Int32).toInt = 1 := by decide
  have hb := i.le_toInt
  have e := toI_add (a := i) (b := 1) (by omega) (by omega)
  omega
theorem mu_le200 {i : Int32} (h : ¬ 200 < i) : (201 - (i + 1 : Int32).toInt).toNat < (201 - (i : Int32).toInt).toNat := by
  rw [Int32.lt_iff_toInt_lt] at h
  have e9 : (200 : Int32).toInt = 200 := by decide
  have e1 : (1 : Int32).toInt = 1 := by decide
  have hb := i.le_toInt
  have e := toI_add (a := i) (b := 1) (by omega) (by omega)
  omega
theorem sl_i {x : Int32} (h : ¬ P_X4_in x.toInt64 0 1 = 0) : x = 0 ∨ x = 1 := by
  have h1 := in_i h
  have e0 : (0 : Int64).toInt = 0 := by decide
  have e1 : (1 : Int64).toInt = 1 := by decide
  by_cases c : x.toInt = 0
  · exact Or.inl (Int32.toInt_inj.mp (c.trans (by decide)))
  · exact Or.inr (Int32.toInt_inj.mp ((show x.toInt = 1 by omega).trans (by decide)))
theorem ix_sl {x : Int32} (h : ¬ P_X4_in x.toInt64 0 1 = 0) : vp_in x 2 := by
  rcases sl_i h with rfl | rfl <;> (unfold vp_in; decide)
theorem cp_s {x : Int32} (h : ¬ P_X4_in x.toInt64 0 1 = 0) : CP 202 (101 * x) := by
  rcases sl_i h with rfl | rfl <;> exact ⟨by decide, by decide, by decide⟩
