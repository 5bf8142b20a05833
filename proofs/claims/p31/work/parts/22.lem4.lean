/-! the reference's calls: what their indices rest on -/
theorem k_let {α β : Type} {a : α} {f : α → β} {t : β} (h : (let x := a; f x) = t) : f a = t := h
def AB (x : Int32) : Prop := 0 ≤ x.toInt ∧ x.toInt ≤ 14
def TB (x : Int32) : Prop := 0 ≤ x.toInt ∧ x.toInt ≤ 60
theorem ref_0 {mf : Nat → Int32} : P_X4_refused mf 0 = (0, upd mf 0 0) := by unfold P_X4_refused; exact if_pos (by decide)
theorem ref_1 {mf : Nat → Int32} : P_X4_refused mf 1 = (1, upd mf 0 1) := by unfold P_X4_refused; exact if_neg (by decide)
theorem ref_2 {mf : Nat → Int32} : P_X4_refused mf 2 = (1, upd mf 0 2) := by unfold P_X4_refused; exact if_neg (by decide)
theorem ref_o {mf : Nat → Int32} {w : Int32} : (P_X4_refused mf w).2 = upd mf 0 w := by
  unfold P_X4_refused
  by_cases h : w ≤ 0
  · rw [if_pos h]
  · rw [if_neg h]
theorem ref_ab {mf : Nat → Int32} {w : Int32} {u : Int32 × (Nat → Int32)} (h : P_X4_refused mf w = u) (ha : AB (mf 8)) : AB (u.2 8) := by
  rw [← h, ref_o]
  exact ha
theorem cp0 : CP 101 0 := ⟨by decide, by decide, by decide⟩
theorem cp_m {x : Int32} {k : Int} (hk : x.toInt = k) (h0 : 0 ≤ k) (h1 : k ≤ 13) : CP 1414 (101 * x) := by
  have h2 : (101 : Int32).toInt = 101 := by decide
  have e := toI_mul (a := 101) (b := x) (by rw [h2]; omega) (by rw [h2]; omega)
  rw [h2] at e
  exact ⟨by omega, by omega, by decide⟩
theorem cp_a {x : Int32} (h : AB x) (hn : ¬ x = 14) : CP 1414 (101 * x) := by
  obtain ⟨h1, h2⟩ := h
  have h3 : ¬ x.toInt = 14 := fun q => hn (Int32.toInt_inj.mp (q.trans (by decide)))
  exact cp_m rfl h1 (by omega)
theorem cp_b {x : Int32} (h : x = 14) : CP 1414 (101 * (x - 1)) := by
  subst h
  exact ⟨by decide, by decide, by decide⟩
theorem cp_u {x : Int32} (h : AB x) (hn : ¬ x = 0) : CP 1414 (101 * (x - 1)) := by
  obtain ⟨h1, h2⟩ := h
  have h3 : ¬ x.toInt = 0 := fun q => hn (Int32.toInt_inj.mp (q.trans (by decide)))
  have h4 : (1 : Int32).toInt = 1 := by decide
  have e := toI_sub (a := x) (b := 1) (by omega) (by omega)
  exact cp_m e (by omega) (by omega)
theorem ix_nt {k : Int32} (h0 : ¬ k < 0) (h1 : ¬ 1313 ≤ k) : vp_in k 1414 := by
  rw [Int32.lt_iff_toInt_lt] at h0
  rw [Int32.le_iff_toInt_le] at h1
  have h2 : (0 : Int32).toInt = 0 := by decide
  have h3 : (1313 : Int32).toInt = 1313 := by decide
  exact vp_in_iff.mpr ⟨by omega, by omega⟩
theorem ix_nt1 {k : Int32} (h0 : ¬ k < 0) (h1 : ¬ 1313 ≤ k) : vp_in (k + 101) 1414 := by
  rw [Int32.lt_iff_toInt_lt] at h0
  rw [Int32.le_iff_toInt_le] at h1
  have h2 : (0 : Int32).toInt = 0 := by decide
  have h3 : (1313 : Int32).toInt = 1313 := by decide
  have h4 : (101 : Int32).toInt = 101 := by decide
  have e := toI_add (a := k) (b := 101) (by omega) (by omega)
  exact vp_in_iff.mpr ⟨by omega, by omega⟩
theorem cmp_3 (x y : Int64) : (x < y ∧ lg_cmp x y = -1) ∨ (x = y ∧ lg_cmp x y = 0) ∨ (y < x ∧ lg_cmp x y = 1) := by
  unfold lg_cmp
  by_cases h1 : y < x
  · exact Or.inr (Or.inr ⟨h1, if_pos h1⟩)
  · rw [if_neg h1]
    by_cases h2 : x = y
    · exact Or.inr (Or.inl ⟨h2, if_pos h2⟩)
    · refine Or.inl ⟨?_, if_neg h2⟩
      rw [Int64.lt_iff_toInt_lt] at h1 ⊢
      have h3 : ¬ x.toInt = y.toInt := fun q => h2 (Int64.toInt_inj.mp q)
      omega
theorem cmp_lt {x y : Int64} : lg_cmp x y < 0 ↔ x < y := by
  rcases cmp_3 x y with ⟨h, e⟩ | ⟨h, e⟩ | ⟨h, e⟩ <;> rw [e]
  · exact ⟨fun _ => h, fun _ => by decide⟩
  · exact ⟨fun q => absurd q (by decide), fun q => by subst h; rw [Int64.lt_iff_toInt_lt] at q; omega⟩
  · exact ⟨fun q => absurd q (by decide), fun q => by rw [Int64.lt_iff_toInt_lt] at q h; omega⟩
theorem cmp_gt {x y : Int64} : 0 < lg_cmp x y ↔ y < x := by
  rcases cmp_3 x y with ⟨h, e⟩ | ⟨h, e⟩ | ⟨h, e⟩ <;> rw [e]
  · exact ⟨fun q => absurd q (by decide), fun q => by rw [Int64.lt_iff_toInt_lt] at q h; omega⟩
  · exact ⟨fun q => absurd q (by decide), fun q => by subst h; rw [Int64.lt_iff_toInt_lt] at q; omega⟩
  · exact ⟨fun _ => h, fun _ => by decide⟩
theorem in_1 {v lo hi : Int64} (h : ¬ P_X4_in v lo hi = 0) : lo.toInt ≤ v.toInt ∧ v.toInt ≤ hi.toInt := by
  unfold P_X4_in at h
  by_cases c1 : lg_cmp v lo < 0
  · rw [if_pos c1] at h
    exact absurd rfl h
  · rw [if_neg c1] at h
    by_cases c2 : 0 < lg_cmp v hi
    · rw [if_pos c2] at h
      exact absurd rfl h
    · rw [cmp_lt, Int64.lt_iff_toInt_lt] at c1
      rw [cmp_gt, Int64.lt_iff_toInt_lt] at c2
      omega
theorem in_0 {v lo hi : Int64} (h : P_X4_in v lo hi = 0) : ¬ (lo.toInt ≤ v.toInt ∧ v.toInt ≤ hi.toInt) := by
  unfold P_X4_in at h
  rintro ⟨e1, e2⟩
  rw [if_neg (by rw [cmp_lt, Int64.lt_iff_toInt_lt]; omega), if_neg (by rw [cmp_gt, Int64.lt_iff_toInt_lt]; omega)] at h
  exact absurd h (by decide)
theorem in_i {v : Int32} {lo hi : Int64} (h : ¬ P_X4_in v.toInt64 lo hi = 0) : lo.toInt ≤ v.toInt ∧ v.toInt ≤ hi.toInt := by
  have := in_1 h
  rwa [Int32.toInt_toInt64] at this
theorem ix_of {x : Int32} {n : Nat} {k : Int} (h : x.toInt = k) (h0 : 0 ≤ k) (h1 : k < n) : vp_in x n := vp_in_iff.mpr ⟨by omega, by omega⟩
theorem ix_app {x : Int32} (h : TB x) (hn : ¬ x = 60) : vp_in x 60 := by
  obtain ⟨h1, h2⟩ := h
  have h3 : ¬ x.toInt = 60 := fun q => hn (Int32.toInt_inj.mp (q.trans (by decide)))
  exact ix_of rfl h1 (by omega)
theorem ix_ab1 {x : Int32} (h : ¬ P_X4_in x.toInt64 0 15 = 0) (h2 : ¬ 8 ≤ x) : vp_in x 101 := by
  have h1 := in_i h
  have e0 : (0 : Int64).toInt = 0 := by decide
  have e1 : (15 : Int64).toInt = 15 := by decide
  exact ix_of rfl (by omega) (by omega)
theorem ix_ab2 {x : Int32} (h : ¬ P_X4_in x.toInt64 0 15 = 0) (h2 : 8 ≤ x) (_ : ¬ x = 8) : vp_in (x - 1) 101 := by
  have h1 := in_i h
  have e0 : (0 : Int64).toInt = 0 := by decide
  have e1 : (15 : Int64).toInt = 15 := by decide
  rw [Int32.le_iff_toInt_le] at h2
  have e2 : (8 : Int32).toInt = 8 := by decide
  have e3 : (1 : Int32).toInt = 1 := by decide
  have e := toI_sub (a := x) (b := 1) (by omega) (by omega)
  exact ix_of e (by omega) (by omega)
theorem ix_told {pn : Nat → Int32} {j w : Int32} (h : PV pn) (hj : ¬ j < 0) (hw : ¬ P_X4_in w.toInt64 0 3 = 0) (hl : ¬ pn 12 ≤ j) : vp_in ((21 + (4 * j)) + w) 101 := by
  have h1 := in_i hw
  obtain ⟨-, -, -, -, h2, h3⟩ := h
  have e0 : (0 : Int64).toInt = 0 := by decide
  have e1 : (3 : Int64).toInt = 3 := by decide
  rw [Int32.lt_iff_toInt_lt] at hj
  rw [Int32.le_iff_toInt_le] at hl
  have e2 : (0 : Int32).toInt = 0 := by decide
  have e3 : (4 : Int32).toInt = 4 := by decide
  have e4 : (21 : Int32).toInt = 21 := by decide
  have m := toI_mul (a := 4) (b := j) (by rw [e3]; omega) (by rw [e3]; omega)
  rw [e3] at m
  have a1 := toI_add (a := 21) (b := 4 * j) (by omega) (by omega)
  have a2 := toI_add (a := 21 + 4 * j) (b := w) (by omega) (by omega)
  exact ix_of a2 (by omega) (by omega)
theorem ix_set {w v : Int32} (h : ¬ P_X4_isSetting w v = 0) : vp_in w 101 := by
  unfold P_X4_isSetting at h
  by_cases c0 : w = 0
  · subst c0; unfold vp_in; decide
  by_cases c1 : w = 1
  · subst c1; unfold vp_in; decide
  by_cases c2 : w = 2
  · subst c2; unfold vp_in; decide
  by_cases c3 : w = 3
  · subst c3; unfold vp_in; decide
  by_cases c4 : w = 4
  · subst c4; unfold vp_in; decide
  by_cases c5 : w = 5
  · subst c5; unfold vp_in; decide
  by_cases c6 : w = 6
  · subst c6; unfold vp_in; decide
  · rw [if_neg c0, if_neg c1, if_neg c2, if_neg c3, if_neg c4, if_neg c5, if_neg c6] at h
    exact absurd rfl h
theorem ix_add6 {pn : Nat → Int32} (h : PV pn) (hn : ¬ pn 9 = 6) : vp_in (15 + pn 9) 101 := by
  obtain ⟨⟨h1, h2⟩, -⟩ := h
  have e4 : (15 : Int32).toInt = 15 := by decide
  have a1 := toI_add (a := 15) (b := pn 9) (by omega) (by omega)
  exact ix_of a1 (by omega) (by omega)
theorem ten2_ne (x : Int32) : ¬ (2 * P_X4_ten x) = 0 := by
  rcases ten_cases x with h | h | h | h <;> rw [h] <;> decide
/-! a press on a page -/
def sh (pg : Nat → Int32) (k : Int) : Nat → Int32 := fun j => if 25 ≤ j ∧ (j : Int) ≤ k then pg (j - 4) else pg j
theorem press_sh (rv v2 v3 : Int32) : ∀ (n : Nat) (v4 : Int32) (pg : Nat → Int32), v4.toInt ≤ 100 → (v4.toInt - 24).toNat < n → P_X4_pressOn_41 rv n v2 v3 v4 pg = P_X4_pressOn_41 rv 1 v2 v3 24 (sh pg v4.toInt) := by
  intro n
  induction n with
  | zero => intros; omega
  | succ n ih =>
    intro v4 pg h1 hm
    have e25 : (25 : Int32).toInt = 25 := by decide
    by_cases c : v4 < 25
    · have hs : sh pg v4.toInt = pg := by
        rw [Int32.lt_iff_toInt_lt] at c
        funext j
        unfold sh
        rw [if_neg (by omega)]
      rw [hs]
      unfold P_X4_pressOn_41
      rw [if_pos c, if_pos (show (24 : Int32) < 25 by decide)]
    · have hd := mu_dn2 c
      have hl := le_dn h1 c
      have hv := ix_sh h1 c
      have hv4 := ix_sh4 h1 c
      rw [Int32.lt_iff_toInt_lt] at c
      have em : (-1 : Int32).toInt = -1 := by decide
      have e4 : (4 : Int32).toInt = 4 := by decide
      have ev := toI_add (a := v4) (b := -1) (by omega) (by omega)
      have es := toI_sub (a := v4) (b := 4) (by omega) (by omega)
      have n1 : v4.toNatClampNeg = v4.toInt.toNat := rfl
      have n2 : (v4 - 4).toNatClampNeg = v4.toInt.toNat - 4 := by
        show (v4 - 4).toInt.toNat = _
        omega
      have hs : sh (upd pg v4.toNatClampNeg (pg (v4 - 4).toNatClampNeg)) (v4 + -1).toInt = sh pg v4.toInt := by
        funext j
        unfold sh upd
        rw [n1, n2, ev]
        by_cases h25 : 25 ≤ j
        · by_cases hj : (j : Int) ≤ v4.toInt + -1
          · rw [if_pos ⟨h25, hj⟩, if_neg (show ¬ (j - 4 = v4.toInt.toNat) by omega), if_pos ⟨h25, by omega⟩]
          · rw [if_neg (by omega)]
            by_cases hj2 : j = v4.toInt.toNat
            · rw [if_pos hj2, if_pos ⟨h25, by omega⟩, hj2]
            · rw [if_neg hj2, if_neg (by omega)]
        · rw [if_neg (by omega), if_neg (by omega), if_neg (by omega)]
      have hstep : P_X4_pressOn_41 rv (n + 1) v2 v3 v4 pg = P_X4_pressOn_41 rv n v2 v3 (v4 + -1) (upd pg v4.toNatClampNeg (pg (v4 - 4).toNatClampNeg)) := by
        conv => lhs; unfold P_X4_pressOn_41
        rw [if_neg (by rw [Int32.lt_iff_toInt_lt]; omega)]
      rw [hstep, ih _ _ hl (by omega), hs]
theorem sh_lo {pg : Nat → Int32} {k : Int} {j : Nat} (h : j < 25) : sh pg k j = pg j := by
  unfold sh
  rw [if_neg (by omega)]
def ovr (x : Int32) : Int32 := if x < -5000 then 1 else if x ≤ 5000 then 0 else 1
def rd500 (x : Int32) : Int32 := if x ≤ 500 then (if -500 ≤ x then x else -500) else 500
/-- the page that a press leaves: v the reading, ov whether it sticks -/
def pressP (pg : Nat → Int32) (rv v ov : Int32) : Nat → Int32 :=
  upd (upd (upd (upd (upd (upd (upd (upd (upd (upd (sh pg 100) 21 v) 22 (if rv = 0 then 1 else -1)) 23 (pg 2)) 24 (pg 8)) 12 (if 20 ≤ pg 12 then 20 else pg 12 + 1)) 13 (pg 13 + 1)) 14 (pg 14 + (if ov = 0 then 0 else 1))) 11 (if ov = 0 then pg 11 else 1)) 7 (if pg 7 + pg 3 ≤ 9999 then pg 7 + pg 3 else 9999)) 8 (pg 8 + 1)
theorem press_tl (pg : Nat → Int32) (rv v2 v3 : Int32) : P_X4_pressOn_41 rv 1 v2 v3 24 (sh pg 100) = (v3, pressP pg rv v3 (ovr v2)) := by
  unfold P_X4_pressOn_41
  rw [if_pos (show (24 : Int32) < 25 by decide)]
  have k2 := sh_lo (pg := pg) (k := 100) (j := 2) (by decide)
  have k3 := sh_lo (pg := pg) (k := 100) (j := 3) (by decide)
  have k7 := sh_lo (pg := pg) (k := 100) (j := 7) (by decide)
  have k8 := sh_lo (pg := pg) (k := 100) (j := 8) (by decide)
  have k11 := sh_lo (pg := pg) (k := 100) (j := 11) (by decide)
  have k12 := sh_lo (pg := pg) (k := 100) (j := 12) (by decide)
  have k13 := sh_lo (pg := pg) (k := 100) (j := 13) (by decide)
  have k14 := sh_lo (pg := pg) (k := 100) (j := 14) (by decide)
  rw [k2, k3, k7, k8, k11, k12, k13, k14]
  unfold pressP ovr
  by_cases c1 : rv = 0 <;> by_cases c2 : 20 ≤ pg 12 <;> by_cases c3 : v2 < -5000 <;> by_cases c4 : v2 ≤ 5000 <;> by_cases c5 : pg 7 + pg 3 ≤ 9999 <;> simp only [c1, c2, c3, c4, c5, if_true, if_false, ite_true, ite_false] <;> rfl
theorem press_eq (pg : Nat → Int32) (rv : Int32) : P_X4_pressOn pg rv = (rd500 (P_X4_rawOf pg rv (pg 4)), pressP pg rv (rd500 (P_X4_rawOf pg rv (pg 4))) (ovr (P_X4_rawOf pg rv (pg 4)))) := by
  have key : ∀ v v2 : Int32, P_X4_pressOn_41 rv (((100 : Int32).toInt - 24).toNat + 1) v2 v 100 pg = (v, pressP pg rv v (ovr v2)) := by
    intro v v2
    rw [press_sh rv v2 v _ _ _ (by decide) (Nat.lt_succ_self _)]
    exact press_tl pg rv v2 v
  unfold P_X4_pressOn rd500
  by_cases c1 : P_X4_rawOf pg rv (pg 4) ≤ 500
  · rw [if_pos c1, if_pos c1]
    by_cases c2 : -500 ≤ P_X4_rawOf pg rv (pg 4)
    · rw [if_pos c2, if_pos c2]
      exact key _ _
    · rw [if_neg c2, if_neg c2]
      exact key _ _
  · rw [if_neg c1, if_neg c1]
    exact key _ _
theorem pressP_lo {pg : Nat → Int32} {rv v ov : Int32} {j : Nat} (h : j < 21) (h7 : j ≠ 7) (h8 : j ≠ 8) (h11 : j ≠ 11) (h12 : j ≠ 12) (h13 : j ≠ 13) (h14 : j ≠ 14) : pressP pg rv v ov j = pg j := by
  unfold pressP upd
  rw [if_neg h8, if_neg h7, if_neg h11, if_neg h14, if_neg h13, if_neg h12, if_neg (by omega), if_neg (by omega), if_neg (by omega), if_neg (by omega)]
  exact sh_lo (by omega)
theorem PV.to {pg q : Nat → Int32} (h : PV pg) (h2 : RB (q 2)) (h9 : q 9 = pg 9) (h10 : q 10 = pg 10) (hx : ∀ i : Nat, i < 6 → q (15 + i) = pg (15 + i)) (h12 : 0 ≤ (q 12).toInt ∧ (q 12).toInt ≤ 20) : PV q := by
  obtain ⟨a, b, d, e, f⟩ := h
  refine ⟨by rw [h9]; exact a, by rw [h9, h10]; exact b, fun i hi => ?_, h2, h12⟩
  rw [h9] at hi
  rw [hx i (by omega)]
  exact d i hi
theorem pv_press {pg : Nat → Int32} {rv : Int32} {u : Int32 × (Nat → Int32)} (hu : P_X4_pressOn pg rv = u) (h : PV pg) : PV u.2 := by
  rw [← hu, press_eq]
  show PV (pressP _ _ _ _)
  refine h.to ?_ (pressP_lo (by decide) (by decide) (by decide) (by decide) (by decide) (by decide) (by decide)) (pressP_lo (by decide) (by decide) (by decide) (by decide) (by decide) (by decide) (by decide)) (fun i hi => pressP_lo (by omega) (by omega) (by omega) (by omega) (by omega) (by omega) (by omega)) ?_
  · rw [pressP_lo (by decide) (by decide) (by decide) (by decide) (by decide) (by decide) (by decide)]
    exact pv_r h
  · obtain ⟨-, -, -, -, h1, h2⟩ := h
    show 0 ≤ (if 20 ≤ pg 12 then (20 : Int32) else pg 12 + 1).toInt ∧ (if 20 ≤ pg 12 then (20 : Int32) else pg 12 + 1).toInt ≤ 20
    by_cases c : 20 ≤ pg 12
    · rw [if_pos c]; decide
    · rw [if_neg c]
      rw [Int32.le_iff_toInt_le] at c
      have e20 : (20 : Int32).toInt = 20 := by decide
      have e1 : (1 : Int32).toInt = 1 := by decide
      rw [toI_add (by omega) (by omega)]
      omega
