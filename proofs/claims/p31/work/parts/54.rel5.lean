/-! balancing -/
theorem sr_bal_in {K7 : Int32 → (Nat → Int32) → (Nat → Int32) → (Nat → Int32) → ((Nat → Int32) × (Nat → Int32) × (Nat → Int32))} {K8 : Int32 → (Nat → Int32) → (Nat → Int32)} {oh : Nat → Int32} {v1 d : Int32} (hd : DE d) (hd0 : ¬ d ≤ 0)
    (hK : ∀ f lf ce pg : Nat → Int32, SR f oh lf ce pg → f 9 = 0 → SR (K7 (v1 + (-1)) f lf ce).1 oh (K7 (v1 + (-1)) f lf ce).2.1 (K7 (v1 + (-1)) f lf ce).2.2 (K8 (d / 10) pg)) (hKs : ∀ f lf ce : Nat → Int32, f 9 = 1 → K7 (v1 + (-1)) f lf ce = (f, lf, ce)) :
    ∀ (n n' : Nat) (v3 : Int32) (f lf ce pg : Nat → Int32), SR f oh lf ce pg → f 9 = 0 → 0 ≤ v3.toInt ∧ v3.toInt ≤ (f 2).toInt → ((9999 : Int32).toInt - v3.toInt).toNat < n → (10000 - (pg 2).toInt).toNat < n' →
      SR (P_X1_balanceBox_25 K7 oh v1 n d v3 f lf ce).1 oh (P_X1_balanceBox_25 K7 oh v1 n d v3 f lf ce).2.1 (P_X1_balanceBox_25 K7 oh v1 n d v3 f lf ce).2.2 (P_X4_balanceOn_14 K8 d n' 1 pg) := by
  intro n
  have z9 : (9999 : Int32).toInt = 9999 := by decide
  have z1 : (1 : Int32).toInt = 1 := by decide
  have z0 : (0 : Int32).toInt = 0 := by decide
  induction n with
  | zero => intro n' v3 f lf ce pg _ _ _ hn; omega
  | succ n ih =>
    intro n' v3 f lf ce pg h h9 hv hn hn'
    obtain ⟨m, rfl⟩ : ∃ m, n' = m + 1 := ⟨n' - 1, by omega⟩
    have hr := pv_r h.pv
    have e2 : f 2 = pg 2 := h.lo (by decide)
    obtain ⟨hr1, hr2⟩ := hr
    have hdp : 1 ≤ d.toInt := by rw [Int32.le_iff_toInt_le] at hd0; omega
    obtain ⟨hd1, hd2⟩ := hd
    have ad := toI_add (a := pg 2) (b := d) (by omega) (by omega)
    have E7 : P_X1_balanceBox_25 K7 oh v1 (n + 1) d v3 f lf ce = (if 9999 ≤ v3 then K7 (v1 + (-1)) f lf ce else (if 9999 < f 2 + d then K7 (v1 + (-1)) f lf ce else (if ((P_X1_pressBothWays (upd f 2 (f 2 + d)) oh lf ce).2.1 9) = 0 then (if 0 ≤ (P_X1_pressBothWays (upd f 2 (f 2 + d)) oh lf ce).1 then P_X1_balanceBox_25 K7 oh v1 n d (v3 + 1) (P_X1_pressBothWays (upd f 2 (f 2 + d)) oh lf ce).2.1 (P_X1_pressBothWays (upd f 2 (f 2 + d)) oh lf ce).2.2.1 (P_X1_pressBothWays (upd f 2 (f 2 + d)) oh lf ce).2.2.2 else K7 (v1 + (-1)) (upd (P_X1_pressBothWays (upd f 2 (f 2 + d)) oh lf ce).2.1 2 (((P_X1_pressBothWays (upd f 2 (f 2 + d)) oh lf ce).2.1 2) - d)) (P_X1_pressBothWays (upd f 2 (f 2 + d)) oh lf ce).2.2.1 (P_X1_pressBothWays (upd f 2 (f 2 + d)) oh lf ce).2.2.2) else K7 (v1 + (-1)) (P_X1_pressBothWays (upd f 2 (f 2 + d)) oh lf ce).2.1 (P_X1_pressBothWays (upd f 2 (f 2 + d)) oh lf ce).2.2.1 (P_X1_pressBothWays (upd f 2 (f 2 + d)) oh lf ce).2.2.2))) := rfl
    have E8 : P_X4_balanceOn_14 K8 d (m + 1) 1 pg = (if 9999 < pg 2 + d then K8 (d / 10) pg else (if ((P_X4_pairOn (upd pg 2 (pg 2 + d))).2 11) = 1 then (P_X4_pairOn (upd pg 2 (pg 2 + d))).2 else (if (P_X4_pairOn (upd pg 2 (pg 2 + d))).1 < 0 then P_X4_balanceOn_14 K8 d m 0 (upd (P_X4_pairOn (upd pg 2 (pg 2 + d))).2 2 (((P_X4_pairOn (upd pg 2 (pg 2 + d))).2 2) - d)) else P_X4_balanceOn_14 K8 d m 1 (upd (P_X4_pairOn (upd pg 2 (pg 2 + d))).2 2 (((P_X4_pairOn (upd pg 2 (pg 2 + d))).2 2) - 0))))) := if_neg (t := K8 (d / 10) pg) (show ¬ (1 : Int32) = 0 by decide)
    rw [E7, E8, e2]
    by_cases c : 9999 < pg 2 + d
    · have e7 : (if 9999 ≤ v3 then K7 (v1 + (-1)) f lf ce else (if 9999 < pg 2 + d then K7 (v1 + (-1)) f lf ce else (if ((P_X1_pressBothWays (upd f 2 (pg 2 + d)) oh lf ce).2.1 9) = 0 then (if 0 ≤ (P_X1_pressBothWays (upd f 2 (pg 2 + d)) oh lf ce).1 then P_X1_balanceBox_25 K7 oh v1 n d (v3 + 1) (P_X1_pressBothWays (upd f 2 (pg 2 + d)) oh lf ce).2.1 (P_X1_pressBothWays (upd f 2 (pg 2 + d)) oh lf ce).2.2.1 (P_X1_pressBothWays (upd f 2 (pg 2 + d)) oh lf ce).2.2.2 else K7 (v1 + (-1)) (upd (P_X1_pressBothWays (upd f 2 (pg 2 + d)) oh lf ce).2.1 2 (((P_X1_pressBothWays (upd f 2 (pg 2 + d)) oh lf ce).2.1 2) - d)) (P_X1_pressBothWays (upd f 2 (pg 2 + d)) oh lf ce).2.2.1 (P_X1_pressBothWays (upd f 2 (pg 2 + d)) oh lf ce).2.2.2) else K7 (v1 + (-1)) (P_X1_pressBothWays (upd f 2 (pg 2 + d)) oh lf ce).2.1 (P_X1_pressBothWays (upd f 2 (pg 2 + d)) oh lf ce).2.2.1 (P_X1_pressBothWays (upd f 2 (pg 2 + d)) oh lf ce).2.2.2))) = K7 (v1 + (-1)) f lf ce := by
        by_cases c3 : 9999 ≤ v3
        · rw [if_pos c3]
        · rw [if_neg c3, if_pos c]
      rw [e7, if_pos c]
      exact hK f lf ce pg h h9
    · rw [if_neg c]
      rw [Int32.lt_iff_toInt_lt] at c
      have c3 : ¬ 9999 ≤ v3 := by rw [Int32.le_iff_toInt_le]; rw [e2] at hv; omega
      have c : ¬ 9999 < pg 2 + d := by rw [Int32.lt_iff_toInt_lt]; exact c
      rw [if_neg c3, if_neg c]
      have hb : RB (pg 2 + d) := by
        rw [Int32.lt_iff_toInt_lt] at c
        exact ⟨by omega, by omega⟩
      have q2 := sr_pair (sr_r h hb)
      have u2 := bal_u2 (pg := pg) (d := d) rfl
      generalize P_X1_pressBothWays (upd f 2 (pg 2 + d)) oh lf ce = u at *
      generalize P_X4_pairOn (upd pg 2 (pg 2 + d)) = w at *
      obtain ⟨q0, q1⟩ := q2
      have e11 : w.2 11 = u.2.1 9 := q1.2.1.2.2.1
      have eu2 : u.2.1 2 = w.2 2 := q1.lo (by decide)
      rcases q1.stk with k | k
      · rw [if_pos k, q0, if_neg (show ¬ w.2 11 = 1 by rw [e11, k]; decide)]
        by_cases c5 : w.1 < 0
        · rw [if_pos c5, if_neg (by rw [Int32.le_iff_toInt_le]; rw [Int32.lt_iff_toInt_lt] at c5; omega)]
          obtain ⟨m2, rfl⟩ : ∃ m2, m = m2 + 1 := ⟨m - 1, by rw [Int32.lt_iff_toInt_lt] at c; omega⟩
          have e0 : ∀ q : Nat → Int32, P_X4_balanceOn_14 K8 d (m2 + 1) 0 q = K8 (d / 10) q := fun q => by unfold P_X4_balanceOn_14; exact if_pos rfl
          rw [e0, eu2]
          have sb := toI_sub (a := pg 2 + d) (b := d) (by omega) (by omega)
          refine hK _ _ _ _ (sr_r q1 ?_) ?_
          · rw [u2]; exact ⟨by omega, by omega⟩
          · rw [upd_o (by decide)]; exact k
        · rw [if_neg c5, if_pos (by rw [Int32.le_iff_toInt_le]; rw [Int32.lt_iff_toInt_lt] at c5; omega)]
          have a3 := toI_add (a := v3) (b := 1) (by omega) (by rw [Int32.le_iff_toInt_le] at c3; omega)
          have es : (upd w.2 2 (w.2 2 - 0)) = w.2 := by
            funext j
            by_cases cj : j = 2
            · subst cj; rw [upd_me, Int32.sub_zero]
            · rw [upd_o cj]
          rw [es]
          rw [Int32.lt_iff_toInt_lt] at c
          rw [e2] at hv
          refine ih m (v3 + 1) _ _ _ _ q1 k ⟨by omega, by rw [eu2, u2]; omega⟩ (by omega) (by rw [u2]; omega)
      · rw [if_neg (by rw [k]; decide), if_pos (by rw [e11, k]), hKs _ _ _ k]
        exact q1
def BD (v d : Int32) : Prop := (v = 3 ∧ d = 1000) ∨ (v = 2 ∧ d = 100) ∨ (v = 1 ∧ d = 10) ∨ (v = 0 ∧ d = 1) ∨ (v = -1 ∧ d = 0)
theorem sr_bal_out (oh : Nat → Int32) : ∀ (n n' : Nat) (v d : Int32) (f lf ce pg : Nat → Int32), BD v d → SR f oh lf ce pg → f 9 = 0 → (v.toInt + 1).toNat < n → d.toInt.toNat < n' →
    SR (P_X1_balanceBox_7 oh n v f lf ce).1 oh (P_X1_balanceBox_7 oh n v f lf ce).2.1 (P_X1_balanceBox_7 oh n v f lf ce).2.2 (P_X4_balanceOn_8 n' d pg) := by
  intro n
  induction n with
  | zero => intro n' v d f lf ce pg _ _ _ hn; omega
  | succ n ih =>
    intro n' v d f lf ce pg hb h h9 hn hn'
    obtain ⟨m, rfl⟩ : ∃ m, n' = m + 1 := ⟨n' - 1, by omega⟩
    have E7 : P_X1_balanceBox_7 oh (n + 1) v f lf ce = (if v < 0 then (f, lf, ce) else (if f 9 = 0 then (P_X1_balanceBox_25 (fun v1' f' lf' ce' => P_X1_balanceBox_7 oh n v1' f' lf' ce') oh v ((((9999 : Int32)).toInt - (0 : Int32).toInt).toNat + 1) (P_X3_power v) 0 f lf ce) else (f, lf, ce))) := rfl
    have E8 : P_X4_balanceOn_8 (m + 1) d pg = (if d ≤ 0 then pg else (P_X4_balanceOn_14 (fun v1' pg' => P_X4_balanceOn_8 m v1' pg') d ((if (1 : Int32) = 0 then 0 else (10000 - (pg 2).toInt).toNat) + 1) 1 pg)) := rfl
    by_cases c : v = -1
    · rcases hb with ⟨a, b⟩ | ⟨a, b⟩ | ⟨a, b⟩ | ⟨a, b⟩ | ⟨a, b⟩
      · subst a; exact absurd c (by decide)
      · subst a; exact absurd c (by decide)
      · subst a; exact absurd c (by decide)
      · subst a; exact absurd c (by decide)
      · subst a; subst b
        rw [E7, E8, if_pos (by decide), if_pos (by decide)]
        exact h
    · have fact : BD (v + (-1)) (d / 10) ∧ P_X3_power v = d ∧ ¬ v < 0 ∧ ¬ d ≤ 0 ∧ DE d ∧ ((v + (-1)).toInt + 1).toNat < n ∧ (d / 10).toInt.toNat < m := by
        rcases hb with ⟨a, b⟩ | ⟨a, b⟩ | ⟨a, b⟩ | ⟨a, b⟩ | ⟨a, b⟩
        · subst a; subst b
          have k1 : ((3 : Int32).toInt + 1).toNat = 4 := by decide
          have k2 : (((3 : Int32) + (-1)).toInt + 1).toNat = 3 := by decide
          have k3 : (1000 : Int32).toInt.toNat = 1000 := by decide
          have k4 : ((1000 : Int32) / 10).toInt.toNat = 100 := by decide
          exact ⟨Or.inr (Or.inl ⟨by decide, by decide⟩), by decide, by decide, by decide, ⟨by decide, by decide⟩, by omega, by omega⟩
        · subst a; subst b
          have k1 : ((2 : Int32).toInt + 1).toNat = 3 := by decide
          have k2 : (((2 : Int32) + (-1)).toInt + 1).toNat = 2 := by decide
          have k3 : (100 : Int32).toInt.toNat = 100 := by decide
          have k4 : ((100 : Int32) / 10).toInt.toNat = 10 := by decide
          exact ⟨Or.inr (Or.inr (Or.inl ⟨by decide, by decide⟩)), by decide, by decide, by decide, ⟨by decide, by decide⟩, by omega, by omega⟩
        · subst a; subst b
          have k1 : ((1 : Int32).toInt + 1).toNat = 2 := by decide
          have k2 : (((1 : Int32) + (-1)).toInt + 1).toNat = 1 := by decide
          have k3 : (10 : Int32).toInt.toNat = 10 := by decide
          have k4 : ((10 : Int32) / 10).toInt.toNat = 1 := by decide
          exact ⟨Or.inr (Or.inr (Or.inr (Or.inl ⟨by decide, by decide⟩))), by decide, by decide, by decide, ⟨by decide, by decide⟩, by omega, by omega⟩
        · subst a; subst b
          have k1 : ((0 : Int32).toInt + 1).toNat = 1 := by decide
          have k2 : (((0 : Int32) + (-1)).toInt + 1).toNat = 0 := by decide
          have k3 : (1 : Int32).toInt.toNat = 1 := by decide
          have k4 : ((1 : Int32) / 10).toInt.toNat = 0 := by decide
          exact ⟨Or.inr (Or.inr (Or.inr (Or.inr ⟨by decide, by decide⟩))), by decide, by decide, by decide, ⟨by decide, by decide⟩, by omega, by omega⟩
        · exact absurd a c
      obtain ⟨f1, f2, f3, f4, f5, f6, f7⟩ := fact
      rw [E7, E8, if_neg f3, if_pos h9, if_neg f4, f2]
      have e1 : (if (1 : Int32) = 0 then 0 else (10000 - (pg 2).toInt).toNat) = (10000 - (pg 2).toInt).toNat := if_neg (by decide)
      rw [e1]
      have hr := pv_r h.pv
      refine sr_bal_in f5 f4 (fun f lf ce pg h h9 => ih m _ _ f lf ce pg f1 h h9 f6 f7) (fun f lf ce k => ?_) _ _ 0 f lf ce pg h h9 ⟨by decide, ?_⟩ (Nat.lt_succ_self _) (Nat.lt_succ_self _)
      · have hn0 : n ≠ 0 := fun q => by rw [q] at f6; exact absurd f6 (Nat.not_lt_zero _)
        obtain ⟨n2, rfl⟩ := Nat.exists_eq_succ_of_ne_zero hn0
        show (if v + (-1) < 0 then (f, lf, ce) else (if f 9 = 0 then _ else (f, lf, ce))) = _
        by_cases q : v + (-1) < 0
        · rw [if_pos q]
        · rw [if_neg q, if_neg (by rw [k]; decide)]
      · rw [h.lo (j := 2) (by decide)]
        exact hr.1
theorem sr_bal {f oh lf ce pg : Nat → Int32} (h : SR f oh lf ce pg) (h9 : f 9 = 0) : SR (P_X1_balanceBox f oh lf ce).1 oh (P_X1_balanceBox f oh lf ce).2.1 (P_X1_balanceBox f oh lf ce).2.2 (P_X4_balanceOn pg) :=
  sr_bal_out oh _ _ 3 1000 _ lf ce _ (Or.inl ⟨rfl, rfl⟩) (sr_r h ⟨by decide, by decide⟩) (by rw [upd_o (by decide)]; exact h9) (Nat.lt_succ_self _) (Nat.lt_succ_self _)
