/-! answers alike: forecasts, the simulation -/
section Q5
variable {f oh lf ce pg : Nat → Int32}
theorem oa_69 (bf f : Nat → Int32) (pr wt : Int32) : ∀ (n : Nat) (v3 v4 : Int32) (pt : Nat → Int32), pt 7 = v3 → pt 5 = f 5 → pt 6 = f 6 → (wt.toInt - v4.toInt).toNat < n → P_X3_offsetAfter_69 bf f pr wt n v3 v4 = (0, P_X4_offsetOf (P_X4_waitOn_2 wt n v4 pt)) := by
  intro n
  induction n with
  | zero => intro v3 v4 pt _ _ _ hn; omega
  | succ n ih =>
    intro v3 v4 pt h7 h5 h6 hn
    rw [wait_1]
    show (if wt ≤ v4 then (0, P_X1_offsetAt f v3) else P_X3_offsetAfter_69 bf f pr wt n (P_X1_cooled v3) (v4 + 1)) = _
    by_cases c : wt ≤ v4
    · rw [if_pos c, if_pos c]
      unfold P_X1_offsetAt P_X4_offsetOf
      rw [h7, h5, h6]
    · rw [if_neg c, if_neg c]
      have hmu := mu_up c
      exact ih _ _ _ (by rw [upd_o (by decide), upd_me, h7]) (by rw [upd_o (by decide), upd_o (by decide)]; exact h5) (by rw [upd_o (by decide), upd_o (by decide)]; exact h6) (by omega)
theorem oa_42 (bf f pn mf : Nat → Int32) (pr wt : Int32) : ∀ (n : Nat) (v3 v4 : Int32) (pt : Nat → Int32), pt 7 = v3 → pt 5 = f 5 → pt 6 = f 6 → pt 3 = f 3 → (pr.toInt - v4.toInt).toNat < n → P_X3_offsetAfter_42 bf f pr wt n v3 v4 = (0, (P_X4_offsetAfter_53 pn pr wt n v4 mf pt).1) ∧ (P_X4_offsetAfter_53 pn pr wt n v4 mf pt).2.1 = mf := by
  intro n
  induction n with
  | zero => intro v3 v4 pt _ _ _ _ hn; omega
  | succ n ih =>
    intro v3 v4 pt h7 h5 h6 h3 hn
    have E : P_X4_offsetAfter_53 pn pr wt (n + 1) v4 mf pt = (if pr ≤ v4 then (P_X4_offsetOf (P_X4_waitOn pt wt), mf, P_X4_waitOn pt wt) else P_X4_offsetAfter_53 pn pr wt n (v4 + 1) mf (upd pt 7 (P_X1_warmed (pt 7) (pt 3)))) := by
      rw [warm_eq]
      show (if pr ≤ v4 then _ else (if pt 7 + pt 3 ≤ 9999 then _ else _)) = _
      by_cases c : pt 7 + pt 3 ≤ 9999
      · rw [if_pos c, if_pos c]
      · rw [if_neg c, if_neg c]
    rw [E]
    show (if pr ≤ v4 then P_X3_offsetAfter_69 bf f pr wt (((wt).toInt - (0 : Int32).toInt).toNat + 1) v3 0 else P_X3_offsetAfter_42 bf f pr wt n (P_X1_warmed v3 (f 3)) (v4 + 1)) = _ ∧ _
    by_cases c : pr ≤ v4
    · rw [if_pos c, if_pos c]
      exact ⟨oa_69 bf f pr wt _ v3 0 pt h7 h5 h6 (Nat.lt_succ_self _), rfl⟩
    · rw [if_neg c, if_neg c]
      have hmu := mu_up c
      exact ih _ _ _ (by rw [upd_me, h7, h3]) (by rw [upd_o (by decide)]; exact h5) (by rw [upd_o (by decide)]; exact h6) (by rw [upd_o (by decide)]; exact h3) (by omega)
theorem q_offsetAfter (h : SR f oh lf ce pg) (bf mf pt : Nat → Int32) (pr wt : Int32) : QM 1 (P_X3_offsetAfter bf f pr wt).1 (P_X4_offsetAfter mf pg pt pr wt).1 (P_X3_offsetAfter bf f pr wt).2 (P_X4_offsetAfter mf pg pt pr wt).2.1 mf := by
  unfold P_X3_offsetAfter P_X4_offsetAfter
  rcases io (v := pr) (lo := 0) (hi := 99) (l := 0) (h := 99) (by decide) (by decide) with ⟨a, b, c, d⟩ | ⟨a, b⟩
  · rw [if_pos a, if_neg b]
    rcases io (v := wt) (lo := 0) (hi := 200) (l := 0) (h := 200) (by decide) (by decide) with ⟨a2, b2, c2, d2⟩ | ⟨a2, b2⟩
    · rw [if_pos a2, if_neg b2]
      have cp : ∀ j, j < 101 → P_X4_copyPage 101 101 pg pt 0 0 j = pg j := fun j hj => copy_00 rfl hj
      obtain ⟨k1, k2⟩ := oa_42 bf f pg (upd mf 0 0) pr wt (((pr).toInt - (0 : Int32).toInt).toNat + 1) (f 7) 0 (P_X4_copyPage 101 101 pg pt 0 0) (by rw [cp 7 (by decide)]; exact h.1 7 (by decide)) (by rw [cp 5 (by decide)]; exact h.1 5 (by decide)) (by rw [cp 6 (by decide)]; exact h.1 6 (by decide)) (by rw [cp 3 (by decide)]; exact h.1 3 (by decide)) (Nat.lt_succ_self _)
      rw [k1]
      exact ⟨Or.inl rfl, k2, fun _ => rfl⟩
    · rw [if_neg a2, if_pos b2]
      exact ⟨Or.inr rfl, rfl, fun q => absurd q (show ¬ (1 : Int32) = 0 by decide)⟩
  · rw [if_neg a, if_pos b]
    exact ⟨Or.inr rfl, rfl, fun q => absurd q (show ¬ (1 : Int32) = 0 by decide)⟩
theorem wf_lp (bf f pn mf : Nat → Int32) (off : Int32) : ∀ (n : Nat) (v2 v3 : Int32) (pt : Nat → Int32), pt 7 = v2 → pt 5 = f 5 → pt 6 = f 6 → (201 - v3.toInt).toNat < n → P_X3_waitFor_32 bf f off n v2 v3 = (0, (P_X4_waitFor_43 pn off n v3 mf pt).1) ∧ (P_X4_waitFor_43 pn off n v3 mf pt).2.1 = mf := by
  intro n
  induction n with
  | zero => intro v2 v3 pt _ _ _ hn; omega
  | succ n ih =>
    intro v2 v3 pt h7 h5 h6 hn
    have E1 : P_X3_waitFor_32 bf f off (n + 1) v2 v3 = (if 200 < v3 then (0, (-9999)) else (if off < (P_X1_offsetAt f v2) then (P_X3_waitFor_32 bf f off n (P_X1_cooled v2) (v3 + 1)) else (0, v3))) := rfl
    have E2 : P_X4_waitFor_43 pn off (n + 1) v3 mf pt = (if 200 < v3 then ((-9999), mf, pt) else (if off < (P_X4_offsetOf pt) then (P_X4_waitFor_43 pn off n (v3 + 1) mf (P_X4_waitOn pt 1)) else (v3, mf, pt))) := rfl
    have eo : P_X1_offsetAt f v2 = P_X4_offsetOf pt := by
      unfold P_X1_offsetAt P_X4_offsetOf
      rw [h7, h5, h6]
    rw [E1, E2, eo]
    by_cases c : 200 < v3
    · rw [if_pos c, if_pos c]; exact ⟨rfl, rfl⟩
    · rw [if_neg c, if_neg c]
      by_cases c2 : off < P_X4_offsetOf pt
      · rw [if_pos c2, if_pos c2]
        have hmu := mu_le200 c
        have ew : P_X4_waitOn pt 1 = upd (upd pt 7 (P_X1_cooled (pt 7))) 8 (pt 8 + 1) := by
          have k : (((1 : Int32).toInt - (0 : Int32).toInt).toNat + 1) = 2 := by decide
          unfold P_X4_waitOn
          rw [k, wait_1, if_neg (by decide), wait_1, if_pos (by decide)]
        rw [ew]
        exact ih _ _ _ (by rw [upd_o (by decide), upd_me, h7]) (by rw [upd_o (by decide), upd_o (by decide)]; exact h5) (by rw [upd_o (by decide), upd_o (by decide)]; exact h6) (by omega)
      · rw [if_neg c2, if_neg c2]; exact ⟨rfl, rfl⟩
theorem q_waitFor (h : SR f oh lf ce pg) (bf mf pt : Nat → Int32) (off : Int32) : QM 1 (P_X3_waitFor bf f off).1 (P_X4_waitFor mf pg pt off).1 (P_X3_waitFor bf f off).2 (P_X4_waitFor mf pg pt off).2.1 mf := by
  unfold P_X3_waitFor P_X4_waitFor
  rcases io (v := off) (lo := -50) (hi := 300) (l := -50) (h := 300) (by decide) (by decide) with ⟨a, b, c, d⟩ | ⟨a, b⟩
  · rw [if_pos a, if_neg b]
    have cp : ∀ j, j < 101 → P_X4_copyPage 101 101 pg pt 0 0 j = pg j := fun j hj => copy_00 rfl hj
    have k : ((200 : Int32).toInt + 1 - (0 : Int32).toInt).toNat + 1 = (201 - (0 : Int32).toInt).toNat + 1 := by decide
    rw [k]
    obtain ⟨k1, k2⟩ := wf_lp bf f pg (upd mf 0 0) off ((201 - (0 : Int32).toInt).toNat + 1) (f 7) 0 (P_X4_copyPage 101 101 pg pt 0 0) (by rw [cp 7 (by decide)]; exact h.1 7 (by decide)) (by rw [cp 5 (by decide)]; exact h.1 5 (by decide)) (by rw [cp 6 (by decide)]; exact h.1 6 (by decide)) (Nat.lt_succ_self _)
    rw [k1]
    exact ⟨Or.inl rfl, k2, fun _ => rfl⟩
  · rw [if_neg a, if_pos b]
    exact ⟨Or.inr rfl, rfl, fun q => absurd q (show ¬ (1 : Int32) = 0 by decide)⟩
/-- the copy of the state that the class makes, and the reference's -/
theorem sr_trial (h : SR f oh lf ce pg) (ft oht lft cet pt : Nat → Int32) : SR (P_X1_copyFrom ft oht lft cet f oh lf ce).1 (P_X1_copyFrom ft oht lft cet f oh lf ce).2.1 (P_X1_copyFrom ft oht lft cet f oh lf ce).2.2.1 (P_X1_copyFrom ft oht lft cet f oh lf ce).2.2.2 (P_X4_copyPage 101 101 pg pt 0 0) :=
  sr_pg (sr_copy h ft oht lft cet) (fun j hj => copy_00 rfl hj)
theorem q_balanced (h : SR f oh lf ce pg) (bf mf ft oht lft cet pt : Nat → Int32) (what : Int32) : QM 1 (P_X3_balanced bf f oh lf ce ft oht lft cet what).1 (P_X4_balanced mf pg pt what).1 (P_X3_balanced bf f oh lf ce ft oht lft cet what).2.1 (P_X4_balanced mf pg pt what).2.1 mf := by
  have tr := sr_trial h ft oht lft cet pt
  have e13 := h.2.1.2.2.2.2.1
  unfold P_X3_balanced P_X4_balanced
  rcases io (v := what) (lo := 0) (hi := 3) (l := 0) (h := 3) (by decide) (by decide) with ⟨a, b, c, d⟩ | ⟨a, b⟩
  · rw [if_pos a, if_neg b]
    generalize P_X1_copyFrom ft oht lft cet f oh lf ce = u at *
    generalize P_X4_copyPage 101 101 pg pt 0 0 = w at *
    have s := sr_bal (sr_stk tr (Or.inl rfl)) upd_me
    dsimp only
    generalize P_X1_balanceBox (upd u.1 9 0) u.2.1 u.2.2.1 u.2.2.2 = v at *
    generalize P_X4_balanceOn (upd w 11 0) = z at *
    obtain ⟨s9, s10, s11, s12, s13, s14⟩ := s.2.1
    by_cases c0 : what = 0
    · rw [if_pos c0, if_pos c0]; exact ⟨Or.inl rfl, rfl, fun _ => s.lo (j := 2) (by decide)⟩
    rw [if_neg c0, if_neg c0]
    by_cases c1 : what = 1
    · rw [if_pos c1, if_pos c1]; exact ⟨Or.inl rfl, rfl, fun _ => by show v.1 10 - f 10 = z 13 - pg 13; rw [s13, e13]⟩
    rw [if_neg c1, if_neg c1]
    by_cases c2 : what = 2
    · rw [if_pos c2, if_pos c2]; exact ⟨Or.inl rfl, rfl, fun _ => s.lo (j := 7) (by decide)⟩
    rw [if_neg c2, if_neg c2]
    rcases s.stk with k | k
    · rw [if_pos k]; exact ⟨Or.inl rfl, rfl, fun _ => by show 0 = z 11; rw [s11, k]⟩
    · rw [if_neg (by rw [k]; decide)]; exact ⟨Or.inl rfl, rfl, fun _ => by show 1 = z 11; rw [s11, k]⟩
  · rw [if_neg a, if_pos b]
    exact ⟨Or.inr rfl, rfl, fun q => absurd q (show ¬ (1 : Int32) = 0 by decide)⟩
end Q5
