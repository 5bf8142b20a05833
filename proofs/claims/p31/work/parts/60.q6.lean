/-! answers alike: the simulation -/
def rnx (x : Int64) : Int64 := (x * 6364136223846793005) + 1442695040888963407
def rnr (y : Int64) : Int32 := (((y).toUInt64 >>> ((33 : Int32).toInt64.toUInt64 &&& Int64.toUInt64 63)).toInt64).toInt32
theorem simE1 (bf f oh lf ce : Nat → Int32) (sd : Int64) (mm : Int32) (n : Nat) (x : Int64) (s v7 : Int32) (ft oht lft cet : Nat → Int32) : P_X3_simulate_40 bf f oh lf ce sd mm (n + 1) x s v7 ft oht lft cet = (if mm ≤ v7 then (0, s, ft, oht, lft, cet) else (P_X3_simulate_40 bf f oh lf ce sd mm n (rnx x) (s + (P_X3_playRound bf ft oht lft cet (rnr (rnx x))).1) (v7 + 1) (P_X3_playRound bf ft oht lft cet (rnr (rnx x))).2.1 oht (P_X3_playRound bf ft oht lft cet (rnr (rnx x))).2.2.1 (P_X3_playRound bf ft oht lft cet (rnr (rnx x))).2.2.2)) := rfl
theorem simE2 (pn mf : Nat → Int32) (sd : Int64) (mm : Int32) (n : Nat) (x : Int64) (s v7 : Int32) (pt : Nat → Int32) : P_X4_simulate_48 pn sd mm (n + 1) x s v7 mf pt = (if mm ≤ v7 then (s, mf, pt) else (if (rnr (rnx x)) - (rnr (rnx x)) / 4 * 4 = 0 then P_X4_simulate_48 pn sd mm n (rnx x) s (v7 + 1) mf (upd pt 2 (((rnr (rnx x)) / 4) - ((rnr (rnx x)) / 4) / 10000 * 10000)) else (if (rnr (rnx x)) - (rnr (rnx x)) / 4 * 4 = 1 then P_X4_simulate_48 pn sd mm n (rnx x) s (v7 + 1) mf (P_X4_waitOn pt 1) else (if pt 11 = 1 then P_X4_simulate_48 pn sd mm n (rnx x) s (v7 + 1) mf (P_X4_freeOn pt) else (if ((rnr (rnx x)) / 4) - ((rnr (rnx x)) / 4) / 2 * 2 = 1 then P_X4_simulate_48 pn sd mm n (rnx x) (s + (P_X4_pressOn pt 1).1) (v7 + 1) mf (P_X4_pressOn pt 1).2 else P_X4_simulate_48 pn sd mm n (rnx x) (s + (P_X4_pressOn pt 0).1) (v7 + 1) mf (P_X4_pressOn pt 0).2))))) := rfl
theorem rb_rnr (x : Int64) : RB ((rnr x / 4) - (rnr x / 4) / 10000 * 10000) := rb_r x
theorem plE0 (bf ft oht lft cet : Nat → Int32) (r : Int32) (c0 : r - r / 4 * 4 = 0) : P_X3_playRound bf ft oht lft cet r = (0, (upd ft 2 ((r / 4) - (r / 4) / 10000 * 10000)), lft, cet) := if_pos c0
theorem plE1 (bf ft oht lft cet : Nat → Int32) (r : Int32) (c0 : ¬ r - r / 4 * 4 = 0) (c1 : r - r / 4 * 4 = 1) : P_X3_playRound bf ft oht lft cet r = (0, P_X1_waitTicks ft 1, lft, cet) := (if_neg c0).trans (if_pos c1)
theorem plE2 (bf ft oht lft cet : Nat → Int32) (r : Int32) (c0 : ¬ r - r / 4 * 4 = 0) (c1 : ¬ r - r / 4 * 4 = 1) : P_X3_playRound bf ft oht lft cet r = (if ft 9 = 0 then (if ((r / 4) - (r / 4) / 2 * 2) = 1 then ((P_X1_pressKey ft oht lft cet 1).1, (P_X1_pressKey ft oht lft cet 1).2.1, (P_X1_pressKey ft oht lft cet 1).2.2.1, (P_X1_pressKey ft oht lft cet 1).2.2.2) else ((P_X1_pressKey ft oht lft cet 0).1, (P_X1_pressKey ft oht lft cet 0).2.1, (P_X1_pressKey ft oht lft cet 0).2.2.1, (P_X1_pressKey ft oht lft cet 0).2.2.2)) else (0, P_X1_loosen ft, lft, cet)) := (if_neg c0).trans (if_neg c1)
theorem sim_lp (bf f oh lf ce pn mf : Nat → Int32) (sd : Int64) (mm : Int32) : ∀ (n : Nat) (x : Int64) (s v7 : Int32) (ft oht lft cet pt : Nat → Int32), SR ft oht lft cet pt → (mm.toInt - v7.toInt).toNat < n →
    (P_X3_simulate_40 bf f oh lf ce sd mm n x s v7 ft oht lft cet).1 = 0 ∧ (P_X3_simulate_40 bf f oh lf ce sd mm n x s v7 ft oht lft cet).2.1 = (P_X4_simulate_48 pn sd mm n x s v7 mf pt).1 ∧ (P_X4_simulate_48 pn sd mm n x s v7 mf pt).2.1 = mf := by
  intro n
  induction n with
  | zero => intro x s v7 ft oht lft cet pt _ hn; omega
  | succ n ih =>
    intro x s v7 ft oht lft cet pt h hn
    have rb := rb_rnr (rnx x)
    rw [simE1, simE2]
    generalize rnx x = y at *
    generalize rnr y = r at *
    by_cases c : mm ≤ v7
    · rw [if_pos c, if_pos c]; exact ⟨rfl, rfl, rfl⟩
    have hmu := mu_up c
    have hn2 : (mm.toInt - (v7 + 1).toInt).toNat < n := by omega
    rw [if_neg c, if_neg c]
    by_cases c0 : r - r / 4 * 4 = 0
    · rw [if_pos c0, plE0 bf ft oht lft cet r c0, Int32.add_zero]
      exact ih y s (v7 + 1) _ _ _ _ _ (sr_r h rb) hn2
    rw [if_neg c0]
    by_cases c1 : r - r / 4 * 4 = 1
    · rw [if_pos c1, plE1 bf ft oht lft cet r c0 c1, Int32.add_zero]
      exact ih y s (v7 + 1) _ _ _ _ _ (sr_wait h 1) hn2
    rw [if_neg c1, plE2 bf ft oht lft cet r c0 c1]
    have e11 : pt 11 = ft 9 := h.2.1.2.2.1
    rcases h.stk with k | k
    · rw [if_neg (show ¬ pt 11 = 1 by rw [e11, k]; decide), if_pos k]
      by_cases c2 : r / 4 - r / 4 / 2 * 2 = 1
      · obtain ⟨p1, p2⟩ := sr_press h 1
        rw [if_pos c2, if_pos c2, p1]
        exact ih y _ (v7 + 1) _ _ _ _ _ p2 hn2
      · obtain ⟨p1, p2⟩ := sr_press h 0
        rw [if_neg c2, if_neg c2, p1]
        exact ih y _ (v7 + 1) _ _ _ _ _ p2 hn2
    · rw [if_pos (show pt 11 = 1 by rw [e11, k]), if_neg (show ¬ ft 9 = 0 by rw [k]; decide), Int32.add_zero]
      exact ih y s (v7 + 1) _ _ _ _ _ (sr_free h) hn2
theorem q_simulate {f oh lf ce pg : Nat → Int32} (h : SR f oh lf ce pg) (bf mf ft oht lft cet pt : Nat → Int32) (sd : Int64) (mm : Int32) : QM 1 (P_X3_simulate bf f oh lf ce ft oht lft cet sd mm).1 (P_X4_simulate mf pg pt sd mm).1 (P_X3_simulate bf f oh lf ce ft oht lft cet sd mm).2.1 (P_X4_simulate mf pg pt sd mm).2.1 mf := by
  have tr := sr_trial h ft oht lft cet pt
  rcases io (v := mm) (lo := 1) (hi := 99) (l := 1) (h := 99) (by decide) (by decide) with ⟨a, b, c, d⟩ | ⟨a, b⟩
  · have E1 : P_X3_simulate bf f oh lf ce ft oht lft cet sd mm = P_X3_simulate_40 bf f oh lf ce sd mm (((mm).toInt - (0 : Int32).toInt).toNat + 1) sd 0 0 (P_X1_copyFrom ft oht lft cet f oh lf ce).1 (P_X1_copyFrom ft oht lft cet f oh lf ce).2.1 (P_X1_copyFrom ft oht lft cet f oh lf ce).2.2.1 (P_X1_copyFrom ft oht lft cet f oh lf ce).2.2.2 := if_pos a
    have E2 : P_X4_simulate mf pg pt sd mm = P_X4_simulate_48 pg sd mm (((mm).toInt - (0 : Int32).toInt).toNat + 1) sd 0 0 (upd mf 0 0) (P_X4_copyPage 101 101 pg pt 0 0) := if_neg b
    rw [E1, E2]
    obtain ⟨k1, k2, k3⟩ := sim_lp bf f oh lf ce pg (upd mf 0 0) sd mm (((mm).toInt - (0 : Int32).toInt).toNat + 1) sd 0 0 _ _ _ _ _ tr (Nat.lt_succ_self _)
    refine ⟨Or.inl k1, ?_, fun _ => k2⟩
    rw [k1, k3]
    rfl
  · have E1 : P_X3_simulate bf f oh lf ce ft oht lft cet sd mm = (1, 0, ft, oht, lft, cet) := if_neg a
    have E2 : P_X4_simulate mf pg pt sd mm = (0, upd mf 0 1, pt) := if_pos b
    rw [E1, E2]
    exact ⟨Or.inr rfl, rfl, fun q => absurd q (show ¬ (1 : Int32) = 0 by decide)⟩
