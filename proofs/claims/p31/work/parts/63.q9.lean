/-! scripts -/
theorem wl_0 (sc : Int64) : P_X3_withoutLast sc 0 = sc := rfl
theorem wl_1 (sc : Int64) : P_X3_withoutLast sc 1 = sc / 100000 := rfl
theorem wl_2 (sc : Int64) : P_X3_withoutLast sc 2 = sc / 100000 / 100000 := rfl
theorem wl_3 (sc : Int64) : P_X3_withoutLast sc 3 = sc / 100000 / 100000 / 100000 := rfl
theorem z5 : (100000 : Int64).toInt = 100000 := by decide
theorem ld5 {x : Int64} (h : 0 ≤ x.toInt) : (x / 100000).toInt = x.toInt / 100000 := by
  have := l_div (x := x) (y := 100000) h (by decide)
  rwa [z5] at this
theorem lm5 {x : Int64} (h : 0 ≤ x.toInt) : (x - x / 100000 * 100000).toInt = x.toInt % 100000 := by
  have := l_mod (x := x) (y := 100000) h (by decide)
  rwa [z5] at this
/-- where a script stands: j groups to go -/
def SJ (sc v4 v6 : Int64) (nn v8 : Int32) (j : Nat) : Prop := j ≤ 3 ∧ v4.toInt = 100000 ^ j ∧ v8.toInt + j = nn.toInt ∧ v6.toInt = sc.toInt % 100000 ^ j
theorem sj_step {sc v4 v6 : Int64} {nn v8 : Int32} {j : Nat} (hs : 0 ≤ sc.toInt) (h0 : 0 ≤ v8.toInt) (hn : nn.toInt ≤ 3) (h : SJ sc v4 v6 nn v8 (j + 1)) :
    (P_X3_withoutLast sc ((nn - 1) - v8) - P_X3_withoutLast sc ((nn - 1) - v8) / 100000 * 100000) = v6 / (v4 / 100000) ∧ (0 ≤ (v6 / (v4 / 100000)).toInt32.toInt ∧ (v6 / (v4 / 100000)).toInt32.toInt ≤ 99999) ∧ SJ sc (v4 / 100000) (v6 - v6 / (v4 / 100000) * (v4 / 100000)) nn (v8 + 1) j := by
  obtain ⟨hj, h4, h8, h6⟩ := h
  have z1 : (1 : Int32).toInt = 1 := by decide
  have a1 := toI_sub (a := nn) (b := 1) (by omega) (by omega)
  have a2 := toI_sub (a := nn - 1) (b := v8) (by omega) (by omega)
  have a3 := toI_add (a := v8) (b := 1) (by omega) (by omega)
  have p4 : 0 ≤ v4.toInt := by rw [h4]; exact Int.pow_nonneg (by decide)
  have d4 := ld5 p4
  have e1 := ld5 hs
  have fin : ∀ (A B : Int) (w : Int64), v4.toInt = A * 100000 → 0 < A → v6.toInt = sc.toInt % (A * 100000) → (sc.toInt % (A * 100000)) / A = w.toInt % 100000 → 0 ≤ w.toInt → (sc.toInt % (A * 100000)) % A = sc.toInt % A → P_X3_withoutLast sc ((nn - 1) - v8) = w → (0 ≤ (sc.toInt % (A * 100000)) / A ∧ (sc.toInt % (A * 100000)) / A ≤ 99999) →
      (P_X3_withoutLast sc ((nn - 1) - v8) - P_X3_withoutLast sc ((nn - 1) - v8) / 100000 * 100000) = v6 / (v4 / 100000) ∧ (0 ≤ (v6 / (v4 / 100000)).toInt32.toInt ∧ (v6 / (v4 / 100000)).toInt32.toInt ≤ 99999) ∧ (v4 / 100000).toInt = A ∧ (v6 - v6 / (v4 / 100000) * (v4 / 100000)).toInt = sc.toInt % A := by
    intro A B w q1 q2 q3 q4 q5 q6 q7 q8
    have d5 : (v4 / 100000).toInt = A := by rw [d4, q1]; exact Int.mul_ediv_cancel _ (by decide)
    have p6 : 0 ≤ v6.toInt := by rw [q3]; exact Int.emod_nonneg _ (by omega)
    have d6 := l_div (x := v6) (y := v4 / 100000) p6 (by omega)
    have d7 := l_mod (x := v6) (y := v4 / 100000) p6 (by omega)
    rw [d5, q3] at d6 d7
    rw [q7]
    have m := lm5 q5
    have e2 : (v6 / (v4 / 100000)).toInt32.toInt = (v6 / (v4 / 100000)).toInt := by
      rw [Int64.toInt_toInt32]
      apply Int.bmod_eq_of_le <;> omega
    refine ⟨Int64.toInt_inj.mp (by rw [m, d6, q4]), ⟨by omega, by omega⟩, d5, by rw [d7, q6]⟩
  have hj3 : j = 0 ∨ j = 1 ∨ j = 2 := by omega
  rcases hj3 with rfl | rfl | rfl
  · have ek : (nn - 1) - v8 = 0 := Int32.toInt_inj.mp (by rw [show (0 : Int32).toInt = 0 by decide]; omega)
    obtain ⟨r1, r2, r3, r4⟩ := fin 1 0 sc (by rw [h4]; decide) (by decide) (by rw [h6]; rfl) (by omega) hs (by omega) (by rw [ek]; exact wl_0 sc) ⟨by omega, by omega⟩
    exact ⟨r1, r2, by omega, by rw [r3]; rfl, by omega, by rw [r4]; rfl⟩
  · have ek : (nn - 1) - v8 = 1 := Int32.toInt_inj.mp (by omega)
    obtain ⟨r1, r2, r3, r4⟩ := fin 100000 0 (sc / 100000) (by rw [h4]; decide) (by decide) (by rw [h6]; rfl) (by rw [e1]; omega) (by omega) (by omega) (by rw [ek]; exact wl_1 sc) ⟨by omega, by omega⟩
    exact ⟨r1, r2, by omega, by rw [r3]; rfl, by omega, by rw [r4]; rfl⟩
  · have ek : (nn - 1) - v8 = 2 := Int32.toInt_inj.mp (by rw [show (2 : Int32).toInt = 2 by decide]; omega)
    have e2 := ld5 (x := sc / 100000) (by omega)
    obtain ⟨r1, r2, r3, r4⟩ := fin 10000000000 0 (sc / 100000 / 100000) (by rw [h4]; decide) (by decide) (by rw [h6]; rfl) (by rw [e2, e1]; omega) (by omega) (by omega) (by rw [ek]; exact wl_2 sc) ⟨by omega, by omega⟩
    exact ⟨r1, r2, by omega, by rw [r3]; rfl, by omega, by rw [r4]; rfl⟩
theorem rs_lp (bf f oh lf ce pn mf : Nat → Int32) (nn : Int32) (sc : Int64) (hs : 0 ≤ sc.toInt) (hn3 : nn.toInt ≤ 3) : ∀ (n : Nat) (v4 v6 : Int64) (v8 : Int32) (j : Nat) (ft oht lft cet pt : Nat → Int32), SR ft oht lft cet pt → 0 ≤ v8.toInt → SJ sc v4 v6 nn v8 j → (nn.toInt - v8.toInt).toNat < n →
    (P_X3_runScript_59 bf f oh lf ce nn sc n v8 ft oht lft cet).1 = 0 ∧ (P_X3_runScript_59 bf f oh lf ce nn sc n v8 ft oht lft cet).2.1 = (P_X4_runScript_84 pn nn sc n v4 v6 v8 mf pt).1 ∧ (P_X4_runScript_84 pn nn sc n v4 v6 v8 mf pt).2.1 = mf := by
  intro n
  induction n with
  | zero => intro v4 v6 v8 j ft oht lft cet pt _ _ _ hn; omega
  | succ n ih =>
    intro v4 v6 v8 j ft oht lft cet pt h h0 hj hn
    have E1 : P_X3_runScript_59 bf f oh lf ce nn sc (n + 1) v8 ft oht lft cet = (if nn ≤ v8 then (0, (-9999), ft, oht, lft, cet) else (if (P_X3_succeeds bf ft oht lft cet ((((P_X3_withoutLast sc ((nn - 1) - v8)) - (P_X3_withoutLast sc ((nn - 1) - v8)) / 100000 * 100000)).toInt32)).1 = 0 then (0, v8, (P_X3_succeeds bf ft oht lft cet ((((P_X3_withoutLast sc ((nn - 1) - v8)) - (P_X3_withoutLast sc ((nn - 1) - v8)) / 100000 * 100000)).toInt32)).2.1, oht, (P_X3_succeeds bf ft oht lft cet ((((P_X3_withoutLast sc ((nn - 1) - v8)) - (P_X3_withoutLast sc ((nn - 1) - v8)) / 100000 * 100000)).toInt32)).2.2.1, (P_X3_succeeds bf ft oht lft cet ((((P_X3_withoutLast sc ((nn - 1) - v8)) - (P_X3_withoutLast sc ((nn - 1) - v8)) / 100000 * 100000)).toInt32)).2.2.2) else (P_X3_runScript_59 bf f oh lf ce nn sc n (v8 + 1) (P_X3_succeeds bf ft oht lft cet ((((P_X3_withoutLast sc ((nn - 1) - v8)) - (P_X3_withoutLast sc ((nn - 1) - v8)) / 100000 * 100000)).toInt32)).2.1 oht (P_X3_succeeds bf ft oht lft cet ((((P_X3_withoutLast sc ((nn - 1) - v8)) - (P_X3_withoutLast sc ((nn - 1) - v8)) / 100000 * 100000)).toInt32)).2.2.1 (P_X3_succeeds bf ft oht lft cet ((((P_X3_withoutLast sc ((nn - 1) - v8)) - (P_X3_withoutLast sc ((nn - 1) - v8)) / 100000 * 100000)).toInt32)).2.2.2))) := rfl
    have E2 : P_X4_runScript_84 pn nn sc (n + 1) v4 v6 v8 mf pt = (if nn ≤ v8 then ((-9999), mf, pt) else (if (P_X4_does mf pt (((v6 / (v4 / 100000))).toInt32 / 10000) (((v6 / (v4 / 100000))).toInt32 - ((v6 / (v4 / 100000))).toInt32 / 10000 * 10000)).1 = 0 then (v8, mf, (P_X4_does mf pt (((v6 / (v4 / 100000))).toInt32 / 10000) (((v6 / (v4 / 100000))).toInt32 - ((v6 / (v4 / 100000))).toInt32 / 10000 * 10000)).2) else (P_X4_runScript_84 pn nn sc n (v4 / 100000) (v6 - v6 / (v4 / 100000) * (v4 / 100000)) (v8 + 1) mf (P_X4_does mf pt (((v6 / (v4 / 100000))).toInt32 / 10000) (((v6 / (v4 / 100000))).toInt32 - ((v6 / (v4 / 100000))).toInt32 / 10000 * 10000)).2))) := rfl
    rw [E1, E2]
    clear E1 E2
    by_cases c : nn ≤ v8
    · rw [if_pos c, if_pos c]; exact ⟨rfl, rfl, rfl⟩
    · rw [if_neg c, if_neg c]
      have hmu := mu_up c
      rw [Int32.le_iff_toInt_le] at c
      obtain ⟨i, rfl⟩ : ∃ i, j = i + 1 := ⟨j - 1, by obtain ⟨-, -, h8, -⟩ := hj; omega⟩
      obtain ⟨s1, s2, s3⟩ := sj_step hs h0 hn3 hj
      rw [s1]
      obtain ⟨d1, d2⟩ := sr_does h bf mf s2
      generalize (v6 / (v4 / 100000)).toInt32 = g at *
      generalize P_X3_succeeds bf ft oht lft cet g = u at *
      generalize P_X4_does mf pt (g / 10000) (g - g / 10000 * 10000) = w at *
      have z1 : (1 : Int32).toInt = 1 := by decide
      have a3 := toI_add (a := v8) (b := 1) (by omega) (by omega)
      by_cases c2 : w.1 = 0
      · rw [if_pos c2, if_pos (d1.trans c2)]; exact ⟨rfl, rfl, rfl⟩
      · rw [if_neg c2, if_neg (fun q => c2 (d1.symm.trans q))]
        exact ih _ _ _ i _ _ _ _ _ d2 (by omega) s3 (by omega)
theorem q_runScript {f oh lf ce pg : Nat → Int32} (h : SR f oh lf ce pg) (bf mf ft oht lft cet pt : Nat → Int32) (nn : Int32) (sc : Int64) : QM 1 (P_X3_runScript bf f oh lf ce ft oht lft cet nn sc).1 (P_X4_runScript mf pg pt nn sc).1 (P_X3_runScript bf f oh lf ce ft oht lft cet nn sc).2.1 (P_X4_runScript mf pg pt nn sc).2.1 mf := by
  have tr := sr_trial h ft oht lft cet pt
  have zl0 : (0 : Int64).toInt = 0 := by decide
  have z1 : (1 : Int32).toInt = 1 := by decide
  have z3 : (3 : Int32).toInt = 3 := by decide
  have key : ∀ (al hi : Int64) (j : Nat), nn.toInt = j → j ≤ 3 → al.toInt = 100000 ^ j → hi.toInt = 100000 ^ j - 1 → P_X3_outside nn 1 3 = 0 → ¬ P_X4_in nn.toInt64 1 3 = 0 → (0 ≤ sc.toInt → (P_X3_withoutLast sc nn).toInt = sc.toInt / 100000 ^ j) → P_X4_runScript mf pg pt nn sc = (if P_X4_in sc 0 hi = 0 then (0, upd mf 0 1, pt) else P_X4_runScript_84 pg nn sc (((nn).toInt - (0 : Int32).toInt).toNat + 1) al sc 0 (upd mf 0 0) (P_X4_copyPage 101 101 pg pt 0 0)) →
      QM 1 (P_X3_runScript bf f oh lf ce ft oht lft cet nn sc).1 (P_X4_runScript mf pg pt nn sc).1 (P_X3_runScript bf f oh lf ce ft oht lft cet nn sc).2.1 (P_X4_runScript mf pg pt nn sc).2.1 mf := by
    intro al hi j hj hj3 hal hhi ho hin hw E2
    have E1 : P_X3_runScript bf f oh lf ce ft oht lft cet nn sc = (if lg_cmp sc 0 < 0 then (1, 0, ft, oht, lft, cet) else (if lg_cmp (P_X3_withoutLast sc nn) 0 = 0 then P_X3_runScript_59 bf f oh lf ce nn sc (((nn).toInt - (0 : Int32).toInt).toNat + 1) 0 (P_X1_copyFrom ft oht lft cet f oh lf ce).1 (P_X1_copyFrom ft oht lft cet f oh lf ce).2.1 (P_X1_copyFrom ft oht lft cet f oh lf ce).2.2.1 (P_X1_copyFrom ft oht lft cet f oh lf ce).2.2.2 else (1, 0, ft, oht, lft, cet))) := if_pos ho
    rw [E1, E2]
    have pw : (0 : Int) < 100000 ^ j := Int.pow_pos (by decide)
    have bad : ∀ q : P_X4_in sc 0 hi = 0, QM 1 ((1 : Int32), (0 : Int32), ft, oht, lft, cet).1 (if P_X4_in sc 0 hi = 0 then (0, upd mf 0 1, pt) else P_X4_runScript_84 pg nn sc (((nn).toInt - (0 : Int32).toInt).toNat + 1) al sc 0 (upd mf 0 0) (P_X4_copyPage 101 101 pg pt 0 0)).1 ((1 : Int32), (0 : Int32), ft, oht, lft, cet).2.1 (if P_X4_in sc 0 hi = 0 then (0, upd mf 0 1, pt) else P_X4_runScript_84 pg nn sc (((nn).toInt - (0 : Int32).toInt).toNat + 1) al sc 0 (upd mf 0 0) (P_X4_copyPage 101 101 pg pt 0 0)).2.1 mf := fun q => by
      rw [if_pos q]
      exact ⟨Or.inr rfl, rfl, fun q => absurd q (show ¬ (1 : Int32) = 0 by decide)⟩
    by_cases c1 : lg_cmp sc 0 < 0
    · rw [if_pos c1]
      rw [cmp_lt, Int64.lt_iff_toInt_lt, zl0] at c1
      refine bad ?_
      by_cases q : P_X4_in sc 0 hi = 0
      · exact q
      · have := in_1 q
        omega
    · rw [if_neg c1]
      rw [cmp_lt, Int64.lt_iff_toInt_lt, zl0] at c1
      have hs : 0 ≤ sc.toInt := by omega
      have hw' := hw hs
      by_cases c2 : lg_cmp (P_X3_withoutLast sc nn) 0 = 0
      · rw [if_pos c2]
        have c3 : (P_X3_withoutLast sc nn).toInt = 0 := by
          rcases cmp_3 (P_X3_withoutLast sc nn) 0 with ⟨a, b⟩ | ⟨a, b⟩ | ⟨a, b⟩
          · rw [b] at c2; exact absurd c2 (by decide)
          · rw [a]; exact zl0
          · rw [b] at c2; exact absurd c2 (by decide)
        rw [hw'] at c3
        have lt : sc.toInt < 100000 ^ j := by
          have := Int.lt_mul_ediv_self_add (x := sc.toInt) pw
          rw [c3, Int.mul_zero, Int.zero_add] at this
          exact this
        have ni : ¬ P_X4_in sc 0 hi = 0 := fun q => in_0 q ⟨by omega, by omega⟩
        rw [if_neg ni]
        obtain ⟨k1, k2, k3⟩ := rs_lp bf f oh lf ce pg (upd mf 0 0) nn sc hs (by omega) (((nn).toInt - (0 : Int32).toInt).toNat + 1) al sc 0 j _ _ _ _ _ tr (by decide) ⟨hj3, hal, by rw [show (0 : Int32).toInt = 0 by decide]; omega, (Int.emod_eq_of_lt hs lt).symm⟩ (Nat.lt_succ_self _)
        refine ⟨Or.inl k1, ?_, fun _ => k2⟩
        rw [k1, k3]
        rfl
      · rw [if_neg c2]
        refine bad ?_
        by_cases q : P_X4_in sc 0 hi = 0
        · exact q
        · have b := in_1 q
          exfalso
          apply c2
          have : (P_X3_withoutLast sc nn).toInt = 0 := by
            rw [hw']
            exact Int.ediv_eq_zero_of_lt hs (by omega)
          have e : P_X3_withoutLast sc nn = 0 := Int64.toInt_inj.mp (this.trans zl0.symm)
          rw [e]
          decide
  rcases io (v := nn) (lo := 1) (hi := 3) (l := 1) (h := 3) (by decide) (by decide) with ⟨a, b, c, d⟩ | ⟨a, b⟩
  · by_cases n1 : nn = 1
    · have n1' : nn.toInt = 1 := by rw [n1]; decide
      refine key 100000 (100000 - 1) 1 n1' (by decide) (by decide) (by decide) a b (fun hs => ?_) ((if_pos n1).trans (if_neg b))
      rw [n1, wl_1]; exact ld5 hs
    · by_cases n2 : nn = 2
      · have n2' : nn.toInt = 2 := by rw [n2]; decide
        refine key 10000000000 (10000000000 - 1) 2 n2' (by decide) (by decide) (by decide) a b (fun hs => ?_) ((if_neg n1).trans ((if_pos n2).trans (if_neg b)))
        have e1 := ld5 hs
        rw [n2, wl_2, ld5 (by omega), e1, Int.ediv_ediv_of_nonneg (by decide)]
        rfl
      · have n3' : nn.toInt = 3 := by
          have h1 : ¬ nn.toInt = 1 := fun q => n1 (Int32.toInt_inj.mp (q.trans (by decide)))
          have h2 : ¬ nn.toInt = 2 := fun q => n2 (Int32.toInt_inj.mp (q.trans (by decide)))
          omega
        have n3 : nn = 3 := Int32.toInt_inj.mp (n3'.trans (by decide))
        refine key 1000000000000000 (1000000000000000 - 1) 3 n3' (by decide) (by decide) (by decide) a b (fun hs => ?_) ((if_neg n1).trans ((if_neg n2).trans (if_neg b)))
        have e1 := ld5 hs
        have e2 := ld5 (x := sc / 100000) (by omega)
        rw [n3, wl_3, ld5 (by omega), e2, e1, Int.ediv_ediv_of_nonneg (by decide), Int.ediv_ediv_of_nonneg (by decide)]
        rfl
  · have E1 : P_X3_runScript bf f oh lf ce ft oht lft cet nn sc = (1, 0, ft, oht, lft, cet) := if_neg a
    have E2 : P_X4_runScript mf pg pt nn sc = (0, upd mf 0 1, pt) := by
      unfold P_X4_runScript
      by_cases n1 : nn = 1
      · rw [if_pos n1]; exact if_pos b
      · rw [if_neg n1]
        by_cases n2 : nn = 2
        · rw [if_pos n2]; exact if_pos b
        · rw [if_neg n2]; exact if_pos b
    rw [E1, E2]
    exact ⟨Or.inr rfl, rfl, fun q => absurd q (show ¬ (1 : Int32) = 0 by decide)⟩
