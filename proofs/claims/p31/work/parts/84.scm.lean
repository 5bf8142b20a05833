/-! scripts and simulations, by what they say -/
theorem ladd_i {a b : Int64} (h1 : -9223372036854775808 ≤ a.toInt + b.toInt) (h2 : a.toInt + b.toInt < 9223372036854775808) : (a + b).toInt = a.toInt + b.toInt := by
  rw [Int64.toInt_add]
  apply Int.bmod_eq_of_le <;> omega
theorem w32 (x : Int32) : x.toInt64.toInt = x.toInt := Int32.toInt_toInt64 x
abbrev U0 (pg : Pg) : Pg := P_X4_copyPage 101 101 pg z0 0 0
theorem u0_j {pg : Pg} {j : Nat} (hj : j < 101) : U0 pg j = pg j := copy_00 rfl hj
abbrev dz (pg : Pg) (how four : Int32) : Int32 × Pg := P_X4_does (upd z0 0 0) (U0 pg) how four
theorem grp_i {sc a : Int64} {g : Int32} (ha : a.toInt = 1) (h : sc.toInt = g.toInt) : (sc / a).toInt32 = g := by
  have e : (sc / a).toInt = sc.toInt := by
    have hb := g.toInt_lt
    have hb2 := g.le_toInt
    have ne : ¬ a = -1 := fun q => by rw [q] at ha; exact absurd ha (by decide)
    rw [Int64.toInt_div_of_ne_right _ _ ne, ha, Int.tdiv_one]
  refine Int32.toInt_inj.mp ?_
  rw [Int64.toInt_toInt32, e, h]
  have hb := g.toInt_lt
  have hb2 := g.le_toInt
  apply Int.bmod_eq_of_le <;> omega
theorem g_hf {how four g : Int32} (h : g.toInt = 10000 * how.toInt + four.toInt) (h1 : 0 ≤ how.toInt) (h2 : 0 ≤ four.toInt ∧ four.toInt ≤ 9999) : g / 10000 = how ∧ g - g / 10000 * 10000 = four := by
  have z : (10000 : Int32).toInt = 10000 := by decide
  have d := i32_div_i (a := g) (b := 10000) (by omega) (by decide)
  have m := i32_mod (g := g) (k := 10000) (by omega) (by decide)
  rw [z] at d m
  exact ⟨Int32.toInt_inj.mp (by omega), Int32.toInt_inj.mp (by omega)⟩
/-- a script of one group -/
theorem sc_1 {pg : Pg} {sc : Int64} {how four : Int32} (h : sc.toInt = 10000 * how.toInt + four.toInt) (h1 : 0 ≤ how.toInt ∧ how.toInt ≤ 9) (h2 : 0 ≤ four.toInt ∧ four.toInt ≤ 9999) : aQ 1 ((P_X4_runScript z0 pg z0 1 sc).1, (P_X4_runScript z0 pg z0 1 sc).2.1) = (if (dz pg how four).1 = 0 then 0 else -9999) := by
  unfold P_X4_runScript
  dsimp only
  have zl : (0 : Int64).toInt = 0 := by decide
  have zh : (100000 - 1 : Int64).toInt = 99999 := by decide
  rw [if_pos rfl, if_neg (by decide), if_neg (in_yes (by rw [zl]; omega) (by rw [zh]; omega))]
  obtain ⟨g, hg⟩ : ∃ g : Int32, g.toInt = sc.toInt := ⟨Int32.ofInt sc.toInt, Int32.toInt_ofInt_of_le (by omega) (by omega)⟩
  have e := grp_i (a := 100000 / 100000) (by decide) hg.symm
  obtain ⟨e1, e2⟩ := g_hf (by rw [hg]; exact h) h1.1 h2
  rw [e1] at e2
  have E : P_X4_runScript_84 pg 1 sc (((1 : Int32).toInt - (0 : Int32).toInt).toNat + 1) 100000 sc 0 (upd z0 0 0) (U0 pg) = (if (P_X4_does (upd z0 0 0) (U0 pg) ((sc / (100000 / 100000)).toInt32 / 10000) ((sc / (100000 / 100000)).toInt32 - (sc / (100000 / 100000)).toInt32 / 10000 * 10000)).1 = 0 then (0, upd z0 0 0, (P_X4_does (upd z0 0 0) (U0 pg) ((sc / (100000 / 100000)).toInt32 / 10000) ((sc / (100000 / 100000)).toInt32 - (sc / (100000 / 100000)).toInt32 / 10000 * 10000)).2) else (-9999, upd z0 0 0, (P_X4_does (upd z0 0 0) (U0 pg) ((sc / (100000 / 100000)).toInt32 / 10000) ((sc / (100000 / 100000)).toInt32 - (sc / (100000 / 100000)).toInt32 / 10000 * 10000)).2)) := by
    refine (if_neg (by decide)).trans ?_
    by_cases c : (P_X4_does (upd z0 0 0) (U0 pg) ((sc / (100000 / 100000)).toInt32 / 10000) ((sc / (100000 / 100000)).toInt32 - (sc / (100000 / 100000)).toInt32 / 10000 * 10000)).1 = 0
    · exact (if_pos c).trans (if_pos c).symm
    · exact (if_neg c).trans ((if_pos (by decide)).trans (if_neg c).symm)
  show aQ 1 ((P_X4_runScript_84 pg 1 sc (((1 : Int32).toInt - (0 : Int32).toInt).toNat + 1) 100000 sc 0 (upd z0 0 0) (U0 pg)).1, (P_X4_runScript_84 pg 1 sc (((1 : Int32).toInt - (0 : Int32).toInt).toNat + 1) 100000 sc 0 (upd z0 0 0) (U0 pg)).2.1) = _
  rw [E, e, e1, e2]
  by_cases c : (P_X4_does (upd z0 0 0) (U0 pg) how four).1 = 0
  · rw [if_pos c, if_pos c]; rfl
  · rw [if_neg c, if_neg c]; rfl
section DZ
variable {pg : Pg} {four : Int32}
theorem sc_no {sc : Int64} {how four : Int32} (h : sc.toInt = 10000 * how.toInt + four.toInt) (h1 : 0 ≤ how.toInt ∧ how.toInt ≤ 9) (h2 : 0 ≤ four.toInt ∧ four.toInt ≤ 9999) (hd : (dz pg how four).1 = 0) : aQ 1 ((P_X4_runScript z0 pg z0 1 sc).1, (P_X4_runScript z0 pg z0 1 sc).2.1) = 0 := by rw [sc_1 h h1 h2, if_pos hd]
theorem sc_ye {sc : Int64} {how four : Int32} (h : sc.toInt = 10000 * how.toInt + four.toInt) (h1 : 0 ≤ how.toInt ∧ how.toInt ≤ 9) (h2 : 0 ≤ four.toInt ∧ four.toInt ≤ 9999) (hd : (dz pg how four).1 = 1) : aQ 1 ((P_X4_runScript z0 pg z0 1 sc).1, (P_X4_runScript z0 pg z0 1 sc).2.1) = -9999 := by rw [sc_1 h h1 h2, hd, if_neg (by decide)]
theorem dz_1n (h : 1 < four / 1000 ∨ P_X4_in ((four - four / 1000 * 1000).toInt64) 1 99 = 0) : (dz pg 1 four).1 = 0 := by
  unfold dz P_X4_does
  rw [if_pos rfl]
  by_cases c : 1 < four / 1000
  · rw [if_pos c]
  · rw [if_neg c, if_pos (h.resolve_left c)]
theorem dz_11 : (dz pg 1 1).1 = if pg 11 = 1 then 0 else 1 := by
  have e := u0_j (pg := pg) (j := 11) (by decide)
  unfold dz P_X4_does
  rw [if_pos rfl, if_neg (by decide), if_neg (by decide)]
  show (if ((1 : Int32) - 1 / 1000 * 1000) ≤ 0 then (1, U0 pg) else (if (U0 pg) 11 = 1 then (0, U0 pg) else _)).1 = _
  rw [if_neg (by decide), e]
  by_cases c : pg 11 = 1
  · rw [if_pos c, if_pos c]
  · rw [if_neg c, if_neg c]
    rfl
theorem dz_2n (h : ¬ four / 1000 = 0 ∨ P_X4_in ((four - four / 1000 * 1000).toInt64) 1 200 = 0) : (dz pg 2 four).1 = 0 := by
  unfold dz P_X4_does
  rw [if_neg (by decide), if_pos rfl]
  by_cases c : four / 1000 = 0
  · rw [if_pos c, if_pos (h.resolve_left (fun q => q c))]
  · rw [if_neg c]
theorem dz_4n (h : four / 1000 = 2 ∨ 99 < (four - four / 1000 * 1000) ∨ P_X4_isSetting (four / 1000) (four - four / 1000 * 1000) = 0) : (dz pg 4 four).1 = 0 := by
  unfold dz P_X4_does
  rw [if_neg (by decide), if_neg (by decide), if_neg (by decide), if_pos rfl]
  by_cases c : four / 1000 = 2
  · rw [if_pos c]
  · rw [if_neg c]
    by_cases c2 : 99 < (four - four / 1000 * 1000)
    · rw [if_pos c2]
    · rw [if_neg c2, if_pos ((h.resolve_left c).resolve_left c2)]
theorem dz_4y (h1 : ¬ four / 1000 = 2) (h2 : ¬ 99 < (four - four / 1000 * 1000)) (h3 : ¬ P_X4_isSetting (four / 1000) (four - four / 1000 * 1000) = 0) : (dz pg 4 four).1 = 1 := by
  unfold dz P_X4_does
  rw [if_neg (by decide), if_neg (by decide), if_neg (by decide), if_pos rfl, if_neg h1, if_neg h2, if_neg h3]
theorem un_cg {a b : Pg} (h : a 9 = b 9) (i : Int32) : P_X4_isUnknown a i = P_X4_isUnknown b i := by
  unfold P_X4_isUnknown
  rw [h]
theorem dz_5n (h : (four - four / 1000 * 1000) = 0) (h2 : P_X4_isUnknown pg (four / 1000) = 0) : (dz pg 5 four).1 = 0 := by
  unfold dz P_X4_does
  rw [if_neg (by decide), if_neg (by decide), if_neg (by decide), if_neg (by decide), if_pos rfl, if_pos h, un_cg (u0_j (by decide)), if_pos h2]
theorem dz_60 : (dz pg 6 0).1 = if pg 11 = 1 then 0 else 1 := by
  have e := u0_j (pg := pg) (j := 11) (by decide)
  unfold dz P_X4_does
  rw [if_neg (by decide), if_neg (by decide), if_neg (by decide), if_neg (by decide), if_neg (by decide), if_pos rfl, if_pos rfl, e]
  by_cases c : pg 11 = 1
  · rw [if_pos c, if_pos c]
  · rw [if_neg c, if_neg c]
theorem dz_6n (h : ¬ four = 0) : (dz pg 6 four).1 = 0 := by
  unfold dz P_X4_does
  rw [if_neg (by decide), if_neg (by decide), if_neg (by decide), if_neg (by decide), if_neg (by decide), if_pos rfl, if_neg h]
theorem dz_7y (h : pg 2 = four) : (dz pg 7 four).1 = 1 := by
  unfold dz P_X4_does
  rw [if_neg (by decide), if_neg (by decide), if_neg (by decide), if_neg (by decide), if_neg (by decide), if_neg (by decide), if_pos rfl, u0_j (pg := pg) (j := 2) (by decide), if_pos h]
theorem dz_7n (h : ¬ pg 2 = four) : (dz pg 7 four).1 = 0 := by
  unfold dz P_X4_does
  rw [if_neg (by decide), if_neg (by decide), if_neg (by decide), if_neg (by decide), if_neg (by decide), if_neg (by decide), if_pos rfl, u0_j (pg := pg) (j := 2) (by decide), if_neg h]
theorem dz_8e (h : pg 12 ≤ 0) (h2 : ¬ 2 ≤ four / 1000) : (dz pg 8 four).1 = 0 := by
  unfold dz P_X4_does
  rw [if_neg (by decide), if_neg (by decide), if_neg (by decide), if_neg (by decide), if_neg (by decide), if_neg (by decide), if_neg (by decide), if_pos rfl, if_neg h2, u0_j (pg := pg) (j := 12) (by decide), if_pos h]
theorem dz_8 (h : ¬ pg 12 ≤ 0) (h2 : ¬ 2 ≤ four / 1000) : (dz pg 8 four).1 = if pg 21 = (if four / 1000 = 0 then (four - four / 1000 * 1000) else -(four - four / 1000 * 1000)) then 1 else 0 := by
  unfold dz P_X4_does
  rw [if_neg (by decide), if_neg (by decide), if_neg (by decide), if_neg (by decide), if_neg (by decide), if_neg (by decide), if_neg (by decide), if_pos rfl, if_neg h2, u0_j (pg := pg) (j := 12) (by decide), if_neg h]
  dsimp only
  rw [u0_j (pg := pg) (j := 21) (by decide)]
  by_cases c : four / 1000 = 0
  · rw [if_pos c, if_pos c]
    by_cases c2 : pg 21 = (four - four / 1000 * 1000)
    · rw [if_pos c2, if_pos c2]
    · rw [if_neg c2, if_neg c2]
  · rw [if_neg c, if_neg c]
    by_cases c2 : pg 21 = -(four - four / 1000 * 1000)
    · rw [if_pos c2, if_pos c2]
    · rw [if_neg c2, if_neg c2]
theorem of_u0 : P_X4_offsetOf (U0 pg) = P_X4_offsetOf pg := by
  unfold P_X4_offsetOf
  rw [u0_j (pg := pg) (j := 5) (by decide), u0_j (pg := pg) (j := 6) (by decide), u0_j (pg := pg) (j := 7) (by decide)]
theorem dz_9 (h : four / 1000 = 0) (h2 : ¬ 100 ≤ (four - four / 1000 * 1000)) : (dz pg 9 four).1 = if (four - four / 1000 * 1000) < P_X4_offsetOf pg then 0 else 1 := by
  unfold dz P_X4_does
  rw [if_neg (by decide), if_neg (by decide), if_neg (by decide), if_neg (by decide), if_neg (by decide), if_neg (by decide), if_neg (by decide), if_neg (by decide), if_pos rfl, if_neg (by rw [h]; decide), if_neg h2]
  dsimp only
  rw [if_pos h, of_u0]
  by_cases c : (four - four / 1000 * 1000) < P_X4_offsetOf pg
  · rw [if_pos c, if_pos c]
  · rw [if_neg c, if_neg c]
theorem dz_0 : (dz pg 0 four).1 = 0 := by
  unfold dz P_X4_does
  rw [if_neg (by decide), if_neg (by decide), if_neg (by decide), if_neg (by decide), if_neg (by decide), if_neg (by decide), if_neg (by decide), if_neg (by decide), if_neg (by decide)]
/-- two groups: the box is set and looked at -/
theorem sc_2 : aQ 1 ((P_X4_runScript z0 pg z0 2 3432174321).1, (P_X4_runScript z0 pg z0 2 3432174321).2.1) = -9999 := by
  unfold P_X4_runScript
  dsimp only
  rw [if_neg (by decide), if_pos rfl, if_neg (by decide), if_neg (by decide)]
  have D3 : ∀ (mf pt : Pg) (four : Int32), P_X4_does mf pt 3 four = (1, upd pt 2 four) := fun mf pt four => by
    unfold P_X4_does
    rw [if_neg (by decide), if_neg (by decide), if_pos rfl]
  have D7 : ∀ (mf pt : Pg) (four : Int32), P_X4_does mf (upd pt 2 four) 7 four = (1, upd pt 2 four) := fun mf pt four => by
    unfold P_X4_does
    rw [if_neg (by decide), if_neg (by decide), if_neg (by decide), if_neg (by decide), if_neg (by decide), if_neg (by decide), if_pos rfl, if_pos upd_me]
  have E : ∀ (mf U : Pg), P_X4_runScript_84 pg 2 3432174321 (((2 : Int32).toInt - (0 : Int32).toInt).toNat + 1) 10000000000 3432174321 0 mf U = (-9999, mf, upd U 2 4321) := fun mf U => by
    have s1 : P_X4_runScript_84 pg 2 3432174321 3 10000000000 3432174321 0 mf U = P_X4_runScript_84 pg 2 3432174321 2 100000 74321 1 mf (upd U 2 4321) := by
      show (if (2 : Int32) ≤ 0 then _ else _) = _
      rw [if_neg (by decide), show ((3432174321 / (10000000000 / 100000) : Int64)).toInt32 / 10000 = 3 by decide, show ((3432174321 / (10000000000 / 100000) : Int64)).toInt32 - 3 * 10000 = 4321 by decide, D3]
      dsimp only
      rw [if_neg (by decide), show (3432174321 - 3432174321 / (10000000000 / 100000) * (10000000000 / 100000) : Int64) = 74321 by decide, show (10000000000 / 100000 : Int64) = 100000 by decide]
      rfl
    have s2 : P_X4_runScript_84 pg 2 3432174321 2 100000 74321 1 mf (upd U 2 4321) = P_X4_runScript_84 pg 2 3432174321 1 1 0 2 mf (upd U 2 4321) := by
      show (if (2 : Int32) ≤ 1 then _ else _) = _
      rw [if_neg (by decide), show ((74321 / (100000 / 100000) : Int64)).toInt32 / 10000 = 7 by decide, show ((74321 / (100000 / 100000) : Int64)).toInt32 - 7 * 10000 = 4321 by decide, D7]
      dsimp only
      rw [if_neg (by decide), show (74321 - 74321 / (100000 / 100000) * (100000 / 100000) : Int64) = 0 by decide, show (100000 / 100000 : Int64) = 1 by decide]
      rfl
    exact s1.trans (s2.trans (if_pos (by decide)))
  rw [E]
  rfl
end DZ
/-! a simulation's sum -/
theorem rd_b (x : Int32) : -500 ≤ (rd500 x).toInt ∧ (rd500 x).toInt ≤ 500 := by
  have z1 : (500 : Int32).toInt = 500 := by decide
  have z2 : (-500 : Int32).toInt = -500 := by decide
  unfold rd500
  by_cases c : x ≤ 500
  · rw [if_pos c]
    by_cases c2 : -500 ≤ x
    · rw [if_pos c2]
      rw [Int32.le_iff_toInt_le] at c c2
      omega
    · rw [if_neg c2]; omega
  · rw [if_neg c]; omega
theorem sm_lp (pn mf : Pg) (sd : Int64) : ∀ (n : Nat) (k : Nat) (x : Int64) (s : Int32) (pt : Pg), k ≤ 30 → 30 - k < n → -500 * (k : Int) ≤ s.toInt → s.toInt ≤ 500 * (k : Int) → (-15000 ≤ (P_X4_simulate_48 pn sd 30 n x s (nI k) mf pt).1.toInt ∧ (P_X4_simulate_48 pn sd 30 n x s (nI k) mf pt).1.toInt ≤ 15000) ∧ (P_X4_simulate_48 pn sd 30 n x s (nI k) mf pt).2.1 = mf := by
  intro n
  induction n with
  | zero => intro k x s pt hk hn; omega
  | succ n ih =>
    intro k x s pt hk hn h1 h2
    rw [simE2]
    have z30 : (30 : Int32).toInt = 30 := by decide
    have ek := nI_toInt (n := k) (by omega)
    by_cases c : 30 ≤ nI k
    · rw [if_pos c]
      exact ⟨⟨by show -15000 ≤ s.toInt; omega, by show s.toInt ≤ 15000; omega⟩, rfl⟩
    · rw [if_neg c]
      rw [Int32.le_iff_toInt_le] at c
      have hk2 : k < 30 := by omega
      have go : ∀ (x' : Int64) (s' : Int32) (pt' : Pg), -500 * ((k + 1 : Nat) : Int) ≤ s'.toInt → s'.toInt ≤ 500 * ((k + 1 : Nat) : Int) → (-15000 ≤ (P_X4_simulate_48 pn sd 30 n x' s' (nI k + 1) mf pt').1.toInt ∧ (P_X4_simulate_48 pn sd 30 n x' s' (nI k + 1) mf pt').1.toInt ≤ 15000) ∧ (P_X4_simulate_48 pn sd 30 n x' s' (nI k + 1) mf pt').2.1 = mf := fun x' s' pt' g1 g2 => by
        rw [nI_1]
        exact ih (k + 1) x' s' pt' (by omega) (by omega) g1 g2
      have pr : ∀ rv : Int32, -500 * ((k + 1 : Nat) : Int) ≤ (s + (P_X4_pressOn pt rv).1).toInt ∧ (s + (P_X4_pressOn pt rv).1).toInt ≤ 500 * ((k + 1 : Nat) : Int) := fun rv => by
        rw [pk_r]
        have b := rd_b (P_X4_rawOf pt rv (pt 4))
        rw [toI_add (by omega) (by omega)]
        omega
      by_cases c1 : (rnr (rnx x)) - (rnr (rnx x)) / 4 * 4 = 0
      · rw [if_pos c1]; exact go _ _ _ (by omega) (by omega)
      · rw [if_neg c1]
        by_cases c2 : (rnr (rnx x)) - (rnr (rnx x)) / 4 * 4 = 1
        · rw [if_pos c2]; exact go _ _ _ (by omega) (by omega)
        · rw [if_neg c2]
          by_cases c3 : pt 11 = 1
          · rw [if_pos c3]; exact go _ _ _ (by omega) (by omega)
          · rw [if_neg c3]
            by_cases c4 : ((rnr (rnx x)) / 4) - ((rnr (rnx x)) / 4) / 2 * 2 = 1
            · rw [if_pos c4]; exact go _ _ _ (pr 1).1 (pr 1).2
            · rw [if_neg c4]; exact go _ _ _ (pr 0).1 (pr 0).2
theorem sim_e (pg : Pg) (sd : Int64) : P_X4_simulate z0 pg z0 sd 30 = P_X4_simulate_48 pg sd 30 (((30 : Int32).toInt - (0 : Int32).toInt).toNat + 1) sd 0 0 (upd z0 0 0) (P_X4_copyPage 101 101 pg z0 0 0) := by
  unfold P_X4_simulate
  exact if_neg (by decide)
theorem sm_f (pg : Pg) (sd : Int64) (F : Nat) (hF : 30 < F) : (-15000 ≤ (P_X4_simulate_48 pg sd 30 F sd 0 0 (upd z0 0 0) (P_X4_copyPage 101 101 pg z0 0 0)).1.toInt ∧ (P_X4_simulate_48 pg sd 30 F sd 0 0 (upd z0 0 0) (P_X4_copyPage 101 101 pg z0 0 0)).1.toInt ≤ 15000) ∧ (P_X4_simulate_48 pg sd 30 F sd 0 0 (upd z0 0 0) (P_X4_copyPage 101 101 pg z0 0 0)).2.1 = upd z0 0 0 := by
  have h := sm_lp pg (upd z0 0 0) sd F 0 sd 0 (P_X4_copyPage 101 101 pg z0 0 0) (by decide) (by omega) (by decide) (by decide)
  rw [nI_0] at h
  exact h
theorem sm_g (S : Int32 × Pg × Pg) (h : (-15000 ≤ S.1.toInt ∧ S.1.toInt ≤ 15000) ∧ S.2.1 = upd z0 0 0) : ∃ sm : Int32, aQ 1 (S.1, S.2.1) = sm ∧ -15000 ≤ sm.toInt ∧ sm.toInt ≤ 15000 := by
  obtain ⟨s, mf, pt⟩ := S
  obtain ⟨h1, h2⟩ := h
  have h2 : mf = upd z0 0 0 := h2
  subst h2
  exact ⟨s, if_pos rfl, h1⟩
theorem sm_h (pg : Pg) (sd : Int64) (F : Nat) (hF : 30 < F) (S : Int32 × Pg × Pg) (e : S = P_X4_simulate_48 pg sd 30 F sd 0 0 (upd z0 0 0) (P_X4_copyPage 101 101 pg z0 0 0)) : ∃ sm : Int32, aQ 1 (S.1, S.2.1) = sm ∧ -15000 ≤ sm.toInt ∧ sm.toInt ≤ 15000 := sm_g S (by rw [e]; exact sm_f pg sd F hF)
theorem fu_31 : 30 < (((30 : Int32).toInt - (0 : Int32).toInt).toNat + 1) := by decide
theorem sm_r (pg : Pg) (sd : Int64) : ∃ sm : Int32, aQ 1 ((P_X4_simulate z0 pg z0 sd 30).1, (P_X4_simulate z0 pg z0 sd 30).2.1) = sm ∧ -15000 ≤ sm.toInt ∧ sm.toInt ≤ 15000 := sm_h pg sd _ fu_31 _ (sim_e pg sd)
/-! what the law's scripts ask -/
section SX
variable {pg : Pg}
theorem z7 : (70000 : Int64).toInt = 70000 := by decide
theorem z8 : (80000 : Int64).toInt = 80000 := by decide
theorem z81 : (81000 : Int64).toInt = 81000 := by decide
theorem z811 : (81001 : Int64).toInt = 81001 := by decide
theorem z801 : (80001 : Int64).toInt = 80001 := by decide
theorem z9 : (90000 : Int64).toInt = 90000 := by decide
theorem z89 : (89999 : Int64).toInt = 89999 := by decide
theorem la {a : Int64} {x : Int32} {A : Int} (ha : a.toInt = A) (h : 0 ≤ A ∧ A ≤ 1000000) : (a + x.toInt64).toInt = A + x.toInt := by
  have hb := x.toInt_lt
  have hb2 := x.le_toInt
  rw [ladd_i (by rw [w32]; omega) (by rw [w32]; omega), w32, ha]
theorem i7 : (7 : Int32).toInt = 7 := by decide
theorem i8 : (8 : Int32).toInt = 8 := by decide
theorem i9 : (9 : Int32).toInt = 9 := by decide
theorem x_box (h : PV pg) : aQ 1 ((P_X4_runScript z0 pg z0 1 (70000 + (pg 2).toInt64)).1, (P_X4_runScript z0 pg z0 1 (70000 + (pg 2).toInt64)).2.1) = -9999 := by
  have b := h.2.2.2.1
  exact sc_ye (how := 7) (four := pg 2) (by rw [la z7 (by decide), i7]; omega) (by decide) ⟨b.1, b.2⟩ (dz_7y rfl)
theorem x_box1 (h : PV pg) : aQ 1 ((P_X4_runScript z0 pg z0 1 (70000 + (((pg 2) + 1) - ((pg 2) + 1) / 10000 * 10000).toInt64)).1, (P_X4_runScript z0 pg z0 1 (70000 + (((pg 2) + 1) - ((pg 2) + 1) / 10000 * 10000).toInt64)).2.1) = 0 := by
  have b := h.2.2.2.1
  have z1 : (1 : Int32).toInt = 1 := by decide
  have zt : (10000 : Int32).toInt = 10000 := by decide
  have b1 := b.1
  have b2 := b.2
  have a := toI_add (a := pg 2) (b := 1) (by omega) (by omega)
  have m := i32_mod (g := pg 2 + 1) (k := 10000) (by omega) (by decide)
  rw [zt] at m
  exact sc_no (how := 7) (four := ((pg 2) + 1) - ((pg 2) + 1) / 10000 * 10000) (by rw [la z7 (by decide), i7]; omega) (by decide) ⟨by omega, by omega⟩ (dz_7n (fun q => by have := congrArg Int32.toInt q; omega))
theorem x_none (h : pg 12 ≤ 0) : aQ 1 ((P_X4_runScript z0 pg z0 1 80000).1, (P_X4_runScript z0 pg z0 1 80000).2.1) = 0 := sc_no (how := 8) (four := 0) (by decide) (by decide) (by decide) (dz_8e h (by decide))
theorem sz_p {x : Int32} (h : 0 ≤ x) : P_X4_size x = x := if_pos h
theorem sz_n {x : Int32} (h : ¬ 0 ≤ x) : P_X4_size x = -x := if_neg h
theorem f1000 {x : Int32} (h : 0 ≤ x.toInt ∧ x.toInt ≤ 999) : x / 1000 = 0 ∧ (x - x / 1000 * 1000) = x := by
  have z : (1000 : Int32).toInt = 1000 := by decide
  have d := i32_div_i (a := x) (b := 1000) h.1 (by decide)
  have m := i32_mod (g := x) (k := 1000) h.1 (by decide)
  rw [z] at d m
  exact ⟨Int32.toInt_inj.mp (by rw [show (0 : Int32).toInt = 0 by decide]; omega), Int32.toInt_inj.mp (by omega)⟩
theorem f1001 {x y : Int32} (h : 0 ≤ y.toInt ∧ y.toInt ≤ 999) (e : x.toInt = 1000 + y.toInt) : x / 1000 = 1 ∧ (x - x / 1000 * 1000) = y := by
  have z : (1000 : Int32).toInt = 1000 := by decide
  have d := i32_div_i (a := x) (b := 1000) (by omega) (by decide)
  have m := i32_mod (g := x) (k := 1000) (by omega) (by decide)
  rw [z] at d m
  exact ⟨Int32.toInt_inj.mp (by rw [show (1 : Int32).toInt = 1 by decide]; omega), Int32.toInt_inj.mp (by omega)⟩
theorem x_p (h : ¬ pg 12 ≤ 0) (hr : (pg 21).toInt ≤ 500) (h0 : 0 ≤ pg 21) : aQ 1 ((P_X4_runScript z0 pg z0 1 (80000 + (P_X4_size (pg 21)).toInt64)).1, (P_X4_runScript z0 pg z0 1 (80000 + (P_X4_size (pg 21)).toInt64)).2.1) = -9999 := by
  rw [sz_p h0]
  rw [Int32.le_iff_toInt_le] at h0
  have z : (0 : Int32).toInt = 0 := by decide
  obtain ⟨e1, e2⟩ := f1000 (x := pg 21) ⟨by omega, by omega⟩
  exact sc_ye (how := 8) (four := pg 21) (by rw [la z8 (by decide), i8]; omega) (by decide) ⟨by omega, by omega⟩ (by rw [dz_8 h (by rw [e1]; decide), e1, if_pos rfl]; rw [show pg 21 - 0 * 1000 = pg 21 by rw [e1] at e2; exact e2, if_pos rfl])
theorem x_p1 (h : ¬ pg 12 ≤ 0) (hr : (pg 21).toInt ≤ 500) (h0 : 0 ≤ pg 21) : aQ 1 ((P_X4_runScript z0 pg z0 1 (80001 + (P_X4_size (pg 21)).toInt64)).1, (P_X4_runScript z0 pg z0 1 (80001 + (P_X4_size (pg 21)).toInt64)).2.1) = 0 := by
  rw [sz_p h0]
  rw [Int32.le_iff_toInt_le] at h0
  have z : (0 : Int32).toInt = 0 := by decide
  have z1 : (1 : Int32).toInt = 1 := by decide
  have a := toI_add (a := pg 21) (b := 1) (by omega) (by omega)
  obtain ⟨e1, e2⟩ := f1000 (x := pg 21 + 1) ⟨by omega, by omega⟩
  refine sc_no (how := 8) (four := pg 21 + 1) (by rw [la z801 (by decide), i8]; omega) (by decide) ⟨by omega, by omega⟩ ?_
  rw [dz_8 h (by rw [e1]; decide), if_pos e1, e2, if_neg (fun q => by have := congrArg Int32.toInt q; omega)]
theorem x_m (h : ¬ pg 12 ≤ 0) (hr : -500 ≤ (pg 21).toInt) (h0 : ¬ 0 ≤ pg 21) : aQ 1 ((P_X4_runScript z0 pg z0 1 (81000 + (P_X4_size (pg 21)).toInt64)).1, (P_X4_runScript z0 pg z0 1 (81000 + (P_X4_size (pg 21)).toInt64)).2.1) = -9999 := by
  rw [sz_n h0]
  rw [Int32.le_iff_toInt_le] at h0
  have z : (0 : Int32).toInt = 0 := by decide
  have zk : (1000 : Int32).toInt = 1000 := by decide
  have en := neg_i (x := pg 21) (by omega)
  have a := toI_add (a := 1000) (b := -(pg 21)) (by omega) (by omega)
  obtain ⟨e1, e2⟩ := f1001 (x := 1000 + -(pg 21)) (y := -(pg 21)) ⟨by omega, by omega⟩ (by omega)
  refine sc_ye (how := 8) (four := 1000 + -(pg 21)) (by rw [la z81 (by decide), i8]; omega) (by decide) ⟨by omega, by omega⟩ ?_
  have key : (if (1000 + -(pg 21)) / 1000 = 0 then ((1000 + -(pg 21)) - (1000 + -(pg 21)) / 1000 * 1000) else -((1000 + -(pg 21)) - (1000 + -(pg 21)) / 1000 * 1000)) = pg 21 := by
    rw [if_neg (by rw [e1]; decide), e2]
    exact Int32.toInt_inj.mp (by rw [neg_i (by omega)]; omega)
  rw [dz_8 h (by rw [e1]; decide), key, if_pos rfl]
theorem x_m1 (h : ¬ pg 12 ≤ 0) (hr : -500 ≤ (pg 21).toInt) (h0 : ¬ 0 ≤ pg 21) : aQ 1 ((P_X4_runScript z0 pg z0 1 (81001 + (P_X4_size (pg 21)).toInt64)).1, (P_X4_runScript z0 pg z0 1 (81001 + (P_X4_size (pg 21)).toInt64)).2.1) = 0 := by
  rw [sz_n h0]
  rw [Int32.le_iff_toInt_le] at h0
  have z : (0 : Int32).toInt = 0 := by decide
  have z1 : (1 : Int32).toInt = 1 := by decide
  have zk : (1000 : Int32).toInt = 1000 := by decide
  have en := neg_i (x := pg 21) (by omega)
  have a0 := toI_add (a := -(pg 21)) (b := 1) (by omega) (by omega)
  have a := toI_add (a := 1000) (b := -(pg 21) + 1) (by omega) (by omega)
  obtain ⟨e1, e2⟩ := f1001 (x := 1000 + (-(pg 21) + 1)) (y := -(pg 21) + 1) ⟨by omega, by omega⟩ (by omega)
  refine sc_no (how := 8) (four := 1000 + (-(pg 21) + 1)) (by rw [la z811 (by decide), i8]; omega) (by decide) ⟨by omega, by omega⟩ ?_
  have key : (if (1000 + (-(pg 21) + 1)) / 1000 = 0 then ((1000 + (-(pg 21) + 1)) - (1000 + (-(pg 21) + 1)) / 1000 * 1000) else -((1000 + (-(pg 21) + 1)) - (1000 + (-(pg 21) + 1)) / 1000 * 1000)) = -(-(pg 21) + 1) := by
    rw [if_neg (by rw [e1]; decide), e2]
  rw [dz_8 h (by rw [e1]; decide), key, if_neg (fun q => by have := congrArg Int32.toInt q; rw [neg_i (by omega)] at this; omega)]
theorem x_o (h0 : ¬ (P_X4_offsetOf pg) < 0) (h1 : (P_X4_offsetOf pg) ≤ 99) : aQ 1 ((P_X4_runScript z0 pg z0 1 (90000 + (P_X4_offsetOf pg).toInt64)).1, (P_X4_runScript z0 pg z0 1 (90000 + (P_X4_offsetOf pg).toInt64)).2.1) = -9999 := by
  rw [Int32.lt_iff_toInt_lt] at h0
  rw [Int32.le_iff_toInt_le] at h1
  have z : (0 : Int32).toInt = 0 := by decide
  have z99 : (99 : Int32).toInt = 99 := by decide
  have z100 : (100 : Int32).toInt = 100 := by decide
  obtain ⟨e1, e2⟩ := f1000 (x := P_X4_offsetOf pg) ⟨by omega, by omega⟩
  refine sc_ye (how := 9) (four := P_X4_offsetOf pg) (by rw [la z9 (by decide), i9]; omega) (by decide) ⟨by omega, by omega⟩ ?_
  rw [dz_9 e1 (by rw [e2, Int32.le_iff_toInt_le]; omega), e2, if_neg Int32.lt_irrefl]
theorem x_o1 (h0 : ¬ (P_X4_offsetOf pg) < 1) (h1 : (P_X4_offsetOf pg) ≤ 100) : aQ 1 ((P_X4_runScript z0 pg z0 1 (89999 + (P_X4_offsetOf pg).toInt64)).1, (P_X4_runScript z0 pg z0 1 (89999 + (P_X4_offsetOf pg).toInt64)).2.1) = 0 := by
  rw [Int32.lt_iff_toInt_lt] at h0
  rw [Int32.le_iff_toInt_le] at h1
  have z1 : (1 : Int32).toInt = 1 := by decide
  have z100 : (100 : Int32).toInt = 100 := by decide
  have s := toI_sub (a := P_X4_offsetOf pg) (b := 1) (by omega) (by omega)
  obtain ⟨e1, e2⟩ := f1000 (x := P_X4_offsetOf pg - 1) ⟨by omega, by omega⟩
  refine sc_no (how := 9) (four := P_X4_offsetOf pg - 1) (by rw [la z89 (by decide), i9]; omega) (by decide) ⟨by omega, by omega⟩ ?_
  rw [dz_9 e1 (by rw [e2, Int32.le_iff_toInt_le]; omega), e2, if_pos (by rw [Int32.lt_iff_toInt_lt]; omega)]
theorem x_st {sc : Int64} {how four : Int32} (h : sc.toInt = 10000 * how.toInt + four.toInt) (h1 : 0 ≤ how.toInt ∧ how.toInt ≤ 9) (h2 : 0 ≤ four.toInt ∧ four.toInt ≤ 9999) (hd : (dz pg how four).1 = if pg 11 = 1 then 0 else 1) : aQ 1 ((P_X4_runScript z0 pg z0 1 sc).1, (P_X4_runScript z0 pg z0 1 sc).2.1) = (if pg 11 = 1 then 0 else -9999) := by
  by_cases c : pg 11 = 1
  · rw [if_pos c] at hd ⊢
    exact sc_no h h1 h2 hd
  · rw [if_neg c] at hd ⊢
    exact sc_ye h h1 h2 hd
theorem x_un (h : PV pg) : aQ 1 ((P_X4_runScript z0 pg z0 1 (50000 + (1000 * (pg 9).toInt64))).1, (P_X4_runScript z0 pg z0 1 (50000 + (1000 * (pg 9).toInt64))).2.1) = 0 := by
  have b := h.1
  have zk : (1000 : Int32).toInt = 1000 := by decide
  have zl : (1000 : Int64).toInt = 1000 := by decide
  have z5 : (50000 : Int64).toInt = 50000 := by decide
  have i5 : (5 : Int32).toInt = 5 := by decide
  have m := toI_mul (a := 1000) (b := pg 9) (by rw [zk]; omega) (by rw [zk]; omega)
  have ml := lmul_i (a := 1000) (b := (pg 9).toInt64) (by rw [w32, zl]; omega) (by rw [w32, zl]; omega)
  have al := ladd_i (a := 50000) (b := 1000 * (pg 9).toInt64) (by rw [ml, w32, zl, z5]; omega) (by rw [ml, w32, zl, z5]; omega)
  rw [zk] at m
  have d := i32_div_i (a := 1000 * pg 9) (b := 1000) (by omega) (by decide)
  have r := i32_mod (g := 1000 * pg 9) (k := 1000) (by omega) (by decide)
  rw [zk] at d r
  have e1 : (1000 * pg 9) / 1000 = pg 9 := Int32.toInt_inj.mp (by omega)
  have e2 : (1000 * pg 9 - (1000 * pg 9) / 1000 * 1000) = 0 := Int32.toInt_inj.mp (by rw [show (0 : Int32).toInt = 0 by decide]; omega)
  refine sc_no (how := 5) (four := 1000 * pg 9) (by rw [al, ml, w32, z5, zl, i5, m]; omega) (by decide) ⟨by omega, by omega⟩ (dz_5n e2 ?_)
  rw [e1]
  exact un_hi h
end SX
