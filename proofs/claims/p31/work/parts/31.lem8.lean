/-! what the reference's readers leave -/
theorem eat_ws {mf tt : Nat → Int32} {ch : Int32} {u : Int32 × (Nat → Int32)} (hu : P_X4_eat mf tt ch = u) (h : WS mf) : WS u.2 := by
  rw [← hu]
  unfold P_X4_eat
  by_cases c : mf 2 ≤ mf 3
  · rw [if_pos c]; exact ws_z h
  · rw [if_neg c]
    by_cases c2 : tt (mf 3).toNatClampNeg = ch
    · rw [if_pos c2]; exact ws_inc h c
    · rw [if_neg c2]; exact ws_z h
theorem num_28 {tt : Nat → Int32} {dg lo hi : Int32} : ∀ (n : Nat) (v4 v5 : Int32) (mf : Nat → Int32), WS mf → WS (P_X4_number_28 tt dg lo hi n v4 v5 mf).2 ∨ n ≤ v4.toInt.toNat := by
  intro n
  induction n with
  | zero => intro v4 v5 mf h; exact Or.inr (Nat.zero_le _)
  | succ n ih =>
    intro v4 v5 mf h
    by_cases hn : n + 1 ≤ v4.toInt.toNat
    · exact Or.inr hn
    refine Or.inl ?_
    unfold P_X4_number_28
    by_cases c0 : v4 ≤ 0
    · rw [if_pos c0]; exact h
    · rw [if_neg c0]
      have hmu := mu_10p c0
      have hre : ∀ (v : Int32) (q : Nat → Int32), WS q → WS (P_X4_number_28 tt dg lo hi n (v4 / 10) v q).2 := fun v q hq => by
        rcases ih (v4 / 10) v q hq with h1 | h1
        · exact h1
        · omega
      by_cases c1 : mf 2 ≤ mf 3
      · rw [if_pos c1, if_pos (by decide +kernel)]; exact h
      · rw [if_neg c1]
        have hi2 := ws_inc h c1
        by_cases c2 : P_X4_in ((((tt (mf 3).toNatClampNeg) - 48)).toInt64) 0 9 = 0
        · rw [if_pos c2]; exact h
        · rw [if_neg c2]
          by_cases c3 : hi < (v5 + (((tt (mf 3).toNatClampNeg) - 48) * v4))
          · rw [if_pos c3]; exact h
          · rw [if_neg c3]
            by_cases c4 : lo ≤ (((v5 + (((tt (mf 3).toNatClampNeg) - 48) * v4)) + v4) - 1)
            · rw [if_pos c4]; exact hre _ _ hi2
            · rw [if_neg c4]; exact h
theorem num_28w {tt : Nat → Int32} {dg lo hi v4 v5 : Int32} {mf : Nat → Int32} (h : WS mf) : WS (P_X4_number_28 tt dg lo hi ((v4 : Int32).toInt.toNat + 1) v4 v5 mf).2 := by
  rcases num_28 (tt := tt) (dg := dg) (lo := lo) (hi := hi) ((v4 : Int32).toInt.toNat + 1) v4 v5 mf h with h1 | h1
  · exact h1
  · omega
theorem num_6 {tt : Nat → Int32} {dg lo hi : Int32} : ∀ (n : Nat) (v4 v5 : Int32) (mf : Nat → Int32), WS mf → (dg.toInt - v5.toInt).toNat < n → WS (P_X4_number_6 tt dg lo hi n v4 v5 mf).2 := by
  intro n
  induction n with
  | zero => intro v4 v5 mf _ h; omega
  | succ n ih =>
    intro v4 v5 mf h hn
    unfold P_X4_number_6
    by_cases c0 : dg ≤ v5
    · rw [if_pos c0]; exact num_28w h
    · rw [if_neg c0]
      have hmu := mu_up c0
      exact ih _ _ _ h (by omega)
theorem num_ws {mf tt : Nat → Int32} {dg lo hi : Int32} {u : Int32 × (Nat → Int32)} (hu : P_X4_number mf tt dg lo hi = u) (h : WS mf) : WS u.2 := by
  rw [← hu]
  exact num_6 _ _ _ _ h (Nat.lt_succ_self _)
theorem put_eq (mf pr tt : Nat → Int32) (ax dg lo hi : Int32) : P_X4_put mf pr tt ax dg lo hi = (if (P_X4_number mf tt dg lo hi).1 = (-9999) then 0 else 1, (P_X4_number mf tt dg lo hi).2, upd pr ax.toNatClampNeg (P_X4_number mf tt dg lo hi).1) := by
  show (if (P_X4_number mf tt dg lo hi).1 = (-9999) then (0, (P_X4_number mf tt dg lo hi).2, (upd pr ax.toNatClampNeg (P_X4_number mf tt dg lo hi).1)) else (1, (P_X4_number mf tt dg lo hi).2, (upd pr ax.toNatClampNeg (P_X4_number mf tt dg lo hi).1))) = _
  by_cases c : (P_X4_number mf tt dg lo hi).1 = (-9999)
  · rw [if_pos c, if_pos c]
  · rw [if_neg c, if_neg c]
theorem put_ws {mf pr tt : Nat → Int32} {ax dg lo hi : Int32} {u : Int32 × (Nat → Int32) × (Nat → Int32)} (hu : P_X4_put mf pr tt ax dg lo hi = u) (h : WS mf) : WS u.2.1 := by
  rw [← hu, put_eq]
  exact num_ws rfl h
theorem put_k {mf pr tt : Nat → Int32} {ax dg lo hi : Int32} {u : Int32 × (Nat → Int32) × (Nat → Int32)} (hu : P_X4_put mf pr tt ax dg lo hi = u) {k : Nat} (hk : k ≠ ax.toNatClampNeg) : u.2.2 k = pr k := by
  rw [← hu, put_eq]
  exact if_neg hk
theorem put_9 {mf pr tt : Nat → Int32} {ax dg lo hi : Int32} {u : Int32 × (Nat → Int32) × (Nat → Int32)} (hu : P_X4_put mf pr tt ax dg lo hi = u) (hk : 9 ≠ ax.toNatClampNeg) (h : NB (pr 9)) : NB (u.2.2 9) := by
  rw [put_k hu hk]
  exact h
theorem put_9n {mf pr tt : Nat → Int32} {dg lo hi : Int32} {u : Int32 × (Nat → Int32) × (Nat → Int32)} (hu : P_X4_put mf pr tt (15 + pr 9) dg lo hi = u) (c : ¬ 6 ≤ pr 9) (h : NB (pr 9)) : u.2.2 9 = pr 9 ∧ NB (pr 9) := by
  refine ⟨put_k hu ?_, h⟩
  obtain ⟨h1, h2⟩ := h
  have e4 : (15 : Int32).toInt = 15 := by decide
  have a1 := toI_add (a := 15) (b := pr 9) (by omega) (by omega)
  have e3 : (15 + pr 9).toNatClampNeg = (15 + pr 9).toInt.toNat := rfl
  omega
theorem nb_inc {pr q : Nat → Int32} (h : q 9 = pr 9 ∧ NB (pr 9)) (c : ¬ 6 ≤ pr 9) : NB ((upd q 9 (q 9 + 1)) 9) := by
  show NB (q 9 + 1)
  rw [h.1]
  have e := nb_i h.2 c
  rw [Int32.le_iff_toInt_le] at c
  have e6 : (6 : Int32).toInt = 6 := by decide
  obtain ⟨h1, h2⟩ := h.2
  exact ⟨by omega, by omega⟩
theorem mu_nb {pr q : Nat → Int32} (h : q 9 = pr 9 ∧ NB (pr 9)) (c : ¬ 6 ≤ pr 9) : (7 - ((upd q 9 (q 9 + 1)) 9).toInt).toNat < (7 - (pr 9).toInt).toNat := by
  show (7 - (q 9 + 1).toInt).toNat < _
  rw [h.1]
  have e := nb_i h.2 c
  obtain ⟨h1, h2⟩ := h.2
  omega
