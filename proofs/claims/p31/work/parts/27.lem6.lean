theorem pv_wait {pg u : Nat → Int32} {k : Int32} (hu : P_X4_waitOn pg k = u) (h : PV pg) : PV u := by
  rw [← hu]
  unfold P_X4_waitOn
  have key : ∀ (n : Nat) (v : Int32) (q : Nat → Int32), PV q → ((k).toInt - v.toInt).toNat < n → PV (P_X4_waitOn_2 k n v q) := by
    intro n
    induction n with
    | zero => intros; omega
    | succ n ih =>
      intro v q hq hm
      unfold P_X4_waitOn_2
      by_cases c : k ≤ v
      · rw [if_pos c]; exact hq
      · rw [if_neg c]
        have hmu := mu_up (N := k) c
        have h2 : ∀ x y : Int32, PV (upd (upd q 7 x) 8 y) := fun x y => pv_same hq (fun j _ h7 h8 _ _ _ => by
          show (if j = 8 then y else if j = 7 then x else q j) = _
          rw [if_neg h8, if_neg h7])
        by_cases c2 : 0 ≤ q 7 - (q 7 / 10 + 1)
        · show PV (if 0 ≤ q 7 - (q 7 / 10 + 1) then _ else _)
          rw [if_pos c2]
          exact ih _ _ (h2 _ _) (by omega)
        · show PV (if 0 ≤ q 7 - (q 7 / 10 + 1) then _ else _)
          rw [if_neg c2]
          exact ih _ _ (h2 _ _) (by omega)
  exact key _ _ _ h (Nat.lt_succ_self _)
theorem pv_free {pg u : Nat → Int32} (hu : P_X4_freeOn pg = u) (h : PV pg) : PV u := by
  rw [← hu]
  exact pv_wait rfl (pv_up11 h)
theorem pv_balance {pg u : Nat → Int32} (hu : P_X4_balanceOn pg = u) (h : PV pg) : PV u := by
  rw [← hu]
  unfold P_X4_balanceOn
  have inner : ∀ (K : Int32 → (Nat → Int32) → (Nat → Int32)) (d : Int32), DE d → ¬ d ≤ 0 → (∀ q, PV q → PV (K (d / 10) q)) → ∀ (n : Nat) (v : Int32) (q : Nat → Int32), PV q → (if v = 0 then 0 else (10000 - (q 2).toInt).toNat) < n → PV (P_X4_balanceOn_14 K d n v q) := by
    intro K d hd hd0 hK n
    induction n with
    | zero => intros; omega
    | succ n ih =>
      intro v q hq hm
      unfold P_X4_balanceOn_14
      by_cases c1 : v = 0
      · show PV (if v = 0 then _ else _)
        rw [if_pos c1]; exact hK q hq
      · show PV (if v = 0 then _ else _)
        rw [if_neg c1]
        by_cases c2 : 9999 < q 2 + d
        · rw [if_pos c2]; exact hK q hq
        · rw [if_neg c2]
          obtain ⟨u, hu⟩ : ∃ u, P_X4_pairOn (upd q 2 (q 2 + d)) = u := ⟨_, rfl⟩
          rw [hu]
          have hb := bal_up hq hd c2
          show PV (if u.2 11 = 1 then _ else _)
          by_cases c3 : u.2 11 = 1
          · rw [if_pos c3]; exact pv_pair hu hb.1
          · rw [if_neg c3]
            by_cases c4 : u.1 < 0
            · rw [if_pos c4]
              have hmu := bal_d0 (v2 := v) (pg := q) (q := upd u.2 2 (u.2 2 - d)) c1 hq
              exact ih _ _ (bal_A hq hd c2 hu) (by omega)
            · rw [if_neg c4]
              have hmu := bal_d1 c1 hq hd hd0 c2 hu
              exact ih _ _ (bal_B hq hd c2 hu) (by omega)
  have outer : ∀ (n : Nat) (v : Int32) (q : Nat → Int32), DE v → PV q → v.toInt.toNat < n → PV (P_X4_balanceOn_8 n v q) := by
    intro n
    induction n with
    | zero => intros; omega
    | succ n ih =>
      intro v q hv hq hm
      unfold P_X4_balanceOn_8
      by_cases c1 : v ≤ 0
      · rw [if_pos c1]; exact hq
      · rw [if_neg c1]
        have hmu := mu_10 hv c1
        exact inner _ v hv c1 (fun q' hq' => ih _ _ (de10 hv) hq' (by omega)) _ _ _ hq (Nat.lt_succ_self _)
  exact outer _ _ _ ⟨by decide, by decide⟩ (pv_up2 h ⟨by decide, by decide⟩) (Nat.lt_succ_self _)
theorem pv_does_87 {mf : Nat → Int32} {how four v3 v4 : Int32} : ∀ (n : Nat) (v : Int32) (q : Nat → Int32), PV q → (v4.toInt - v.toInt).toNat < n → PV (P_X4_does_87 mf how four n v3 v4 v q).2 := by
  intro n
  induction n with
  | zero => intros; omega
  | succ n ih =>
    intro v q hq hm
    unfold P_X4_does_87
    by_cases c : v4 ≤ v
    · rw [if_pos c]; exact hq
    · rw [if_neg c]
      have hmu := mu_up (N := v4) c
      by_cases c2 : q 11 = 1
      · rw [if_pos c2]; exact hq
      · rw [if_neg c2]
        show PV (if v3 = 1 then _ else _ : Int32 × (Nat → Int32)).2
        by_cases c3 : v3 = 1
        · rw [if_pos c3]; exact ih _ _ (pv_press rfl hq) (by omega)
        · rw [if_neg c3]; exact ih _ _ (pv_press rfl hq) (by omega)
theorem set_ok {w v : Int32} (h : ¬ P_X4_isSetting w v = 0) (h2 : ¬ w = 2) : w.toNatClampNeg < 7 ∧ w.toNatClampNeg ≠ 2 := by
  unfold P_X4_isSetting at h
  by_cases c0 : w = 0
  · subst c0; decide
  by_cases c1 : w = 1
  · subst c1; decide
  by_cases c3 : w = 3
  · subst c3; decide
  by_cases c4 : w = 4
  · subst c4; decide
  by_cases c5 : w = 5
  · subst c5; decide
  by_cases c6 : w = 6
  · subst c6; decide
  · rw [if_neg c0, if_neg c1, if_neg h2, if_neg c3, if_neg c4, if_neg c5, if_neg c6] at h
    exact absurd rfl h
theorem pv_upk {pg : Nat → Int32} {k : Nat} {x : Int32} (h : PV pg) (hk : k < 7) (hk2 : k ≠ 2) : PV (upd pg k x) := by
  have e : ∀ j, j ≠ k → upd pg k x j = pg j := fun j hj => by
    show (if j = k then x else pg j) = _
    rw [if_neg hj]
  refine h.to ?_ (e 9 (by omega)) (e 10 (by omega)) (fun i hi => e _ (by omega)) ?_
  · rw [e 2 (by omega)]; exact pv_r h
  · rw [e 12 (by omega)]; exact h.2.2.2.2
theorem pv_up10 {pg : Nat → Int32} {i : Int32} (h : PV pg) (hi : ¬ P_X4_isUnknown pg i = 0) : PV (upd pg 10 i) := by
  have h1 := unk_i h hi
  obtain ⟨a, b, c, d, e⟩ := h
  refine ⟨a, h1, fun j hj => ?_, d, e⟩
  show 1 ≤ (if 15 + j = 10 then i else pg (15 + j)).toInt ∧ (if 15 + j = 10 then i else pg (15 + j)).toInt ≤ 9999
  rw [if_neg (by omega)]
  exact c j hj
theorem pv_does {mf pt : Nat → Int32} {how four : Int32} {u : Int32 × (Nat → Int32)} (hu : P_X4_does mf pt how four = u) (h : PV pt) (hf : RB four) : PV u.2 := by
  rw [← hu]
  unfold P_X4_does
  by_cases c1 : how = 1
  · rw [if_pos c1]
    split
    · exact h
    · split
      · exact h
      · exact pv_does_87 _ _ _ h (Nat.lt_succ_self _)
  rw [if_neg c1]
  by_cases c2 : how = 2
  · rw [if_pos c2]
    split
    · split
      · exact h
      · exact pv_wait rfl h
    · exact h
  rw [if_neg c2]
  by_cases c3 : how = 3
  · rw [if_pos c3]
    exact pv_up2 h hf
  rw [if_neg c3]
  by_cases c4 : how = 4
  · rw [if_pos c4]
    split
    · exact h
    · rename_i e2
      split
      · exact h
      · split
        · exact h
        · rename_i e4
          have := set_ok e4 e2
          exact pv_upk h this.1 this.2
  rw [if_neg c4]
  by_cases c5 : how = 5
  · rw [if_pos c5]
    split
    · split
      · exact h
      · rename_i e2
        exact pv_up10 h e2
    · exact h
  rw [if_neg c5]
  by_cases c6 : how = 6
  · rw [if_pos c6]
    split
    · split
      · exact h
      · obtain ⟨u, hu⟩ : ∃ u, P_X4_balanceOn pt = u := ⟨_, rfl⟩
        rw [hu]
        exact pv_balance hu h
    · exact h
  rw [if_neg c6]
  by_cases c7 : how = 7
  · rw [if_pos c7]
    split <;> exact h
  rw [if_neg c7]
  by_cases c8 : how = 8
  · rw [if_pos c8]
    repeat' first | exact h | split | dsimp only
  rw [if_neg c8]
  by_cases c9 : how = 9
  · rw [if_pos c9]
    repeat' first | exact h | split | dsimp only
  rw [if_neg c9]
  exact h
def AL (a : Int64) (n k : Int32) : Prop := ∃ j : Nat, j ≤ 3 ∧ a.toInt = 100000 ^ j ∧ k.toInt + j = n.toInt
def LL (x a : Int64) : Prop := 0 ≤ x.toInt ∧ x.toInt < a.toInt
theorem pow5 (j : Nat) (h : j ≤ 3) : (100000 : Int) ^ j = 1 ∨ (100000 : Int) ^ j = 100000 ∨ (100000 : Int) ^ j = 10000000000 ∨ (100000 : Int) ^ j = 1000000000000000 := by
  match j, h with
  | 0, _ => exact Or.inl (by decide)
  | 1, _ => exact Or.inr (Or.inl (by decide))
  | 2, _ => exact Or.inr (Or.inr (Or.inl (by decide)))
  | 3, _ => exact Or.inr (Or.inr (Or.inr (by decide)))
theorem l_div {x y : Int64} (hx : 0 ≤ x.toInt) (hy : 0 < y.toInt) : (x / y).toInt = x.toInt / y.toInt := by
  rw [Int64.toInt_div, Int.tdiv_eq_ediv_of_nonneg hx]
  have hb := x.toInt_lt
  have h1 : 0 ≤ x.toInt / y.toInt := Int.ediv_nonneg hx (Int.le_of_lt hy)
  have h2 : x.toInt / y.toInt ≤ x.toInt := Int.ediv_le_self _ hx
  apply Int.bmod_eq_of_le <;> omega
theorem al_s' {a : Int64} {n k : Int32} (h : AL a n k) (c : ¬ n ≤ k) : ∃ j : Nat, j ≤ 2 ∧ a.toInt = 100000 ^ (j + 1) ∧ (a / 100000).toInt = 100000 ^ j ∧ k.toInt + (j + 1) = n.toInt := by
  obtain ⟨j, h1, h2, h3⟩ := h
  rw [Int32.le_iff_toInt_le] at c
  match j, h1, h2, h3 with
  | 0, _, _, h3 => exact absurd h3 (by omega)
  | j + 1, h1, h2, h3 =>
    refine ⟨j, by omega, h2, ?_, by omega⟩
    have hp : (0 : Int) < 100000 ^ (j + 1) := Int.pow_pos (by decide)
    have e : (100000 : Int64).toInt = 100000 := by decide
    rw [l_div (by omega) (by rw [e]; decide), e, h2, Int.pow_succ]
    exact Int.mul_ediv_cancel _ (by decide)
theorem al_pos {a : Int64} {n k : Int32} (h : AL a n k) (c : ¬ n ≤ k) : 0 < (a / 100000).toInt := by
  obtain ⟨j, h1, h2, h3, h4⟩ := al_s' h c
  rw [h3]
  exact Int.pow_pos (by decide)
theorem al_ne {a : Int64} {n k : Int32} (h : AL a n k) (c : ¬ n ≤ k) : ¬ (a / 100000) = 0 := fun q => by
  have := al_pos h c
  rw [q] at this
  exact absurd this (by decide)
theorem al_s {a : Int64} {n k : Int32} (h : AL a n k) (c : ¬ n ≤ k) (h0 : ¬ k < 0) : AL (a / 100000) n (k + 1) := by
  obtain ⟨j, h1, h2, h3, h4⟩ := al_s' h c
  refine ⟨j, by omega, h3, ?_⟩
  rw [Int32.lt_iff_toInt_lt] at h0
  have e0 : (0 : Int32).toInt = 0 := by decide
  have e1 : (1 : Int32).toInt = 1 := by decide
  have hb := n.toInt_lt
  have e := toI_add (a := k) (b := 1) (by omega) (by omega)
  omega
theorem l_mod {x y : Int64} (hx : 0 ≤ x.toInt) (hy : 0 < y.toInt) : (x - x / y * y).toInt = x.toInt % y.toInt := by
  have e := l_div hx hy
  have hb := x.toInt_lt
  have hq : 0 ≤ x.toInt / y.toInt := Int.ediv_nonneg hx (Int.le_of_lt hy)
  have hm := Int.mul_ediv_add_emod x.toInt y.toInt
  have h1 := Int.emod_nonneg x.toInt (show y.toInt ≠ 0 by omega)
  have hp : 0 ≤ y.toInt * (x.toInt / y.toInt) := Int.mul_nonneg (by omega) hq
  have em : (x / y * y).toInt = y.toInt * (x.toInt / y.toInt) := by
    rw [Int64.toInt_mul, e, Int.mul_comm]
    apply Int.bmod_eq_of_le <;> omega
  rw [Int64.toInt_sub, em]
  have : x.toInt - y.toInt * (x.toInt / y.toInt) = x.toInt % y.toInt := by omega
  rw [this]
  have h3 : x.toInt % y.toInt ≤ x.toInt := by omega
  apply Int.bmod_eq_of_le <;> omega
theorem ll_s {x a : Int64} {n k : Int32} (h : AL a n k) (hl : LL x a) (c : ¬ n ≤ k) : LL (x - x / (a / 100000) * (a / 100000)) (a / 100000) := by
  have hp := al_pos h c
  rw [LL, l_mod hl.1 hp]
  exact ⟨Int.emod_nonneg _ (by omega), Int.emod_lt_of_pos _ hp⟩
theorem i32_mod {g k : Int32} (hg : 0 ≤ g.toInt) (hk : 0 < k.toInt) : (g - g / k * k).toInt = g.toInt % k.toInt := by
  have e : (g / k).toInt = g.toInt / k.toInt := by
    rw [Int32.toInt_div, Int.tdiv_eq_ediv_of_nonneg hg]
    have hb := g.toInt_lt
    have h1 : 0 ≤ g.toInt / k.toInt := Int.ediv_nonneg hg (Int.le_of_lt hk)
    have h2 : g.toInt / k.toInt ≤ g.toInt := Int.ediv_le_self _ hg
    apply Int.bmod_eq_of_le <;> omega
  have hb := g.toInt_lt
  have hq : 0 ≤ g.toInt / k.toInt := Int.ediv_nonneg hg (Int.le_of_lt hk)
  have hm := Int.mul_ediv_add_emod g.toInt k.toInt
  have h1 := Int.emod_nonneg g.toInt (show k.toInt ≠ 0 by omega)
  have hp : 0 ≤ k.toInt * (g.toInt / k.toInt) := Int.mul_nonneg (by omega) hq
  have em : (g / k * k).toInt = k.toInt * (g.toInt / k.toInt) := by
    rw [Int32.toInt_mul, e, Int.mul_comm]
    apply Int.bmod_eq_of_le <;> omega
  rw [Int32.toInt_sub, em]
  have : g.toInt - k.toInt * (g.toInt / k.toInt) = g.toInt % k.toInt := by omega
  rw [this]
  have h3 : g.toInt % k.toInt ≤ g.toInt := by omega
  apply Int.bmod_eq_of_le <;> omega
theorem i32_div {g k : Int32} (hg : 0 ≤ g.toInt) (hk : 0 < k.toInt) : (g / k).toInt = g.toInt / k.toInt := by
  rw [Int32.toInt_div, Int.tdiv_eq_ediv_of_nonneg hg]
  have hb := g.toInt_lt
  have h1 : 0 ≤ g.toInt / k.toInt := Int.ediv_nonneg hg (Int.le_of_lt hk)
  have h2 : g.toInt / k.toInt ≤ g.toInt := Int.ediv_le_self _ hg
  apply Int.bmod_eq_of_le <;> omega
theorem rb_mod {g : Int32} (hg : 0 ≤ g.toInt) : RB (g - g / 10000 * 10000) := by
  have e : (10000 : Int32).toInt = 10000 := by decide
  have h := i32_mod (g := g) (k := 10000) hg (by rw [e]; decide)
  rw [e] at h
  rw [RB, h]
  omega
theorem grp_v {x a : Int64} {n k : Int32} (h : AL a n k) (hl : LL x a) (c : ¬ n ≤ k) : (x / (a / 100000)).toInt32.toInt = x.toInt / (a / 100000).toInt ∧ 0 ≤ x.toInt / (a / 100000).toInt ∧ x.toInt / (a / 100000).toInt < 100000 := by
  have hp := al_pos h c
  obtain ⟨l1, l2⟩ := hl
  obtain ⟨j, h1, h2, h3, h4⟩ := al_s' h c
  have e := l_div l1 hp
  have g0 : 0 ≤ x.toInt / (a / 100000).toInt := Int.ediv_nonneg l1 (Int.le_of_lt hp)
  have g1 : x.toInt / (a / 100000).toInt < 100000 := by
    apply Int.ediv_lt_of_lt_mul hp
    rw [h3, Int.mul_comm, ← Int.pow_succ, ← h2]
    exact l2
  refine ⟨?_, g0, g1⟩
  rw [Int64.toInt_toInt32, e]
  apply Int.bmod_eq_of_le <;> omega
theorem rb_grp {x a : Int64} {n k : Int32} (h : AL a n k) (hl : LL x a) (c : ¬ n ≤ k) : RB ((x / (a / 100000)).toInt32 - (x / (a / 100000)).toInt32 / 10000 * 10000) := by
  obtain ⟨e, h1, h2⟩ := grp_v h hl c
  exact rb_mod (by omega)
theorem al_1 {n : Int32} (h : n = 1) : AL 100000 n 0 := by subst h; exact ⟨1, by decide, by decide, by decide⟩
theorem al_2 {n : Int32} (h : n = 2) : AL 10000000000 n 0 := by subst h; exact ⟨2, by decide, by decide, by decide⟩
theorem al_3 {n : Int32} (h1 : ¬ n = 1) (h2 : ¬ n = 2) (h : ¬ P_X4_in n.toInt64 1 3 = 0) : AL 1000000000000000 n 0 := by
  have h3 := in_i h
  have e1 : (1 : Int64).toInt = 1 := by decide
  have e3 : (3 : Int64).toInt = 3 := by decide
  have a1 : ¬ n.toInt = 1 := fun q => h1 (Int32.toInt_inj.mp (q.trans (by decide)))
  have a2 : ¬ n.toInt = 2 := fun q => h2 (Int32.toInt_inj.mp (q.trans (by decide)))
  have hn : n = 3 := Int32.toInt_inj.mp ((show n.toInt = 3 by omega).trans (by decide))
  subst hn
  exact ⟨3, by decide, by decide, by decide⟩
theorem ll_0 {x a : Int64} (h : ¬ P_X4_in x 0 (a - 1) = 0) (ha : 1 ≤ a.toInt) : LL x a := by
  have h1 := in_1 h
  have e0 : (0 : Int64).toInt = 0 := by decide
  have e1 : (1 : Int64).toInt = 1 := by decide
  have hb := a.toInt_lt
  have e : (a - 1).toInt = a.toInt - 1 := by
    rw [Int64.toInt_sub, e1]
    apply Int.bmod_eq_of_le <;> omega
  exact ⟨by omega, by omega⟩
theorem rnd_nn (x : Int64) : 0 ≤ ((x.toUInt64 >>> ((33 : Int32).toInt64.toUInt64 &&& Int64.toUInt64 63)).toInt64).toInt32.toInt := by
  have e : ((33 : Int32).toInt64.toUInt64 &&& Int64.toUInt64 63) = 33 := by decide
  rw [e]
  have h1 : (x.toUInt64 >>> 33).toNat < 2147483648 := by
    rw [UInt64.toNat_shiftRight]
    have h2 : x.toUInt64.toNat < 18446744073709551616 := x.toUInt64.toNat_lt
    have h3 : (33 : UInt64).toNat % 64 = 33 := by decide
    rw [h3, Nat.shiftRight_eq_div_pow]
    omega
  have h2 : ((x.toUInt64 >>> 33).toInt64).toInt = ((x.toUInt64 >>> 33).toNat : Int) := by
    show ((x.toUInt64 >>> 33).toBitVec).toInt = _
    rw [BitVec.toInt_eq_toNat_of_lt]
    · rfl
    · show 2 * (x.toUInt64 >>> 33).toNat < _
      omega
  rw [Int64.toInt_toInt32, h2]
  have : ((((x.toUInt64 >>> 33).toNat : Int))).bmod (2 ^ 32) = ((x.toUInt64 >>> 33).toNat : Int) := by
    apply Int.bmod_eq_of_le <;> omega
  rw [this]
  omega
theorem rb_r (x : Int64) : RB ((((x.toUInt64 >>> ((33 : Int32).toInt64.toUInt64 &&& Int64.toUInt64 63)).toInt64).toInt32 / 4) - (((x.toUInt64 >>> ((33 : Int32).toInt64.toUInt64 &&& Int64.toUInt64 63)).toInt64).toInt32 / 4) / 10000 * 10000) := by
  have h := rnd_nn x
  have e : (4 : Int32).toInt = 4 := by decide
  refine rb_mod ?_
  rw [i32_div h (by rw [e]; decide), e]
  omega
