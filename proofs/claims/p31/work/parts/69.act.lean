/-! actions alike: state, what is remembered, answers -/
section ACT
variable {bf tf tc f oh lf ce ff : Nat → Int32} {C : Nat → ct4} {mf tt pn dd kk ki : Nat → Int32}
/-- an action is done by both: the new states are alike, so are all -/
theorem act_ok (I : INV bf tf tc f oh lf ce ff C mf tt pn dd kk ki) (pg : Nat → Option Nat) {f' oh' lf' ce' pn' : Nat → Int32} (s : SR f' oh' lf' ce' pn') :
    INV (P_X3_remember bf pg f oh lf ce (C (bf 5).toInt.toNat).1 (C (bf 5).toInt.toNat).2.1 (C (bf 5).toInt.toNat).2.2.1 (C (bf 5).toInt.toNat).2.2.2).1 tf tc f' oh' lf' ce' ff (updC C (bf 5).toInt.toNat ((P_X3_remember bf pg f oh lf ce (C (bf 5).toInt.toNat).1 (C (bf 5).toInt.toNat).2.1 (C (bf 5).toInt.toNat).2.2.1 (C (bf 5).toInt.toNat).2.2.2).2.1, (P_X3_remember bf pg f oh lf ce (C (bf 5).toInt.toNat).1 (C (bf 5).toInt.toNat).2.1 (C (bf 5).toInt.toNat).2.2.1 (C (bf 5).toInt.toNat).2.2.2).2.2.1, (P_X3_remember bf pg f oh lf ce (C (bf 5).toInt.toNat).1 (C (bf 5).toInt.toNat).2.1 (C (bf 5).toInt.toNat).2.2.1 (C (bf 5).toInt.toNat).2.2.2).2.2.2.1, (P_X3_remember bf pg f oh lf ce (C (bf 5).toInt.toNat).1 (C (bf 5).toInt.toNat).2.1 (C (bf 5).toInt.toNat).2.2.1 (C (bf 5).toInt.toNat).2.2.2).2.2.2.2)) (P_X4_note (upd mf 0 0) pn dd).1 tt pn' (P_X4_note (upd mf 0 0) pn dd).2 kk ki ∧ (P_X4_note (upd mf 0 0) pn dd).1 0 = 0 := by
  obtain ⟨t, s0, d, k⟩ := I
  have n := note_i (mf := upd mf 0 0) d.2.1 pn dd
  have hb := d.2.2.1
  have d' := dr_note (mf := upd mf 0 0) d s0 rfl pg
  have hx := rem_stk s0 bf pg (C (bf 5).toInt.toNat).1 (C (bf 5).toInt.toNat).2.1 (C (bf 5).toInt.toNat).2.2.1 (C (bf 5).toInt.toNat).2.2.2
  generalize P_X4_note (upd mf 0 0) pn dd = N at *
  generalize P_X3_remember bf pg f oh lf ce (C (bf 5).toInt.toNat).1 (C (bf 5).toInt.toNat).2.1 (C (bf 5).toInt.toNat).2.2.1 (C (bf 5).toInt.toNat).2.2.2 = R at *
  exact ⟨⟨t.up (n.2.1 2 (by decide)), s, d', kr_up k (by omega) hx⟩, n.2.1 0 (by decide)⟩
/-- an action that is refused changes nothing -/
theorem act_no (I : INV bf tf tc f oh lf ce ff C mf tt pn dd kk ki) (x : Int32) : INV bf tf tc f oh lf ce ff (updC C (bf 5).toInt.toNat ((C (bf 5).toInt.toNat).1, (C (bf 5).toInt.toNat).2.1, (C (bf 5).toInt.toNat).2.2.1, (C (bf 5).toInt.toNat).2.2.2)) (upd mf 0 x) tt pn dd kk ki := by
  have e : updC C (bf 5).toInt.toNat ((C (bf 5).toInt.toNat).1, (C (bf 5).toInt.toNat).2.1, (C (bf 5).toInt.toNat).2.2.1, (C (bf 5).toInt.toNat).2.2.2) = C := updC_id C _
  rw [e]
  exact inv_mf I rfl rfl

set_option maxHeartbeats 1000000 in
theorem a_press (I : INV bf tf tc f oh lf ce ff C mf tt pn dd kk ki) (pg : Nat → Option Nat) (rv : Int32) : ((P_X3_press bf pg f oh lf ce (C (bf 5).toInt.toNat).1 (C (bf 5).toInt.toNat).2.1 (C (bf 5).toInt.toNat).2.2.1 (C (bf 5).toInt.toNat).2.2.2 rv).1 = 0 ∨ (P_X3_press bf pg f oh lf ce (C (bf 5).toInt.toNat).1 (C (bf 5).toInt.toNat).2.1 (C (bf 5).toInt.toNat).2.2.1 (C (bf 5).toInt.toNat).2.2.2 rv).1 = 2) ∧ (P_X4_press mf pn dd rv).2.1 0 = hm 2 (P_X3_press bf pg f oh lf ce (C (bf 5).toInt.toNat).1 (C (bf 5).toInt.toNat).2.1 (C (bf 5).toInt.toNat).2.2.1 (C (bf 5).toInt.toNat).2.2.2 rv).1 ∧ ((P_X3_press bf pg f oh lf ce (C (bf 5).toInt.toNat).1 (C (bf 5).toInt.toNat).2.1 (C (bf 5).toInt.toNat).2.2.1 (C (bf 5).toInt.toNat).2.2.2 rv).1 = 0 → (P_X3_press bf pg f oh lf ce (C (bf 5).toInt.toNat).1 (C (bf 5).toInt.toNat).2.1 (C (bf 5).toInt.toNat).2.2.1 (C (bf 5).toInt.toNat).2.2.2 rv).2.1 = (P_X4_press mf pn dd rv).1) ∧ (¬ (P_X3_press bf pg f oh lf ce (C (bf 5).toInt.toNat).1 (C (bf 5).toInt.toNat).2.1 (C (bf 5).toInt.toNat).2.2.1 (C (bf 5).toInt.toNat).2.2.2 rv).1 = 0 → (P_X3_press bf pg f oh lf ce (C (bf 5).toInt.toNat).1 (C (bf 5).toInt.toNat).2.1 (C (bf 5).toInt.toNat).2.2.1 (C (bf 5).toInt.toNat).2.2.2 rv).2 = (0, bf, f, lf, ce, (C (bf 5).toInt.toNat).1, (C (bf 5).toInt.toNat).2.1, (C (bf 5).toInt.toNat).2.2.1, (C (bf 5).toInt.toNat).2.2.2)) ∧ INV (P_X3_press bf pg f oh lf ce (C (bf 5).toInt.toNat).1 (C (bf 5).toInt.toNat).2.1 (C (bf 5).toInt.toNat).2.2.1 (C (bf 5).toInt.toNat).2.2.2 rv).2.2.1 tf tc (P_X3_press bf pg f oh lf ce (C (bf 5).toInt.toNat).1 (C (bf 5).toInt.toNat).2.1 (C (bf 5).toInt.toNat).2.2.1 (C (bf 5).toInt.toNat).2.2.2 rv).2.2.2.1 oh (P_X3_press bf pg f oh lf ce (C (bf 5).toInt.toNat).1 (C (bf 5).toInt.toNat).2.1 (C (bf 5).toInt.toNat).2.2.1 (C (bf 5).toInt.toNat).2.2.2 rv).2.2.2.2.1 (P_X3_press bf pg f oh lf ce (C (bf 5).toInt.toNat).1 (C (bf 5).toInt.toNat).2.1 (C (bf 5).toInt.toNat).2.2.1 (C (bf 5).toInt.toNat).2.2.2 rv).2.2.2.2.2.1 ff (updC C (bf 5).toInt.toNat ((P_X3_press bf pg f oh lf ce (C (bf 5).toInt.toNat).1 (C (bf 5).toInt.toNat).2.1 (C (bf 5).toInt.toNat).2.2.1 (C (bf 5).toInt.toNat).2.2.2 rv).2.2.2.2.2.2.1, (P_X3_press bf pg f oh lf ce (C (bf 5).toInt.toNat).1 (C (bf 5).toInt.toNat).2.1 (C (bf 5).toInt.toNat).2.2.1 (C (bf 5).toInt.toNat).2.2.2 rv).2.2.2.2.2.2.2.1, (P_X3_press bf pg f oh lf ce (C (bf 5).toInt.toNat).1 (C (bf 5).toInt.toNat).2.1 (C (bf 5).toInt.toNat).2.2.1 (C (bf 5).toInt.toNat).2.2.2 rv).2.2.2.2.2.2.2.2.1, (P_X3_press bf pg f oh lf ce (C (bf 5).toInt.toNat).1 (C (bf 5).toInt.toNat).2.1 (C (bf 5).toInt.toNat).2.2.1 (C (bf 5).toInt.toNat).2.2.2 rv).2.2.2.2.2.2.2.2.2)) (P_X4_press mf pn dd rv).2.1 tt (P_X4_press mf pn dd rv).2.2.1 (P_X4_press mf pn dd rv).2.2.2 kk ki := by
  have e11 := I.2.1.2.1.2.2.1
  unfold P_X3_press P_X4_press
  rcases I.2.1.stk with k | k
  · rw [if_pos k, e11, k, ref_0]
    have A := sr_press I.2.1 rv
    dsimp only
    rw [if_pos rfl]
    dsimp only
    have B := act_ok I pg A.2
    generalize P_X1_pressKey f oh lf ce rv = u at *
    generalize P_X4_pressOn pn rv = w at *
    generalize P_X4_note (upd mf 0 0) pn dd = N at *
    exact ⟨Or.inl rfl, B.2, fun _ => A.1, fun q => absurd rfl q, B.1⟩
  · rw [if_neg (show ¬ f 9 = 0 by rw [k]; decide), e11, k, ref_1]
    dsimp only
    rw [if_neg (show ¬ (1 : Int32) = 0 by decide)]
    exact ⟨Or.inr rfl, rfl, fun q => absurd (show (2 : Int32) = 0 from q) (by decide), fun _ => rfl, act_no I 1⟩
set_option maxHeartbeats 1000000 in
theorem a_pair (I : INV bf tf tc f oh lf ce ff C mf tt pn dd kk ki) (pg : Nat → Option Nat)  : ((P_X3_pair bf pg f oh lf ce (C (bf 5).toInt.toNat).1 (C (bf 5).toInt.toNat).2.1 (C (bf 5).toInt.toNat).2.2.1 (C (bf 5).toInt.toNat).2.2.2).1 = 0 ∨ (P_X3_pair bf pg f oh lf ce (C (bf 5).toInt.toNat).1 (C (bf 5).toInt.toNat).2.1 (C (bf 5).toInt.toNat).2.2.1 (C (bf 5).toInt.toNat).2.2.2).1 = 2) ∧ (P_X4_pair mf pn dd).2.1 0 = hm 2 (P_X3_pair bf pg f oh lf ce (C (bf 5).toInt.toNat).1 (C (bf 5).toInt.toNat).2.1 (C (bf 5).toInt.toNat).2.2.1 (C (bf 5).toInt.toNat).2.2.2).1 ∧ ((P_X3_pair bf pg f oh lf ce (C (bf 5).toInt.toNat).1 (C (bf 5).toInt.toNat).2.1 (C (bf 5).toInt.toNat).2.2.1 (C (bf 5).toInt.toNat).2.2.2).1 = 0 → (P_X3_pair bf pg f oh lf ce (C (bf 5).toInt.toNat).1 (C (bf 5).toInt.toNat).2.1 (C (bf 5).toInt.toNat).2.2.1 (C (bf 5).toInt.toNat).2.2.2).2.1 = (P_X4_pair mf pn dd).1) ∧ (¬ (P_X3_pair bf pg f oh lf ce (C (bf 5).toInt.toNat).1 (C (bf 5).toInt.toNat).2.1 (C (bf 5).toInt.toNat).2.2.1 (C (bf 5).toInt.toNat).2.2.2).1 = 0 → (P_X3_pair bf pg f oh lf ce (C (bf 5).toInt.toNat).1 (C (bf 5).toInt.toNat).2.1 (C (bf 5).toInt.toNat).2.2.1 (C (bf 5).toInt.toNat).2.2.2).2 = (0, bf, f, lf, ce, (C (bf 5).toInt.toNat).1, (C (bf 5).toInt.toNat).2.1, (C (bf 5).toInt.toNat).2.2.1, (C (bf 5).toInt.toNat).2.2.2)) ∧ INV (P_X3_pair bf pg f oh lf ce (C (bf 5).toInt.toNat).1 (C (bf 5).toInt.toNat).2.1 (C (bf 5).toInt.toNat).2.2.1 (C (bf 5).toInt.toNat).2.2.2).2.2.1 tf tc (P_X3_pair bf pg f oh lf ce (C (bf 5).toInt.toNat).1 (C (bf 5).toInt.toNat).2.1 (C (bf 5).toInt.toNat).2.2.1 (C (bf 5).toInt.toNat).2.2.2).2.2.2.1 oh (P_X3_pair bf pg f oh lf ce (C (bf 5).toInt.toNat).1 (C (bf 5).toInt.toNat).2.1 (C (bf 5).toInt.toNat).2.2.1 (C (bf 5).toInt.toNat).2.2.2).2.2.2.2.1 (P_X3_pair bf pg f oh lf ce (C (bf 5).toInt.toNat).1 (C (bf 5).toInt.toNat).2.1 (C (bf 5).toInt.toNat).2.2.1 (C (bf 5).toInt.toNat).2.2.2).2.2.2.2.2.1 ff (updC C (bf 5).toInt.toNat ((P_X3_pair bf pg f oh lf ce (C (bf 5).toInt.toNat).1 (C (bf 5).toInt.toNat).2.1 (C (bf 5).toInt.toNat).2.2.1 (C (bf 5).toInt.toNat).2.2.2).2.2.2.2.2.2.1, (P_X3_pair bf pg f oh lf ce (C (bf 5).toInt.toNat).1 (C (bf 5).toInt.toNat).2.1 (C (bf 5).toInt.toNat).2.2.1 (C (bf 5).toInt.toNat).2.2.2).2.2.2.2.2.2.2.1, (P_X3_pair bf pg f oh lf ce (C (bf 5).toInt.toNat).1 (C (bf 5).toInt.toNat).2.1 (C (bf 5).toInt.toNat).2.2.1 (C (bf 5).toInt.toNat).2.2.2).2.2.2.2.2.2.2.2.1, (P_X3_pair bf pg f oh lf ce (C (bf 5).toInt.toNat).1 (C (bf 5).toInt.toNat).2.1 (C (bf 5).toInt.toNat).2.2.1 (C (bf 5).toInt.toNat).2.2.2).2.2.2.2.2.2.2.2.2)) (P_X4_pair mf pn dd).2.1 tt (P_X4_pair mf pn dd).2.2.1 (P_X4_pair mf pn dd).2.2.2 kk ki := by
  have e11 := I.2.1.2.1.2.2.1
  unfold P_X3_pair P_X4_pair
  rcases I.2.1.stk with k | k
  · rw [if_pos k, e11, k, ref_0]
    have A := sr_pair I.2.1
    dsimp only
    rw [if_pos rfl]
    dsimp only
    have B := act_ok I pg A.2
    generalize P_X1_pressBothWays f oh lf ce = u at *
    generalize P_X4_pairOn pn = w at *
    generalize P_X4_note (upd mf 0 0) pn dd = N at *
    exact ⟨Or.inl rfl, B.2, fun _ => A.1, fun q => absurd rfl q, B.1⟩
  · rw [if_neg (show ¬ f 9 = 0 by rw [k]; decide), e11, k, ref_1]
    dsimp only
    rw [if_neg (show ¬ (1 : Int32) = 0 by decide)]
    exact ⟨Or.inr rfl, rfl, fun q => absurd (show (2 : Int32) = 0 from q) (by decide), fun _ => rfl, act_no I 1⟩
set_option maxHeartbeats 1000000 in
theorem a_balance (I : INV bf tf tc f oh lf ce ff C mf tt pn dd kk ki) (pg : Nat → Option Nat)  : ((P_X3_balance bf pg f oh lf ce (C (bf 5).toInt.toNat).1 (C (bf 5).toInt.toNat).2.1 (C (bf 5).toInt.toNat).2.2.1 (C (bf 5).toInt.toNat).2.2.2).1 = 0 ∨ (P_X3_balance bf pg f oh lf ce (C (bf 5).toInt.toNat).1 (C (bf 5).toInt.toNat).2.1 (C (bf 5).toInt.toNat).2.2.1 (C (bf 5).toInt.toNat).2.2.2).1 = 2) ∧ (P_X4_balance mf pn dd).2.1 0 = hm 2 (P_X3_balance bf pg f oh lf ce (C (bf 5).toInt.toNat).1 (C (bf 5).toInt.toNat).2.1 (C (bf 5).toInt.toNat).2.2.1 (C (bf 5).toInt.toNat).2.2.2).1 ∧ ((P_X3_balance bf pg f oh lf ce (C (bf 5).toInt.toNat).1 (C (bf 5).toInt.toNat).2.1 (C (bf 5).toInt.toNat).2.2.1 (C (bf 5).toInt.toNat).2.2.2).1 = 0 → (P_X3_balance bf pg f oh lf ce (C (bf 5).toInt.toNat).1 (C (bf 5).toInt.toNat).2.1 (C (bf 5).toInt.toNat).2.2.1 (C (bf 5).toInt.toNat).2.2.2).2.1 = (P_X4_balance mf pn dd).1) ∧ (¬ (P_X3_balance bf pg f oh lf ce (C (bf 5).toInt.toNat).1 (C (bf 5).toInt.toNat).2.1 (C (bf 5).toInt.toNat).2.2.1 (C (bf 5).toInt.toNat).2.2.2).1 = 0 → (P_X3_balance bf pg f oh lf ce (C (bf 5).toInt.toNat).1 (C (bf 5).toInt.toNat).2.1 (C (bf 5).toInt.toNat).2.2.1 (C (bf 5).toInt.toNat).2.2.2).2 = (0, bf, f, lf, ce, (C (bf 5).toInt.toNat).1, (C (bf 5).toInt.toNat).2.1, (C (bf 5).toInt.toNat).2.2.1, (C (bf 5).toInt.toNat).2.2.2)) ∧ INV (P_X3_balance bf pg f oh lf ce (C (bf 5).toInt.toNat).1 (C (bf 5).toInt.toNat).2.1 (C (bf 5).toInt.toNat).2.2.1 (C (bf 5).toInt.toNat).2.2.2).2.2.1 tf tc (P_X3_balance bf pg f oh lf ce (C (bf 5).toInt.toNat).1 (C (bf 5).toInt.toNat).2.1 (C (bf 5).toInt.toNat).2.2.1 (C (bf 5).toInt.toNat).2.2.2).2.2.2.1 oh (P_X3_balance bf pg f oh lf ce (C (bf 5).toInt.toNat).1 (C (bf 5).toInt.toNat).2.1 (C (bf 5).toInt.toNat).2.2.1 (C (bf 5).toInt.toNat).2.2.2).2.2.2.2.1 (P_X3_balance bf pg f oh lf ce (C (bf 5).toInt.toNat).1 (C (bf 5).toInt.toNat).2.1 (C (bf 5).toInt.toNat).2.2.1 (C (bf 5).toInt.toNat).2.2.2).2.2.2.2.2.1 ff (updC C (bf 5).toInt.toNat ((P_X3_balance bf pg f oh lf ce (C (bf 5).toInt.toNat).1 (C (bf 5).toInt.toNat).2.1 (C (bf 5).toInt.toNat).2.2.1 (C (bf 5).toInt.toNat).2.2.2).2.2.2.2.2.2.1, (P_X3_balance bf pg f oh lf ce (C (bf 5).toInt.toNat).1 (C (bf 5).toInt.toNat).2.1 (C (bf 5).toInt.toNat).2.2.1 (C (bf 5).toInt.toNat).2.2.2).2.2.2.2.2.2.2.1, (P_X3_balance bf pg f oh lf ce (C (bf 5).toInt.toNat).1 (C (bf 5).toInt.toNat).2.1 (C (bf 5).toInt.toNat).2.2.1 (C (bf 5).toInt.toNat).2.2.2).2.2.2.2.2.2.2.2.1, (P_X3_balance bf pg f oh lf ce (C (bf 5).toInt.toNat).1 (C (bf 5).toInt.toNat).2.1 (C (bf 5).toInt.toNat).2.2.1 (C (bf 5).toInt.toNat).2.2.2).2.2.2.2.2.2.2.2.2)) (P_X4_balance mf pn dd).2.1 tt (P_X4_balance mf pn dd).2.2.1 (P_X4_balance mf pn dd).2.2.2 kk ki := by
  have e11 := I.2.1.2.1.2.2.1
  unfold P_X3_balance P_X4_balance
  rcases I.2.1.stk with k | k
  · rw [if_pos k, e11, k, ref_0]
    have A := sr_bal I.2.1 k
    dsimp only
    rw [if_pos rfl]
    dsimp only
    have B := act_ok I pg A
    generalize P_X1_balanceBox f oh lf ce = u at *
    generalize P_X4_balanceOn pn = w at *
    generalize P_X4_note (upd mf 0 0) pn dd = N at *
    exact ⟨Or.inl rfl, B.2, fun _ => A.lo (j := 2) (by decide), fun q => absurd rfl q, B.1⟩
  · rw [if_neg (show ¬ f 9 = 0 by rw [k]; decide), e11, k, ref_1]
    dsimp only
    rw [if_neg (show ¬ (1 : Int32) = 0 by decide)]
    exact ⟨Or.inr rfl, rfl, fun q => absurd (show (2 : Int32) = 0 from q) (by decide), fun _ => rfl, act_no I 1⟩
set_option maxHeartbeats 1000000 in
theorem a_pause (I : INV bf tf tc f oh lf ce ff C mf tt pn dd kk ki) (pg : Nat → Option Nat) (tk : Int32) : ((P_X3_pause bf pg f oh lf ce (C (bf 5).toInt.toNat).1 (C (bf 5).toInt.toNat).2.1 (C (bf 5).toInt.toNat).2.2.1 (C (bf 5).toInt.toNat).2.2.2 tk).1 = 0 ∨ (P_X3_pause bf pg f oh lf ce (C (bf 5).toInt.toNat).1 (C (bf 5).toInt.toNat).2.1 (C (bf 5).toInt.toNat).2.2.1 (C (bf 5).toInt.toNat).2.2.2 tk).1 = 1) ∧ (P_X4_pause mf pn dd tk).2.1 0 = hm 1 (P_X3_pause bf pg f oh lf ce (C (bf 5).toInt.toNat).1 (C (bf 5).toInt.toNat).2.1 (C (bf 5).toInt.toNat).2.2.1 (C (bf 5).toInt.toNat).2.2.2 tk).1 ∧ ((P_X3_pause bf pg f oh lf ce (C (bf 5).toInt.toNat).1 (C (bf 5).toInt.toNat).2.1 (C (bf 5).toInt.toNat).2.2.1 (C (bf 5).toInt.toNat).2.2.2 tk).1 = 0 → (P_X3_pause bf pg f oh lf ce (C (bf 5).toInt.toNat).1 (C (bf 5).toInt.toNat).2.1 (C (bf 5).toInt.toNat).2.2.1 (C (bf 5).toInt.toNat).2.2.2 tk).2.1 = (P_X4_pause mf pn dd tk).1) ∧ (¬ (P_X3_pause bf pg f oh lf ce (C (bf 5).toInt.toNat).1 (C (bf 5).toInt.toNat).2.1 (C (bf 5).toInt.toNat).2.2.1 (C (bf 5).toInt.toNat).2.2.2 tk).1 = 0 → (P_X3_pause bf pg f oh lf ce (C (bf 5).toInt.toNat).1 (C (bf 5).toInt.toNat).2.1 (C (bf 5).toInt.toNat).2.2.1 (C (bf 5).toInt.toNat).2.2.2 tk).2 = (0, bf, f, (C (bf 5).toInt.toNat).1, (C (bf 5).toInt.toNat).2.1, (C (bf 5).toInt.toNat).2.2.1, (C (bf 5).toInt.toNat).2.2.2)) ∧ INV (P_X3_pause bf pg f oh lf ce (C (bf 5).toInt.toNat).1 (C (bf 5).toInt.toNat).2.1 (C (bf 5).toInt.toNat).2.2.1 (C (bf 5).toInt.toNat).2.2.2 tk).2.2.1 tf tc (P_X3_pause bf pg f oh lf ce (C (bf 5).toInt.toNat).1 (C (bf 5).toInt.toNat).2.1 (C (bf 5).toInt.toNat).2.2.1 (C (bf 5).toInt.toNat).2.2.2 tk).2.2.2.1 oh lf ce ff (updC C (bf 5).toInt.toNat ((P_X3_pause bf pg f oh lf ce (C (bf 5).toInt.toNat).1 (C (bf 5).toInt.toNat).2.1 (C (bf 5).toInt.toNat).2.2.1 (C (bf 5).toInt.toNat).2.2.2 tk).2.2.2.2.1, (P_X3_pause bf pg f oh lf ce (C (bf 5).toInt.toNat).1 (C (bf 5).toInt.toNat).2.1 (C (bf 5).toInt.toNat).2.2.1 (C (bf 5).toInt.toNat).2.2.2 tk).2.2.2.2.2.1, (P_X3_pause bf pg f oh lf ce (C (bf 5).toInt.toNat).1 (C (bf 5).toInt.toNat).2.1 (C (bf 5).toInt.toNat).2.2.1 (C (bf 5).toInt.toNat).2.2.2 tk).2.2.2.2.2.2.1, (P_X3_pause bf pg f oh lf ce (C (bf 5).toInt.toNat).1 (C (bf 5).toInt.toNat).2.1 (C (bf 5).toInt.toNat).2.2.1 (C (bf 5).toInt.toNat).2.2.2 tk).2.2.2.2.2.2.2)) (P_X4_pause mf pn dd tk).2.1 tt (P_X4_pause mf pn dd tk).2.2.1 (P_X4_pause mf pn dd tk).2.2.2 kk ki := by
  unfold P_X3_pause P_X4_pause
  rcases io (v := tk) (lo := 1) (hi := 200) (l := 1) (h := 200) (by decide) (by decide) with ⟨a, b, c, d⟩ | ⟨a, b⟩
  · rw [if_pos a, if_neg b]
    have A := sr_wait I.2.1 tk
    dsimp only
    have B := act_ok I pg A
    generalize P_X1_waitTicks f tk = u at *
    generalize P_X4_waitOn pn tk = w at *
    generalize P_X4_note (upd mf 0 0) pn dd = N at *
    exact ⟨Or.inl rfl, B.2, fun _ => A.off, fun q => absurd rfl q, B.1⟩
  · rw [if_neg a, if_pos b]
    exact ⟨Or.inr rfl, rfl, fun q => absurd (show (1 : Int32) = 0 from q) (by decide), fun _ => rfl, act_no I 1⟩
set_option maxHeartbeats 1000000 in
theorem a_set (I : INV bf tf tc f oh lf ce ff C mf tt pn dd kk ki) (pg : Nat → Option Nat) (w v : Int32) : ((P_X3_set bf pg f oh lf ce (C (bf 5).toInt.toNat).1 (C (bf 5).toInt.toNat).2.1 (C (bf 5).toInt.toNat).2.2.1 (C (bf 5).toInt.toNat).2.2.2 w v).1 = 0 ∨ (P_X3_set bf pg f oh lf ce (C (bf 5).toInt.toNat).1 (C (bf 5).toInt.toNat).2.1 (C (bf 5).toInt.toNat).2.2.1 (C (bf 5).toInt.toNat).2.2.2 w v).1 = 1) ∧ (P_X4_set mf pn dd w v).2.1 0 = hm 1 (P_X3_set bf pg f oh lf ce (C (bf 5).toInt.toNat).1 (C (bf 5).toInt.toNat).2.1 (C (bf 5).toInt.toNat).2.2.1 (C (bf 5).toInt.toNat).2.2.2 w v).1 ∧ ((P_X3_set bf pg f oh lf ce (C (bf 5).toInt.toNat).1 (C (bf 5).toInt.toNat).2.1 (C (bf 5).toInt.toNat).2.2.1 (C (bf 5).toInt.toNat).2.2.2 w v).1 = 0 → (P_X3_set bf pg f oh lf ce (C (bf 5).toInt.toNat).1 (C (bf 5).toInt.toNat).2.1 (C (bf 5).toInt.toNat).2.2.1 (C (bf 5).toInt.toNat).2.2.2 w v).2.1 = (P_X4_set mf pn dd w v).1) ∧ (¬ (P_X3_set bf pg f oh lf ce (C (bf 5).toInt.toNat).1 (C (bf 5).toInt.toNat).2.1 (C (bf 5).toInt.toNat).2.2.1 (C (bf 5).toInt.toNat).2.2.2 w v).1 = 0 → (P_X3_set bf pg f oh lf ce (C (bf 5).toInt.toNat).1 (C (bf 5).toInt.toNat).2.1 (C (bf 5).toInt.toNat).2.2.1 (C (bf 5).toInt.toNat).2.2.2 w v).2 = (0, bf, f, (C (bf 5).toInt.toNat).1, (C (bf 5).toInt.toNat).2.1, (C (bf 5).toInt.toNat).2.2.1, (C (bf 5).toInt.toNat).2.2.2)) ∧ INV (P_X3_set bf pg f oh lf ce (C (bf 5).toInt.toNat).1 (C (bf 5).toInt.toNat).2.1 (C (bf 5).toInt.toNat).2.2.1 (C (bf 5).toInt.toNat).2.2.2 w v).2.2.1 tf tc (P_X3_set bf pg f oh lf ce (C (bf 5).toInt.toNat).1 (C (bf 5).toInt.toNat).2.1 (C (bf 5).toInt.toNat).2.2.1 (C (bf 5).toInt.toNat).2.2.2 w v).2.2.2.1 oh lf ce ff (updC C (bf 5).toInt.toNat ((P_X3_set bf pg f oh lf ce (C (bf 5).toInt.toNat).1 (C (bf 5).toInt.toNat).2.1 (C (bf 5).toInt.toNat).2.2.1 (C (bf 5).toInt.toNat).2.2.2 w v).2.2.2.2.1, (P_X3_set bf pg f oh lf ce (C (bf 5).toInt.toNat).1 (C (bf 5).toInt.toNat).2.1 (C (bf 5).toInt.toNat).2.2.1 (C (bf 5).toInt.toNat).2.2.2 w v).2.2.2.2.2.1, (P_X3_set bf pg f oh lf ce (C (bf 5).toInt.toNat).1 (C (bf 5).toInt.toNat).2.1 (C (bf 5).toInt.toNat).2.2.1 (C (bf 5).toInt.toNat).2.2.2 w v).2.2.2.2.2.2.1, (P_X3_set bf pg f oh lf ce (C (bf 5).toInt.toNat).1 (C (bf 5).toInt.toNat).2.1 (C (bf 5).toInt.toNat).2.2.1 (C (bf 5).toInt.toNat).2.2.2 w v).2.2.2.2.2.2.2)) (P_X4_set mf pn dd w v).2.1 tt (P_X4_set mf pn dd w v).2.2.1 (P_X4_set mf pn dd w v).2.2.2 kk ki := by
  unfold P_X3_set P_X4_set
  rw [mayBe_eq]
  by_cases a : P_X4_isSetting w v = 0
  · rw [if_pos a, if_pos a]
    exact ⟨Or.inr rfl, rfl, fun q => absurd (show (1 : Int32) = 0 from q) (by decide), fun _ => rfl, act_no I 1⟩
  · rw [if_neg a, if_neg a]
    have A := sr_set I.2.1 a
    dsimp only
    have B := act_ok I pg A.1
    generalize P_X1_change f w v = u at *
    generalize P_X4_note (upd mf 0 0) pn dd = N at *
    exact ⟨Or.inl rfl, B.2, fun _ => A.2, fun q => absurd rfl q, B.1⟩
set_option maxHeartbeats 1000000 in
theorem a_choose (I : INV bf tf tc f oh lf ce ff C mf tt pn dd kk ki) (pg : Nat → Option Nat) (i : Int32) : ((P_X3_choose bf pg f oh lf ce (C (bf 5).toInt.toNat).1 (C (bf 5).toInt.toNat).2.1 (C (bf 5).toInt.toNat).2.2.1 (C (bf 5).toInt.toNat).2.2.2 i).1 = 0 ∨ (P_X3_choose bf pg f oh lf ce (C (bf 5).toInt.toNat).1 (C (bf 5).toInt.toNat).2.1 (C (bf 5).toInt.toNat).2.2.1 (C (bf 5).toInt.toNat).2.2.2 i).1 = 3) ∧ (P_X4_choose mf pn dd i).2.1 0 = hm 3 (P_X3_choose bf pg f oh lf ce (C (bf 5).toInt.toNat).1 (C (bf 5).toInt.toNat).2.1 (C (bf 5).toInt.toNat).2.2.1 (C (bf 5).toInt.toNat).2.2.2 i).1 ∧ ((P_X3_choose bf pg f oh lf ce (C (bf 5).toInt.toNat).1 (C (bf 5).toInt.toNat).2.1 (C (bf 5).toInt.toNat).2.2.1 (C (bf 5).toInt.toNat).2.2.2 i).1 = 0 → (P_X3_choose bf pg f oh lf ce (C (bf 5).toInt.toNat).1 (C (bf 5).toInt.toNat).2.1 (C (bf 5).toInt.toNat).2.2.1 (C (bf 5).toInt.toNat).2.2.2 i).2.1 = (P_X4_choose mf pn dd i).1) ∧ (¬ (P_X3_choose bf pg f oh lf ce (C (bf 5).toInt.toNat).1 (C (bf 5).toInt.toNat).2.1 (C (bf 5).toInt.toNat).2.2.1 (C (bf 5).toInt.toNat).2.2.2 i).1 = 0 → (P_X3_choose bf pg f oh lf ce (C (bf 5).toInt.toNat).1 (C (bf 5).toInt.toNat).2.1 (C (bf 5).toInt.toNat).2.2.1 (C (bf 5).toInt.toNat).2.2.2 i).2 = (0, bf, f, (C (bf 5).toInt.toNat).1, (C (bf 5).toInt.toNat).2.1, (C (bf 5).toInt.toNat).2.2.1, (C (bf 5).toInt.toNat).2.2.2)) ∧ INV (P_X3_choose bf pg f oh lf ce (C (bf 5).toInt.toNat).1 (C (bf 5).toInt.toNat).2.1 (C (bf 5).toInt.toNat).2.2.1 (C (bf 5).toInt.toNat).2.2.2 i).2.2.1 tf tc (P_X3_choose bf pg f oh lf ce (C (bf 5).toInt.toNat).1 (C (bf 5).toInt.toNat).2.1 (C (bf 5).toInt.toNat).2.2.1 (C (bf 5).toInt.toNat).2.2.2 i).2.2.2.1 oh lf ce ff (updC C (bf 5).toInt.toNat ((P_X3_choose bf pg f oh lf ce (C (bf 5).toInt.toNat).1 (C (bf 5).toInt.toNat).2.1 (C (bf 5).toInt.toNat).2.2.1 (C (bf 5).toInt.toNat).2.2.2 i).2.2.2.2.1, (P_X3_choose bf pg f oh lf ce (C (bf 5).toInt.toNat).1 (C (bf 5).toInt.toNat).2.1 (C (bf 5).toInt.toNat).2.2.1 (C (bf 5).toInt.toNat).2.2.2 i).2.2.2.2.2.1, (P_X3_choose bf pg f oh lf ce (C (bf 5).toInt.toNat).1 (C (bf 5).toInt.toNat).2.1 (C (bf 5).toInt.toNat).2.2.1 (C (bf 5).toInt.toNat).2.2.2 i).2.2.2.2.2.2.1, (P_X3_choose bf pg f oh lf ce (C (bf 5).toInt.toNat).1 (C (bf 5).toInt.toNat).2.1 (C (bf 5).toInt.toNat).2.2.1 (C (bf 5).toInt.toNat).2.2.2 i).2.2.2.2.2.2.2)) (P_X4_choose mf pn dd i).2.1 tt (P_X4_choose mf pn dd i).2.2.1 (P_X4_choose mf pn dd i).2.2.2 kk ki := by
  unfold P_X3_choose P_X4_choose
  rcases I.2.1.unkn i with ⟨a, b⟩ | ⟨a, b, -⟩
  · rw [if_pos a, if_pos b]
    exact ⟨Or.inr rfl, rfl, fun q => absurd (show (3 : Int32) = 0 from q) (by decide), fun _ => rfl, act_no I 1⟩
  · rw [if_neg a, if_neg b]
    have A := sr_put I.2.1 b
    have e10 := I.2.1.2.1.2.1
    dsimp only
    have B := act_ok I pg A
    generalize P_X4_note (upd mf 0 0) pn dd = N at *
    exact ⟨Or.inl rfl, B.2, fun _ => e10.symm, fun q => absurd rfl q, B.1⟩
set_option maxHeartbeats 1000000 in
theorem a_add (I : INV bf tf tc f oh lf ce ff C mf tt pn dd kk ki) (pg : Nat → Option Nat) (x : Int32) : ((P_X3_add bf pg f oh lf ce (C (bf 5).toInt.toNat).1 (C (bf 5).toInt.toNat).2.1 (C (bf 5).toInt.toNat).2.2.1 (C (bf 5).toInt.toNat).2.2.2 x).1 = 0 ∨ (P_X3_add bf pg f oh lf ce (C (bf 5).toInt.toNat).1 (C (bf 5).toInt.toNat).2.1 (C (bf 5).toInt.toNat).2.2.1 (C (bf 5).toInt.toNat).2.2.2 x).1 = 1 ∨ (P_X3_add bf pg f oh lf ce (C (bf 5).toInt.toNat).1 (C (bf 5).toInt.toNat).2.1 (C (bf 5).toInt.toNat).2.2.1 (C (bf 5).toInt.toNat).2.2.2 x).1 = 2) ∧ (P_X4_add mf pn dd x).2.1 0 = hm 1 (P_X3_add bf pg f oh lf ce (C (bf 5).toInt.toNat).1 (C (bf 5).toInt.toNat).2.1 (C (bf 5).toInt.toNat).2.2.1 (C (bf 5).toInt.toNat).2.2.2 x).1 ∧ ((P_X3_add bf pg f oh lf ce (C (bf 5).toInt.toNat).1 (C (bf 5).toInt.toNat).2.1 (C (bf 5).toInt.toNat).2.2.1 (C (bf 5).toInt.toNat).2.2.2 x).1 = 0 → (P_X3_add bf pg f oh lf ce (C (bf 5).toInt.toNat).1 (C (bf 5).toInt.toNat).2.1 (C (bf 5).toInt.toNat).2.2.1 (C (bf 5).toInt.toNat).2.2.2 x).2.1 = (P_X4_add mf pn dd x).1) ∧ (¬ (P_X3_add bf pg f oh lf ce (C (bf 5).toInt.toNat).1 (C (bf 5).toInt.toNat).2.1 (C (bf 5).toInt.toNat).2.2.1 (C (bf 5).toInt.toNat).2.2.2 x).1 = 0 → (P_X3_add bf pg f oh lf ce (C (bf 5).toInt.toNat).1 (C (bf 5).toInt.toNat).2.1 (C (bf 5).toInt.toNat).2.2.1 (C (bf 5).toInt.toNat).2.2.2 x).2 = (0, bf, f, oh, (C (bf 5).toInt.toNat).1, (C (bf 5).toInt.toNat).2.1, (C (bf 5).toInt.toNat).2.2.1, (C (bf 5).toInt.toNat).2.2.2)) ∧ INV (P_X3_add bf pg f oh lf ce (C (bf 5).toInt.toNat).1 (C (bf 5).toInt.toNat).2.1 (C (bf 5).toInt.toNat).2.2.1 (C (bf 5).toInt.toNat).2.2.2 x).2.2.1 tf tc (P_X3_add bf pg f oh lf ce (C (bf 5).toInt.toNat).1 (C (bf 5).toInt.toNat).2.1 (C (bf 5).toInt.toNat).2.2.1 (C (bf 5).toInt.toNat).2.2.2 x).2.2.2.1 (P_X3_add bf pg f oh lf ce (C (bf 5).toInt.toNat).1 (C (bf 5).toInt.toNat).2.1 (C (bf 5).toInt.toNat).2.2.1 (C (bf 5).toInt.toNat).2.2.2 x).2.2.2.2.1 lf ce ff (updC C (bf 5).toInt.toNat ((P_X3_add bf pg f oh lf ce (C (bf 5).toInt.toNat).1 (C (bf 5).toInt.toNat).2.1 (C (bf 5).toInt.toNat).2.2.1 (C (bf 5).toInt.toNat).2.2.2 x).2.2.2.2.2.1, (P_X3_add bf pg f oh lf ce (C (bf 5).toInt.toNat).1 (C (bf 5).toInt.toNat).2.1 (C (bf 5).toInt.toNat).2.2.1 (C (bf 5).toInt.toNat).2.2.2 x).2.2.2.2.2.2.1, (P_X3_add bf pg f oh lf ce (C (bf 5).toInt.toNat).1 (C (bf 5).toInt.toNat).2.1 (C (bf 5).toInt.toNat).2.2.1 (C (bf 5).toInt.toNat).2.2.2 x).2.2.2.2.2.2.2.1, (P_X3_add bf pg f oh lf ce (C (bf 5).toInt.toNat).1 (C (bf 5).toInt.toNat).2.1 (C (bf 5).toInt.toNat).2.2.1 (C (bf 5).toInt.toNat).2.2.2 x).2.2.2.2.2.2.2.2)) (P_X4_add mf pn dd x).2.1 tt (P_X4_add mf pn dd x).2.2.1 (P_X4_add mf pn dd x).2.2.2 kk ki := by
  have z6 : (6 : Int32).toInt = 6 := by decide
  have z1 : (1 : Int32).toInt = 1 := by decide
  have z9 : (9999 : Int32).toInt = 9999 := by decide
  have e9 := I.2.1.2.1.1
  obtain ⟨p1, p2⟩ := I.2.1.pv.1
  unfold P_X3_add P_X4_add
  rcases io (v := x) (lo := 1) (hi := 9999) (l := 1) (h := 9999) (by decide) (by decide) with ⟨a, b, c, d⟩ | ⟨a, b⟩
  · rw [if_pos a, if_neg b]
    by_cases q : pn 9 = 6
    · rw [if_pos q, if_neg (by rw [Int32.lt_iff_toInt_lt, ← e9, q]; decide)]
      exact ⟨Or.inr (Or.inr rfl), rfl, fun q => absurd (show (2 : Int32) = 0 from q) (by decide), fun _ => rfl, act_no I 2⟩
    · have q6 : ¬ (pn 9).toInt = 6 := fun q2 => q (Int32.toInt_inj.mp (q2.trans z6.symm))
      rw [if_neg q, if_pos (by rw [Int32.lt_iff_toInt_lt, ← e9]; omega)]
      obtain ⟨A1, A2, A3⟩ := sr_add I.2.1 (x := x) ⟨by omega, by omega⟩ (by omega)
      dsimp only
      rw [A3]
      have B := act_ok I pg A1
      generalize P_X1_putUnknown f oh x = u at *
      generalize P_X4_note (upd mf 0 0) pn dd = N at *
      exact ⟨Or.inl rfl, B.2, fun _ => by rw [A2], fun q => absurd rfl q, B.1⟩
  · rw [if_neg a, if_pos b]
    exact ⟨Or.inr (Or.inl rfl), rfl, fun q => absurd (show (1 : Int32) = 0 from q) (by decide), fun _ => rfl, act_no I 1⟩
set_option maxHeartbeats 1000000 in
theorem a_free (I : INV bf tf tc f oh lf ce ff C mf tt pn dd kk ki) (pg : Nat → Option Nat) : (P_X4_free mf pn dd).2.1 0 = 0 ∧ (P_X3_free bf pg f oh lf ce (C (bf 5).toInt.toNat).1 (C (bf 5).toInt.toNat).2.1 (C (bf 5).toInt.toNat).2.2.1 (C (bf 5).toInt.toNat).2.2.2).1 = (P_X4_free mf pn dd).1 ∧ INV (P_X3_free bf pg f oh lf ce (C (bf 5).toInt.toNat).1 (C (bf 5).toInt.toNat).2.1 (C (bf 5).toInt.toNat).2.2.1 (C (bf 5).toInt.toNat).2.2.2).2.1 tf tc (P_X3_free bf pg f oh lf ce (C (bf 5).toInt.toNat).1 (C (bf 5).toInt.toNat).2.1 (C (bf 5).toInt.toNat).2.2.1 (C (bf 5).toInt.toNat).2.2.2).2.2.1 oh lf ce ff (updC C (bf 5).toInt.toNat ((P_X3_free bf pg f oh lf ce (C (bf 5).toInt.toNat).1 (C (bf 5).toInt.toNat).2.1 (C (bf 5).toInt.toNat).2.2.1 (C (bf 5).toInt.toNat).2.2.2).2.2.2.1, (P_X3_free bf pg f oh lf ce (C (bf 5).toInt.toNat).1 (C (bf 5).toInt.toNat).2.1 (C (bf 5).toInt.toNat).2.2.1 (C (bf 5).toInt.toNat).2.2.2).2.2.2.2.1, (P_X3_free bf pg f oh lf ce (C (bf 5).toInt.toNat).1 (C (bf 5).toInt.toNat).2.1 (C (bf 5).toInt.toNat).2.2.1 (C (bf 5).toInt.toNat).2.2.2).2.2.2.2.2.1, (P_X3_free bf pg f oh lf ce (C (bf 5).toInt.toNat).1 (C (bf 5).toInt.toNat).2.1 (C (bf 5).toInt.toNat).2.2.1 (C (bf 5).toInt.toNat).2.2.2).2.2.2.2.2.2)) (P_X4_free mf pn dd).2.1 tt (P_X4_free mf pn dd).2.2.1 (P_X4_free mf pn dd).2.2.2 kk ki := by
  have e11 := I.2.1.2.1.2.2.1
  have A := sr_free I.2.1
  have B := act_ok I pg A
  unfold P_X3_free P_X4_free
  rcases I.2.1.stk with k | k
  · have c : ∀ x y : Int32 × (Nat → Int32) × (Nat → Int32) × (Nat → Int32) × (Nat → Int32) × (Nat → Int32) × (Nat → Int32), (if f 9 = 0 then x else y) = x := fun x y => if_pos k
    dsimp only
    rw [c, e11, k]
    exact ⟨B.2, rfl, B.1⟩
  · have c : ∀ x y : Int32 × (Nat → Int32) × (Nat → Int32) × (Nat → Int32) × (Nat → Int32) × (Nat → Int32) × (Nat → Int32), (if f 9 = 0 then x else y) = y := fun x y => if_neg (by rw [k]; decide)
    dsimp only
    rw [c, e11, k]
    exact ⟨B.2, rfl, B.1⟩
theorem page_c {n : Nat} {dd pn : Nat → Int32} {x : Int32} {a : Nat} (hc : CP n x) (hx : x.toInt = a) {j : Nat} (hj : j < 101) : P_X4_copyPage n 101 dd pn x 0 j = dd (a + j) := by
  rw [copy_eq hc cp0]
  have z0 : (0 : Int32).toInt.toNat = 0 := by decide
  show (if (0 : Int32).toInt.toNat ≤ j ∧ j < (0 : Int32).toInt.toNat + 101 then dd (x.toInt.toNat + (j - (0 : Int32).toInt.toNat)) else pn j) = _
  rw [z0, if_pos (by omega)]
  exact congrArg dd (by omega)
theorem undo_k (I : INV bf tf tc f oh lf ce ff C mf tt pn dd kk ki) : (if bf 5 ≤ 0 then 13 else bf 5 - 1 : Int32).toInt.toNat = ((bf 5).toInt.toNat + 13) % 14 ∧ 0 ≤ (if bf 5 ≤ 0 then 13 else bf 5 - 1 : Int32).toInt ∧ (if bf 5 ≤ 0 then 13 else bf 5 - 1 : Int32).toInt ≤ 13 := by
  obtain ⟨b0, b1⟩ := I.2.2.1.2.2.1
  have z0 : (0 : Int32).toInt = 0 := by decide
  have z1 : (1 : Int32).toInt = 1 := by decide
  have z13 : (13 : Int32).toInt = 13 := by decide
  have s := toI_sub (a := bf 5) (b := 1) (by omega) (by omega)
  by_cases c : bf 5 ≤ 0
  · rw [if_pos c]
    rw [Int32.le_iff_toInt_le] at c
    omega
  · rw [if_neg c]
    rw [Int32.le_iff_toInt_le] at c
    omega
set_option maxHeartbeats 1000000 in
theorem a_undo (I : INV bf tf tc f oh lf ce ff C mf tt pn dd kk ki) (pg : Nat → Option Nat) : ((P_X3_undo bf pg f oh lf ce (C (if bf 5 ≤ 0 then 13 else bf 5 - 1 : Int32).toInt.toNat).1 (C (if bf 5 ≤ 0 then 13 else bf 5 - 1 : Int32).toInt.toNat).2.1 (C (if bf 5 ≤ 0 then 13 else bf 5 - 1 : Int32).toInt.toNat).2.2.1 (C (if bf 5 ≤ 0 then 13 else bf 5 - 1 : Int32).toInt.toNat).2.2.2).1 = 0 ∨ (P_X3_undo bf pg f oh lf ce (C (if bf 5 ≤ 0 then 13 else bf 5 - 1 : Int32).toInt.toNat).1 (C (if bf 5 ≤ 0 then 13 else bf 5 - 1 : Int32).toInt.toNat).2.1 (C (if bf 5 ≤ 0 then 13 else bf 5 - 1 : Int32).toInt.toNat).2.2.1 (C (if bf 5 ≤ 0 then 13 else bf 5 - 1 : Int32).toInt.toNat).2.2.2).1 = 2) ∧ (P_X4_undo mf pn dd).2.1 0 = hm 2 (P_X3_undo bf pg f oh lf ce (C (if bf 5 ≤ 0 then 13 else bf 5 - 1 : Int32).toInt.toNat).1 (C (if bf 5 ≤ 0 then 13 else bf 5 - 1 : Int32).toInt.toNat).2.1 (C (if bf 5 ≤ 0 then 13 else bf 5 - 1 : Int32).toInt.toNat).2.2.1 (C (if bf 5 ≤ 0 then 13 else bf 5 - 1 : Int32).toInt.toNat).2.2.2).1 ∧ ((P_X3_undo bf pg f oh lf ce (C (if bf 5 ≤ 0 then 13 else bf 5 - 1 : Int32).toInt.toNat).1 (C (if bf 5 ≤ 0 then 13 else bf 5 - 1 : Int32).toInt.toNat).2.1 (C (if bf 5 ≤ 0 then 13 else bf 5 - 1 : Int32).toInt.toNat).2.2.1 (C (if bf 5 ≤ 0 then 13 else bf 5 - 1 : Int32).toInt.toNat).2.2.2).1 = 0 → (P_X3_undo bf pg f oh lf ce (C (if bf 5 ≤ 0 then 13 else bf 5 - 1 : Int32).toInt.toNat).1 (C (if bf 5 ≤ 0 then 13 else bf 5 - 1 : Int32).toInt.toNat).2.1 (C (if bf 5 ≤ 0 then 13 else bf 5 - 1 : Int32).toInt.toNat).2.2.1 (C (if bf 5 ≤ 0 then 13 else bf 5 - 1 : Int32).toInt.toNat).2.2.2).2.1 = (P_X4_undo mf pn dd).1) ∧ (¬ (P_X3_undo bf pg f oh lf ce (C (if bf 5 ≤ 0 then 13 else bf 5 - 1 : Int32).toInt.toNat).1 (C (if bf 5 ≤ 0 then 13 else bf 5 - 1 : Int32).toInt.toNat).2.1 (C (if bf 5 ≤ 0 then 13 else bf 5 - 1 : Int32).toInt.toNat).2.2.1 (C (if bf 5 ≤ 0 then 13 else bf 5 - 1 : Int32).toInt.toNat).2.2.2).1 = 0 → (P_X3_undo bf pg f oh lf ce (C (if bf 5 ≤ 0 then 13 else bf 5 - 1 : Int32).toInt.toNat).1 (C (if bf 5 ≤ 0 then 13 else bf 5 - 1 : Int32).toInt.toNat).2.1 (C (if bf 5 ≤ 0 then 13 else bf 5 - 1 : Int32).toInt.toNat).2.2.1 (C (if bf 5 ≤ 0 then 13 else bf 5 - 1 : Int32).toInt.toNat).2.2.2).2 = (0, bf, f, oh, lf, ce)) ∧ INV (P_X3_undo bf pg f oh lf ce (C (if bf 5 ≤ 0 then 13 else bf 5 - 1 : Int32).toInt.toNat).1 (C (if bf 5 ≤ 0 then 13 else bf 5 - 1 : Int32).toInt.toNat).2.1 (C (if bf 5 ≤ 0 then 13 else bf 5 - 1 : Int32).toInt.toNat).2.2.1 (C (if bf 5 ≤ 0 then 13 else bf 5 - 1 : Int32).toInt.toNat).2.2.2).2.2.1 tf tc (P_X3_undo bf pg f oh lf ce (C (if bf 5 ≤ 0 then 13 else bf 5 - 1 : Int32).toInt.toNat).1 (C (if bf 5 ≤ 0 then 13 else bf 5 - 1 : Int32).toInt.toNat).2.1 (C (if bf 5 ≤ 0 then 13 else bf 5 - 1 : Int32).toInt.toNat).2.2.1 (C (if bf 5 ≤ 0 then 13 else bf 5 - 1 : Int32).toInt.toNat).2.2.2).2.2.2.1 (P_X3_undo bf pg f oh lf ce (C (if bf 5 ≤ 0 then 13 else bf 5 - 1 : Int32).toInt.toNat).1 (C (if bf 5 ≤ 0 then 13 else bf 5 - 1 : Int32).toInt.toNat).2.1 (C (if bf 5 ≤ 0 then 13 else bf 5 - 1 : Int32).toInt.toNat).2.2.1 (C (if bf 5 ≤ 0 then 13 else bf 5 - 1 : Int32).toInt.toNat).2.2.2).2.2.2.2.1 (P_X3_undo bf pg f oh lf ce (C (if bf 5 ≤ 0 then 13 else bf 5 - 1 : Int32).toInt.toNat).1 (C (if bf 5 ≤ 0 then 13 else bf 5 - 1 : Int32).toInt.toNat).2.1 (C (if bf 5 ≤ 0 then 13 else bf 5 - 1 : Int32).toInt.toNat).2.2.1 (C (if bf 5 ≤ 0 then 13 else bf 5 - 1 : Int32).toInt.toNat).2.2.2).2.2.2.2.2.1 (P_X3_undo bf pg f oh lf ce (C (if bf 5 ≤ 0 then 13 else bf 5 - 1 : Int32).toInt.toNat).1 (C (if bf 5 ≤ 0 then 13 else bf 5 - 1 : Int32).toInt.toNat).2.1 (C (if bf 5 ≤ 0 then 13 else bf 5 - 1 : Int32).toInt.toNat).2.2.1 (C (if bf 5 ≤ 0 then 13 else bf 5 - 1 : Int32).toInt.toNat).2.2.2).2.2.2.2.2.2 ff C (P_X4_undo mf pn dd).2.1 tt (P_X4_undo mf pn dd).2.2 dd kk ki := by
  obtain ⟨k1, k2, k3⟩ := undo_k I
  obtain ⟨t, s, ⟨h4, ⟨a0, a1⟩, ⟨b0, b1⟩, hs⟩, kr⟩ := id I
  have z0 : (0 : Int32).toInt = 0 := by decide
  have z1 : (1 : Int32).toInt = 1 := by decide
  have E : (P_X3_undo bf pg f oh lf ce (C (if bf 5 ≤ 0 then 13 else bf 5 - 1 : Int32).toInt.toNat).1 (C (if bf 5 ≤ 0 then 13 else bf 5 - 1 : Int32).toInt.toNat).2.1 (C (if bf 5 ≤ 0 then 13 else bf 5 - 1 : Int32).toInt.toNat).2.2.1 (C (if bf 5 ≤ 0 then 13 else bf 5 - 1 : Int32).toInt.toNat).2.2.2) = (if 0 < (bf 4) then (0, ((bf 4) - 1), (upd (upd bf 5 (if bf 5 ≤ 0 then 13 else bf 5 - 1 : Int32)) 4 ((bf 4) - 1)), (P_X1_copyFrom f oh lf ce (C (if bf 5 ≤ 0 then 13 else bf 5 - 1 : Int32).toInt.toNat).1 (C (if bf 5 ≤ 0 then 13 else bf 5 - 1 : Int32).toInt.toNat).2.1 (C (if bf 5 ≤ 0 then 13 else bf 5 - 1 : Int32).toInt.toNat).2.2.1 (C (if bf 5 ≤ 0 then 13 else bf 5 - 1 : Int32).toInt.toNat).2.2.2).1, (P_X1_copyFrom f oh lf ce (C (if bf 5 ≤ 0 then 13 else bf 5 - 1 : Int32).toInt.toNat).1 (C (if bf 5 ≤ 0 then 13 else bf 5 - 1 : Int32).toInt.toNat).2.1 (C (if bf 5 ≤ 0 then 13 else bf 5 - 1 : Int32).toInt.toNat).2.2.1 (C (if bf 5 ≤ 0 then 13 else bf 5 - 1 : Int32).toInt.toNat).2.2.2).2.1, (P_X1_copyFrom f oh lf ce (C (if bf 5 ≤ 0 then 13 else bf 5 - 1 : Int32).toInt.toNat).1 (C (if bf 5 ≤ 0 then 13 else bf 5 - 1 : Int32).toInt.toNat).2.1 (C (if bf 5 ≤ 0 then 13 else bf 5 - 1 : Int32).toInt.toNat).2.2.1 (C (if bf 5 ≤ 0 then 13 else bf 5 - 1 : Int32).toInt.toNat).2.2.2).2.2.1, (P_X1_copyFrom f oh lf ce (C (if bf 5 ≤ 0 then 13 else bf 5 - 1 : Int32).toInt.toNat).1 (C (if bf 5 ≤ 0 then 13 else bf 5 - 1 : Int32).toInt.toNat).2.1 (C (if bf 5 ≤ 0 then 13 else bf 5 - 1 : Int32).toInt.toNat).2.2.1 (C (if bf 5 ≤ 0 then 13 else bf 5 - 1 : Int32).toInt.toNat).2.2.2).2.2.2) else (2, 0, bf, f, oh, lf, ce)) := by
    unfold P_X3_undo
    by_cases c : bf 5 ≤ 0
    · rw [if_pos c, if_pos c]
    · rw [if_neg c, if_neg c]
  rw [E]
  clear E
  unfold P_X4_undo
  by_cases c : mf 8 = 0
  · rw [if_pos c, if_neg (by rw [h4, c]; decide)]
    exact ⟨Or.inr rfl, rfl, fun q => absurd (show (2 : Int32) = 0 from q) (by decide), fun _ => rfl, inv_mf I rfl rfl⟩
  · have c' : ¬ (mf 8).toInt = 0 := fun q => c (Int32.toInt_inj.mp (q.trans z0.symm))
    rw [if_neg c, if_pos (by rw [Int32.lt_iff_toInt_lt, h4]; omega)]
    dsimp only
    have s1 := toI_sub (a := mf 8) (b := 1) (by omega) (by omega)
    have e8 : (upd (upd mf 0 0) 8 (mf 8 - 1)) 8 = mf 8 - 1 := upd_me
    have e5 : (upd (upd bf 5 (if bf 5 ≤ 0 then 13 else bf 5 - 1 : Int32)) 4 ((bf 4) - 1)) 5 = (if bf 5 ≤ 0 then 13 else bf 5 - 1 : Int32) := by rw [upd_o (by decide), upd_me]
    have hl := hs ((mf 8).toInt.toNat - 1) (by omega)
    have ep : pix (bf 5).toInt.toNat (mf 8).toInt.toNat ((mf 8).toInt.toNat - 1) = (if bf 5 ≤ 0 then 13 else bf 5 - 1 : Int32).toInt.toNat := by
      rw [k1]
      unfold pix
      omega
    rw [ep] at hl
    have m := m101 (x := mf 8 - 1) (a := (mf 8).toInt - 1) (by omega) (by omega) (by omega)
    have hp : SR (P_X1_copyFrom f oh lf ce (C (if bf 5 ≤ 0 then 13 else bf 5 - 1 : Int32).toInt.toNat).1 (C (if bf 5 ≤ 0 then 13 else bf 5 - 1 : Int32).toInt.toNat).2.1 (C (if bf 5 ≤ 0 then 13 else bf 5 - 1 : Int32).toInt.toNat).2.2.1 (C (if bf 5 ≤ 0 then 13 else bf 5 - 1 : Int32).toInt.toNat).2.2.2).1 (P_X1_copyFrom f oh lf ce (C (if bf 5 ≤ 0 then 13 else bf 5 - 1 : Int32).toInt.toNat).1 (C (if bf 5 ≤ 0 then 13 else bf 5 - 1 : Int32).toInt.toNat).2.1 (C (if bf 5 ≤ 0 then 13 else bf 5 - 1 : Int32).toInt.toNat).2.2.1 (C (if bf 5 ≤ 0 then 13 else bf 5 - 1 : Int32).toInt.toNat).2.2.2).2.1 (P_X1_copyFrom f oh lf ce (C (if bf 5 ≤ 0 then 13 else bf 5 - 1 : Int32).toInt.toNat).1 (C (if bf 5 ≤ 0 then 13 else bf 5 - 1 : Int32).toInt.toNat).2.1 (C (if bf 5 ≤ 0 then 13 else bf 5 - 1 : Int32).toInt.toNat).2.2.1 (C (if bf 5 ≤ 0 then 13 else bf 5 - 1 : Int32).toInt.toNat).2.2.2).2.2.1 (P_X1_copyFrom f oh lf ce (C (if bf 5 ≤ 0 then 13 else bf 5 - 1 : Int32).toInt.toNat).1 (C (if bf 5 ≤ 0 then 13 else bf 5 - 1 : Int32).toInt.toNat).2.1 (C (if bf 5 ≤ 0 then 13 else bf 5 - 1 : Int32).toInt.toNat).2.2.1 (C (if bf 5 ≤ 0 then 13 else bf 5 - 1 : Int32).toInt.toNat).2.2.2).2.2.2 (P_X4_copyPage 1414 101 dd pn (101 * (mf 8 - 1)) 0) :=
      sr_pg (sr_copy hl f oh lf ce) (fun j hj => page_c (cp_u ⟨a0, a1⟩ c) (a := 101 * ((mf 8).toInt.toNat - 1)) (by rw [m]; omega) hj)
    refine ⟨Or.inl rfl, rfl, fun _ => by rw [h4], fun q => absurd rfl q, t.up rfl, hp, ⟨?_, ?_, ?_, fun i hi => ?_⟩, kr⟩
    · show (upd (upd bf 5 (if bf 5 ≤ 0 then 13 else bf 5 - 1 : Int32)) 4 ((bf 4) - 1)) 4 = (upd (upd mf 0 0) 8 (mf 8 - 1)) 8
      rw [e8, upd_me, h4]
    · rw [e8]
      exact ⟨by omega, by omega⟩
    · rw [e5]
      exact k2 |> fun q => ⟨q, k3⟩
    · rw [e8] at hi ⊢
      rw [e5]
      have ei : pix (if bf 5 ≤ 0 then 13 else bf 5 - 1 : Int32).toInt.toNat (mf 8 - 1).toInt.toNat i = pix (bf 5).toInt.toNat (mf 8).toInt.toNat i := by
        rw [k1, s1]
        unfold pix
        omega
      rw [ei]
      exact hs i (by omega)
theorem sl_2 {x : Int32} (h : ¬ P_X4_in x.toInt64 0 1 = 0) : ∃ s : Nat, s < 2 ∧ x.toInt = s ∧ x.toInt.toNat = s ∧ x.toNatClampNeg = s := by
  rcases sl_i h with q | q
  · subst q; exact ⟨0, by decide, by decide, by decide, by decide⟩
  · subst q; exact ⟨1, by decide, by decide, by decide, by decide⟩
set_option maxHeartbeats 1000000 in
theorem a_save (I : INV bf tf tc f oh lf ce ff C mf tt pn dd kk ki) (pg : Nat → Option Nat) (slt : Int32) (kx : Nat) (hkx : P_X3_outside slt 0 1 = 0 → kx = 14 + slt.toInt.toNat) : ((P_X3_save bf pg ff f oh lf ce (C kx).1 (C kx).2.1 (C kx).2.2.1 (C kx).2.2.2 slt).1 = 0 ∨ (P_X3_save bf pg ff f oh lf ce (C kx).1 (C kx).2.1 (C kx).2.2.1 (C kx).2.2.2 slt).1 = 3) ∧ (P_X4_save mf pn kk ki slt).2.1 = upd mf 0 (hm 3 (P_X3_save bf pg ff f oh lf ce (C kx).1 (C kx).2.1 (C kx).2.2.1 (C kx).2.2.2 slt).1) ∧ ((P_X3_save bf pg ff f oh lf ce (C kx).1 (C kx).2.1 (C kx).2.2.1 (C kx).2.2.2 slt).1 = 0 → (P_X3_save bf pg ff f oh lf ce (C kx).1 (C kx).2.1 (C kx).2.2.1 (C kx).2.2.2 slt).2.1 = (P_X4_save mf pn kk ki slt).1) ∧ (¬ (P_X3_save bf pg ff f oh lf ce (C kx).1 (C kx).2.1 (C kx).2.2.1 (C kx).2.2.2 slt).1 = 0 → (P_X3_save bf pg ff f oh lf ce (C kx).1 (C kx).2.1 (C kx).2.2.1 (C kx).2.2.2 slt).2 = (0, ff, (C kx).1, (C kx).2.1, (C kx).2.2.1, (C kx).2.2.2)) ∧ INV bf tf tc f oh lf ce (P_X3_save bf pg ff f oh lf ce (C kx).1 (C kx).2.1 (C kx).2.2.1 (C kx).2.2.2 slt).2.2.1 (updC C kx ((P_X3_save bf pg ff f oh lf ce (C kx).1 (C kx).2.1 (C kx).2.2.1 (C kx).2.2.2 slt).2.2.2.1, (P_X3_save bf pg ff f oh lf ce (C kx).1 (C kx).2.1 (C kx).2.2.1 (C kx).2.2.2 slt).2.2.2.2.1, (P_X3_save bf pg ff f oh lf ce (C kx).1 (C kx).2.1 (C kx).2.2.1 (C kx).2.2.2 slt).2.2.2.2.2.1, (P_X3_save bf pg ff f oh lf ce (C kx).1 (C kx).2.1 (C kx).2.2.1 (C kx).2.2.2 slt).2.2.2.2.2.2)) (P_X4_save mf pn kk ki slt).2.1 tt pn dd (P_X4_save mf pn kk ki slt).2.2.1 (P_X4_save mf pn kk ki slt).2.2.2 := by
  obtain ⟨t, s, d, kr⟩ := id I
  have z2 : (2 : Int32).toInt = 2 := by decide
  unfold P_X3_save P_X4_save
  rcases io (v := slt) (lo := 0) (hi := 1) (l := 0) (h := 1) (by decide) (by decide) with ⟨a, b, c1, d1⟩ | ⟨a, b⟩
  · obtain ⟨x, x1, x2, x3, x4⟩ := sl_2 b
    have ek := hkx a
    rw [x3] at ek
    subst ek
    rw [if_pos a, if_neg b, if_pos (by rw [Int32.lt_iff_toInt_lt]; omega), x4]
    dsimp only
    have sc := sr_copy s (C (14 + x)).1 (C (14 + x)).2.1 (C (14 + x)).2.2.1 (C (14 + x)).2.2.2
    generalize P_X1_copyFrom (C (14 + x)).1 (C (14 + x)).2.1 (C (14 + x)).2.2.1 (C (14 + x)).2.2.2 f oh lf ce = u at *
    have m := m101 (x := slt) (a := (x : Int)) x2 (by omega) (by omega)
    have zt : (0 : Int32).toInt.toNat = 0 := by decide
    refine ⟨Or.inl rfl, rfl, fun _ => s.lo (j := 8) (by decide), fun q => absurd rfl q, t.up rfl, s, ⟨d.1, d.2.1, d.2.2.1, fun i hi => ?_⟩, pz_up kr.1 sc.stk, fun s' hs' => ?_⟩
    · have hp : pix (bf 5).toInt.toNat (mf 8).toInt.toNat i < 14 := Nat.mod_lt _ (by decide)
      show SRc (updC C (14 + x) (u.1, u.2.1, u.2.2.1, u.2.2.2) (pix (bf 5).toInt.toNat (mf 8).toInt.toNat i)) (fun j => dd (101 * i + j))
      rw [updC_o (by omega)]
      exact d.2.2.2 i hi
    · obtain ⟨k1, k2, k3⟩ := kr.2 s' hs'
      by_cases q : s' = x
      · subst q
        refine ⟨?_, Or.inr upd_me, fun _ => ?_⟩
        · rw [upd_me, upd_me]
        · rw [updC_me]
          refine sr_pg sc (fun j hj => ?_)
          rw [copy_eq cp0 (cp_s b)]
          show (if (101 * slt).toInt.toNat ≤ 101 * s' + j ∧ 101 * s' + j < (101 * slt).toInt.toNat + 101 then pn ((0 : Int32).toInt.toNat + (101 * s' + j - (101 * slt).toInt.toNat)) else kk (101 * s' + j)) = _
          rw [m, zt, if_pos (by omega)]
          exact congrArg pn (by omega)
      · rw [upd_o q, upd_o q]
        refine ⟨k1, k2, fun q2 => ?_⟩
        rw [updC_o (by omega)]
        refine sr_pg (k3 q2) (fun j hj => ?_)
        rw [copy_eq cp0 (cp_s b)]
        show (if (101 * slt).toInt.toNat ≤ 101 * s' + j ∧ 101 * s' + j < (101 * slt).toInt.toNat + 101 then pn ((0 : Int32).toInt.toNat + (101 * s' + j - (101 * slt).toInt.toNat)) else kk (101 * s' + j)) = _
        rw [m, if_neg (by omega)]
  · rw [if_neg a, if_pos b]
    refine ⟨Or.inr rfl, rfl, fun q => absurd (show (3 : Int32) = 0 from q) (by decide), fun _ => rfl, ?_⟩
    have e : updC C kx ((C kx).1, (C kx).2.1, (C kx).2.2.1, (C kx).2.2.2) = C := updC_id C _
    rw [e]
    exact inv_mf I rfl rfl
theorem dr_0 {bf : Nat → Int32} {C : Nat → ct4} {mf dd : Nat → Int32} (h4 : bf 4 = 0) (h5 : bf 5 = 0) (h8 : mf 8 = 0) : DR bf C mf dd := by
  refine ⟨by rw [h4, h8], by rw [h8]; exact ⟨by decide, by decide⟩, by rw [h5]; exact ⟨by decide, by decide⟩, fun i hi => ?_⟩
  rw [h8] at hi
  have z : (0 : Int32).toInt = 0 := by decide
  omega
set_option maxHeartbeats 1000000 in
theorem a_restore (I : INV bf tf tc f oh lf ce ff C mf tt pn dd kk ki) (pg : Nat → Option Nat) (slt : Int32) (kx : Nat) (hkx : P_X3_outside slt 0 1 = 0 → kx = 14 + slt.toInt.toNat) : ((P_X3_restore bf pg ff f oh lf ce (C kx).1 (C kx).2.1 (C kx).2.2.1 (C kx).2.2.2 slt).1 = 0 ∨ (P_X3_restore bf pg ff f oh lf ce (C kx).1 (C kx).2.1 (C kx).2.2.1 (C kx).2.2.2 slt).1 = 3 ∨ (P_X3_restore bf pg ff f oh lf ce (C kx).1 (C kx).2.1 (C kx).2.2.1 (C kx).2.2.2 slt).1 = 2) ∧ (P_X4_restore mf pn kk ki slt).2.1 0 = hm 3 (P_X3_restore bf pg ff f oh lf ce (C kx).1 (C kx).2.1 (C kx).2.2.1 (C kx).2.2.2 slt).1 ∧ ((P_X3_restore bf pg ff f oh lf ce (C kx).1 (C kx).2.1 (C kx).2.2.1 (C kx).2.2.2 slt).1 = 0 → (P_X3_restore bf pg ff f oh lf ce (C kx).1 (C kx).2.1 (C kx).2.2.1 (C kx).2.2.2 slt).2.1 = (P_X4_restore mf pn kk ki slt).1) ∧ (¬ (P_X3_restore bf pg ff f oh lf ce (C kx).1 (C kx).2.1 (C kx).2.2.1 (C kx).2.2.2 slt).1 = 0 → (P_X3_restore bf pg ff f oh lf ce (C kx).1 (C kx).2.1 (C kx).2.2.1 (C kx).2.2.2 slt).2 = (0, bf, f, oh, lf, ce)) ∧ INV (P_X3_restore bf pg ff f oh lf ce (C kx).1 (C kx).2.1 (C kx).2.2.1 (C kx).2.2.2 slt).2.2.1 tf tc (P_X3_restore bf pg ff f oh lf ce (C kx).1 (C kx).2.1 (C kx).2.2.1 (C kx).2.2.2 slt).2.2.2.1 (P_X3_restore bf pg ff f oh lf ce (C kx).1 (C kx).2.1 (C kx).2.2.1 (C kx).2.2.2 slt).2.2.2.2.1 (P_X3_restore bf pg ff f oh lf ce (C kx).1 (C kx).2.1 (C kx).2.2.1 (C kx).2.2.2 slt).2.2.2.2.2.1 (P_X3_restore bf pg ff f oh lf ce (C kx).1 (C kx).2.1 (C kx).2.2.1 (C kx).2.2.2 slt).2.2.2.2.2.2 ff C (P_X4_restore mf pn kk ki slt).2.1 tt (P_X4_restore mf pn kk ki slt).2.2 dd kk ki := by
  obtain ⟨t, s, d, kr⟩ := id I
  have z2 : (2 : Int32).toInt = 2 := by decide
  unfold P_X3_restore P_X4_restore
  rcases io (v := slt) (lo := 0) (hi := 1) (l := 0) (h := 1) (by decide) (by decide) with ⟨a, b, c1, d1⟩ | ⟨a, b⟩
  · obtain ⟨x, x1, x2, x3, x4⟩ := sl_2 b
    have ek := hkx a
    rw [x3] at ek
    subst ek
    rw [if_pos a, if_neg b, if_pos (by rw [Int32.lt_iff_toInt_lt]; omega), x4]
    obtain ⟨k1, k2, k3⟩ := kr.2 x x1
    by_cases q : ff x = 0
    · rw [if_pos q, if_pos (show ki x = 0 by rw [← k1]; exact q)]
      exact ⟨Or.inr (Or.inr rfl), rfl, fun q => absurd (show (2 : Int32) = 0 from q) (by decide), fun _ => rfl, inv_mf I rfl rfl⟩
    · rw [if_neg q, if_neg (show ¬ ki x = 0 by rw [← k1]; exact q)]
      dsimp only
      have m := m101 (x := slt) (a := (x : Int)) x2 (by omega) (by omega)
      have hp : SR (P_X1_copyFrom f oh lf ce (C (14 + x)).1 (C (14 + x)).2.1 (C (14 + x)).2.2.1 (C (14 + x)).2.2.2).1 (P_X1_copyFrom f oh lf ce (C (14 + x)).1 (C (14 + x)).2.1 (C (14 + x)).2.2.1 (C (14 + x)).2.2.2).2.1 (P_X1_copyFrom f oh lf ce (C (14 + x)).1 (C (14 + x)).2.1 (C (14 + x)).2.2.1 (C (14 + x)).2.2.2).2.2.1 (P_X1_copyFrom f oh lf ce (C (14 + x)).1 (C (14 + x)).2.1 (C (14 + x)).2.2.1 (C (14 + x)).2.2.2).2.2.2 (P_X4_copyPage 202 101 kk pn (101 * slt) 0) :=
        sr_pg (sr_copy (k3 q) f oh lf ce) (fun j hj => page_c (cp_s b) (a := 101 * x) (by rw [m]; omega) hj)
      exact ⟨Or.inl rfl, rfl, fun _ => hp.lo (j := 8) (by decide), fun q => absurd rfl q, t.up rfl, hp, dr_0 rfl rfl rfl, kr⟩
  · rw [if_neg a, if_pos b]
    exact ⟨Or.inr (Or.inl rfl), rfl, fun q => absurd (show (3 : Int32) = 0 from q) (by decide), fun _ => rfl, inv_mf I rfl rfl⟩
theorem ld_40 (tf tc ce : Nat → Int32) (b f oh lf ff : Nat → Int32) : P_X3_load_40 tf tc ce ((((2 : Int32)).toInt - (0 : Int32).toInt).toNat + 1) 0 b f oh lf ff = (0, f 13, b, f, oh, lf, upd (upd ff 0 0) 1 0) := by
  have k : ((((2 : Int32)).toInt - (0 : Int32).toInt).toNat + 1) = 3 := by decide
  rw [k]
  show (if (2 : Int32) ≤ 0 then _ else (if (2 : Int32) ≤ 0 + 1 then _ else (if (2 : Int32) ≤ 0 + 1 + 1 then (0, f 13, b, f, oh, lf, upd (upd ff (0 : Int32).toNatClampNeg 0) (0 + 1 : Int32).toNatClampNeg 0) else _))) = _
  rw [if_neg (by decide), if_neg (by decide), if_pos (by decide)]
  rfl
set_option maxHeartbeats 1000000 in
theorem a_load (I : INV bf tf tc f oh lf ce ff C mf tt pn dd kk ki) (pr : Nat → Int32) : ((P_X3_load bf tf tc f oh lf ce ff).1 = 0 ∨ (P_X3_load bf tf tc f oh lf ce ff).1 = 2) ∧ (P_X4_load mf pr pn tt ki).2.1 0 = hm 2 (P_X3_load bf tf tc f oh lf ce ff).1 ∧ ((P_X3_load bf tf tc f oh lf ce ff).1 = 0 → (P_X3_load bf tf tc f oh lf ce ff).2.1 = (P_X4_load mf pr pn tt ki).1) ∧ (¬ (P_X3_load bf tf tc f oh lf ce ff).1 = 0 → (P_X3_load bf tf tc f oh lf ce ff).2 = (0, bf, f, oh, lf, ff)) ∧ INV (P_X3_load bf tf tc f oh lf ce ff).2.2.1 tf tc (P_X3_load bf tf tc f oh lf ce ff).2.2.2.1 (P_X3_load bf tf tc f oh lf ce ff).2.2.2.2.1 (P_X3_load bf tf tc f oh lf ce ff).2.2.2.2.2.1 ce (P_X3_load bf tf tc f oh lf ce ff).2.2.2.2.2.2 C (P_X4_load mf pr pn tt ki).2.1 tt (P_X4_load mf pr pn tt ki).2.2.2.1 dd kk (P_X4_load mf pr pn tt ki).2.2.2.2 := by
  obtain ⟨t, s, d, kr⟩ := id I
  have fe := fe_i t
  have rs := ra_i t pr
  have E : (P_X3_load bf tf tc f oh lf ce ff) = (if P_X2_firstError tf tc = (-9999) then (0, (P_X1_take f oh lf ce tf tc).1 13, P_X3_forgetPast bf, (P_X1_take f oh lf ce tf tc).1, (P_X1_take f oh lf ce tf tc).2.1, (P_X1_take f oh lf ce tf tc).2.2, upd (upd ff 0 0) 1 0) else (2, 0, bf, f, oh, lf, ff)) := by
    unfold P_X3_load
    rw [ld_40]
  have E2 : (P_X4_load mf pr pn tt ki) = (if (P_X4_readAll mf pr tt).1 = 0 then (0, (upd (P_X4_readAll mf pr tt).2.1 0 1), (P_X4_readAll mf pr tt).2.2, pn, ki) else ((P_X4_copyPage 101 101 (P_X4_readAll mf pr tt).2.2 pn 0 0) 9, (upd (upd (P_X4_readAll mf pr tt).2.1 0 0) 8 0), (P_X4_readAll mf pr tt).2.2, P_X4_copyPage 101 101 (P_X4_readAll mf pr tt).2.2 pn 0 0, (upd (upd ki 0 0) 1 0))) := rfl
  rw [E, E2]
  clear E E2
  generalize P_X4_readAll mf pr tt = u at *
  rcases rs with ⟨a, b⟩ | ⟨a, p, K, k1, k2, k3, g⟩
  · have c : ¬ P_X2_firstError tf tc = (-9999) := fun q => by
      have e := FE.uni fe b.fe
      rw [q] at e
      obtain ⟨x, p, -⟩ := b
      have := p.1
      have z : (-9999 : Int32).toInt = -9999 := by decide
      omega
    obtain ⟨x, p, -⟩ := b
    rw [if_pos a, if_neg c]
    exact ⟨Or.inr rfl, rfl, fun q => absurd (show (2 : Int32) = 0 from q) (by decide), fun _ => rfl, inv_mf I (p.2.2.2 2 (by decide)) (p.2.2.2 8 (by decide))⟩
  · have c : P_X2_firstError tf tc = (-9999) := Int32.toInt_inj.mp (FE.uni fe (Or.inr ⟨p.2.2.1, Or.inl ⟨by omega, by omega, (show (-9999 : Int32).toInt = -9999 by decide)⟩⟩))
    rw [if_neg (show ¬ u.1 = 0 by rw [a]; decide), if_pos c]
    have st := sr_take t p k1 k2 k3 g f oh lf ce
    have sp := sr_pg (q := P_X4_copyPage 101 101 u.2.2 pn 0 0) st (fun j hj => copy_00 rfl hj)
    generalize P_X4_copyPage 101 101 u.2.2 pn 0 0 = w at *
    generalize P_X1_take f oh lf ce tf tc = x at *
    refine ⟨Or.inl rfl, rfl, fun _ => sp.2.1.1.symm, fun q => absurd rfl q, t.up (p.2.2.2 2 (by decide)), sp, dr_0 rfl rfl rfl, kr.1, fun s' hs' => ?_⟩
    have zz : ∀ q : Nat → Int32, (upd (upd q 0 0) 1 0) s' = 0 := fun q => by
      rcases (show s' = 0 ∨ s' = 1 by omega) with e | e
      · subst e; rfl
      · subst e; rfl
    exact ⟨(zz ff).trans (zz ki).symm, Or.inl (zz _), fun q => absurd (zz _) q⟩
end ACT
