/-! settings, unknown resistors put in and added -/
theorem rng_eq {v lo hi : Int32} {l h : Int64} (e1 : l.toInt = lo.toInt) (e2 : h.toInt = hi.toInt) : (if v < lo then 0 else (if hi < v then 0 else 1) : Int32) = P_X4_in v.toInt64 l h := by
  unfold P_X4_in
  have a : (lg_cmp v.toInt64 l < 0) ↔ v < lo := by
    rw [cmp_lt, Int64.lt_iff_toInt_lt, Int32.lt_iff_toInt_lt, Int32.toInt_toInt64, e1]
  have b : (0 < lg_cmp v.toInt64 h) ↔ hi < v := by
    rw [cmp_gt, Int64.lt_iff_toInt_lt, Int32.lt_iff_toInt_lt, Int32.toInt_toInt64, e2]
  by_cases c : v < lo
  · rw [if_pos c, if_pos (a.mpr c)]
  · rw [if_neg c, if_neg (fun q => c (a.mp q))]
    by_cases c2 : hi < v
    · rw [if_pos c2, if_pos (b.mpr c2)]
    · rw [if_neg c2, if_neg (fun q => c2 (b.mp q))]
theorem mayBe_eq (w v : Int32) : P_X1_mayBe w v = P_X4_isSetting w v := by
  unfold P_X1_mayBe P_X4_isSetting
  rw [rng_eq (v := v) (lo := 0) (hi := 3) (l := 0) (h := 3) (by decide) (by decide), rng_eq (v := v) (lo := 0) (hi := 9999) (l := 0) (h := 9999) (by decide) (by decide), rng_eq (v := v) (lo := 1) (hi := 99) (l := 1) (h := 99) (by decide) (by decide), rng_eq (v := v) (lo := -50) (hi := 50) (l := -50) (h := 50) (by decide) (by decide), rng_eq (v := v) (lo := 0) (hi := 20) (l := 0) (h := 20) (by decide) (by decide)]
  have z : (if P_X4_in v.toInt64 0 20 = 0 then 0 else 1 : Int32) = P_X4_in v.toInt64 0 20 := by
    rcases zb_X4_in v.toInt64 0 20 with q | q <;> rw [q] <;> rfl
  rw [z]
section Q7
variable {f oh lf ce pg : Nat → Int32}
theorem pv_lo (h : PV pg) {k : Nat} {x : Int32} (hk : k < 7) (h2 : k = 2 → RB x) : PV (upd pg k x) := by
  by_cases c : k = 2
  · subst c; exact pv_up2 h (h2 rfl)
  · exact pv_upk h hk c
theorem sr_set (h : SR f oh lf ce pg) {w v : Int32} (hs : ¬ P_X4_isSetting w v = 0) : SR (P_X1_change f w v) oh lf ce (upd pg w.toNatClampNeg v) ∧ P_X1_number f lf w = pg w.toNatClampNeg := by
  unfold P_X4_isSetting at hs
  unfold P_X1_change P_X1_number
  have F : ∀ {a b : Nat} {P : Prop}, a ≠ b → (a = b → P) := fun hab q => absurd q hab
  by_cases c0 : w = 0
  · subst c0
    exact ⟨sr_upd h (by decide) (pv_lo h.pv (by decide) (F (by decide))) (rg_k h.rg (F (by decide)) (F (by decide)) (F (by decide)) (F (by decide)) (by decide)), h.lo (by decide)⟩
  rw [if_neg c0] at hs ⊢
  rw [if_neg c0]
  by_cases c1 : w = 1
  · subst c1
    exact ⟨sr_upd h (by decide) (pv_lo h.pv (by decide) (F (by decide))) (rg_k h.rg (F (by decide)) (F (by decide)) (F (by decide)) (F (by decide)) (by decide)), h.lo (by decide)⟩
  rw [if_neg c1] at hs ⊢
  rw [if_neg c1]
  by_cases c2 : w = 2
  · subst c2
    have b := in_i hs
    have z0 : (0 : Int64).toInt = 0 := by decide
    have z9 : (9999 : Int64).toInt = 9999 := by decide
    exact ⟨sr_upd h (by decide) (pv_lo h.pv (by decide) (fun _ => ⟨by omega, by omega⟩)) (rg_k h.rg (F (by decide)) (F (by decide)) (F (by decide)) (F (by decide)) (by decide)), h.lo (by decide)⟩
  rw [if_neg c2] at hs ⊢
  rw [if_neg c2]
  by_cases c3 : w = 3
  · subst c3
    have b := in_i hs
    have z0 : (1 : Int64).toInt = 1 := by decide
    have z9 : (99 : Int64).toInt = 99 := by decide
    exact ⟨sr_upd h (by decide) (pv_lo h.pv (by decide) (F (by decide))) (rg_k h.rg (fun _ => ⟨by omega, by omega⟩) (F (by decide)) (F (by decide)) (F (by decide)) (by decide)), h.lo (by decide)⟩
  rw [if_neg c3] at hs ⊢
  rw [if_neg c3]
  by_cases c4 : w = 4
  · subst c4
    exact ⟨sr_upd h (by decide) (pv_lo h.pv (by decide) (F (by decide))) (rg_k h.rg (F (by decide)) (F (by decide)) (F (by decide)) (F (by decide)) (by decide)), h.lo (by decide)⟩
  rw [if_neg c4] at hs ⊢
  rw [if_neg c4]
  by_cases c5 : w = 5
  · subst c5
    have b := in_i hs
    have z0 : (-50 : Int64).toInt = -50 := by decide
    have z9 : (50 : Int64).toInt = 50 := by decide
    exact ⟨sr_upd h (by decide) (pv_lo h.pv (by decide) (F (by decide))) (rg_k h.rg (F (by decide)) (fun _ => ⟨by omega, by omega⟩) (F (by decide)) (F (by decide)) (by decide)), h.lo (by decide)⟩
  rw [if_neg c5] at hs ⊢
  rw [if_neg c5]
  by_cases c6 : w = 6
  · subst c6
    rw [if_pos rfl] at hs
    have hs2 : ¬ P_X4_in v.toInt64 0 20 = 0 := fun q => hs (if_pos q)
    have b := in_i hs2
    have z0 : (0 : Int64).toInt = 0 := by decide
    have z9 : (20 : Int64).toInt = 20 := by decide
    exact ⟨sr_upd h (by decide) (pv_lo h.pv (by decide) (F (by decide))) (rg_k h.rg (F (by decide)) (F (by decide)) (fun _ => ⟨by omega, by omega⟩) (F (by decide)) (by decide)), h.lo (by decide)⟩
  · rw [if_neg c6] at hs; exact absurd rfl hs
theorem sr_put (h : SR f oh lf ce pg) {i : Int32} (hi : ¬ P_X4_isUnknown pg i = 0) : SR (upd f 14 i) oh lf ce (upd pg 10 i) := by
  have hpv := pv_up10 h.pv hi
  obtain ⟨a, ⟨e9, e10, e11, e12, e13, e14⟩, b, ⟨d1, d2⟩, -, r⟩ := h
  refine ⟨fun j hj => ?_, ⟨?_, ?_, ?_, ?_, ?_, ?_⟩, fun j hj => ?_, ⟨d1, fun j w hj hw => ?_⟩, hpv, ?_⟩
  · rw [upd_o (by omega), upd_o (by omega)]; exact a j hj
  · rw [upd_o (by omega), upd_o (by omega)]; exact e9
  · rw [upd_me, upd_me]
  · rw [upd_o (by omega), upd_o (by omega)]; exact e11
  · rw [upd_o (by omega)]; exact e12
  · rw [upd_o (by omega), upd_o (by omega)]; exact e13
  · rw [upd_o (by omega), upd_o (by omega)]; exact e14
  · rw [upd_o (by omega)] at hj ⊢; exact b j hj
  · rw [upd_o (by omega)]; exact d2 j w hj hw
  · exact rg_k r (fun q => absurd q (by decide)) (fun q => absurd q (by decide)) (fun q => absurd q (by decide)) (fun q => absurd q (by decide)) (by decide)
theorem sr_add (h : SR f oh lf ce pg) {x : Int32} (hx : 1 ≤ x.toInt ∧ x.toInt ≤ 9999) (h6 : (pg 9).toInt < 6) : SR (P_X1_putUnknown f oh x).1 (P_X1_putUnknown f oh x).2 lf ce (upd (upd pg (15 + (pg 9)).toNatClampNeg x) 9 (pg 9 + 1)) ∧ (P_X1_putUnknown f oh x).1 13 = pg 9 + 1 ∧ (upd pg (15 + (pg 9)).toNatClampNeg x) 9 = pg 9 := by
  obtain ⟨a, ⟨e9, e10, e11, e12, e13, e14⟩, b, ⟨d1, d2⟩, ⟨v1, v2, v3, v4, v5⟩, r⟩ := h
  have z0 : (0 : Int32).toInt = 0 := by decide
  have z1 : (1 : Int32).toInt = 1 := by decide
  have z6 : (6 : Int32).toInt = 6 := by decide
  have z15 : (15 : Int32).toInt = 15 := by decide
  have a1 := toI_add (a := 15) (b := pg 9) (by omega) (by omega)
  have a2 := toI_add (a := pg 9) (b := 1) (by omega) (by omega)
  have n1 : (15 + pg 9).toNatClampNeg = 15 + (pg 9).toInt.toNat := by
    show (15 + pg 9).toInt.toNat = _
    omega
  have E : P_X1_putUnknown f oh x = (upd f 13 (f 13 + 1), upd oh (f 13).toNatClampNeg x) := by
    unfold P_X1_putUnknown
    rw [if_neg (by rw [Int32.lt_iff_toInt_lt, ← e9]; omega), if_neg (by rw [Int32.le_iff_toInt_le, ← e9]; omega)]
  have n2 : (pg 9).toNatClampNeg = (pg 9).toInt.toNat := rfl
  have hpq : ∀ j : Nat, j ≠ 9 → j ≠ 15 + (pg 9).toInt.toNat → (upd (upd pg (15 + (pg 9).toInt.toNat) x) 9 (pg 9 + 1)) j = pg j := fun j h1 h2 => by rw [upd_o h1, upd_o h2]
  have hx15 : (upd (upd pg (15 + (pg 9).toInt.toNat) x) 9 (pg 9 + 1)) (15 + (pg 9).toInt.toNat) = x := by rw [upd_o (by omega), upd_me]
  rw [E, n1, ← e9]
  dsimp only
  refine ⟨⟨fun j hj => ?_, ⟨?_, ?_, ?_, ?_, ?_, ?_⟩, fun j hj => ?_, ⟨d1, fun j w hj hw => ?_⟩, ⟨?_, ?_, fun j hj => ?_, ?_, ?_⟩, ?_⟩, (upd_me : upd f 13 (pg 9 + 1) 13 = pg 9 + 1), upd_o (by omega)⟩
  · rw [hpq j (by omega) (by omega), upd_o (by omega)]; exact a j hj
  · rw [upd_me]; exact upd_me.symm
  · rw [hpq 10 (by omega) (by omega)]; exact e10
  · rw [hpq 11 (by omega) (by omega)]; exact e11
  · rw [hpq 12 (by omega) (by omega)]; exact e12
  · rw [hpq 13 (by omega) (by omega)]; exact e13
  · rw [hpq 14 (by omega) (by omega)]; exact e14
  · have hj : (j : Int) < (upd f 13 (pg 9 + 1) 13).toInt := hj
    rw [upd_me] at hj
    show _ = upd oh (pg 9).toNatClampNeg x j
    rw [n2]
    by_cases c : j = (pg 9).toInt.toNat
    · subst c; rw [hx15, upd_me]
    · rw [hpq _ (by omega) (by omega), upd_o c]
      exact b j (by rw [← e9]; omega)
  · have hj2 : (j : Int) < 20 := by rw [← e12] at hj; omega
    rw [hpq _ (by omega) (by omega)]; exact d2 j w hj hw
  · rw [upd_me]; omega
  · rw [hpq 10 (by omega) (by omega), upd_me]; omega
  · rw [upd_me] at hj
    by_cases c : j = (pg 9).toInt.toNat
    · subst c; rw [hx15]; exact hx
    · rw [hpq _ (by omega) (by omega)]; exact v3 j (by omega)
  · rw [hpq 2 (by omega) (by omega)]; exact v4
  · rw [hpq 12 (by omega) (by omega)]; exact v5
  · obtain ⟨r3, r5, r6, r7, r11⟩ := r
    refine ⟨?_, ?_, ?_, ?_, ?_⟩
    · rw [hpq 3 (by omega) (by omega)]; exact r3
    · rw [hpq 5 (by omega) (by omega)]; exact r5
    · rw [hpq 6 (by omega) (by omega)]; exact r6
    · rw [hpq 7 (by omega) (by omega)]; exact r7
    · rw [hpq 11 (by omega) (by omega)]; exact r11
end Q7
