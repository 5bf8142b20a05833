/-! pairs, waiting, freeing, copies -/
section SRQ
variable {f oh lf ce pg : Nat → Int32}
theorem sr_pair (h : SR f oh lf ce pg) : (P_X1_pressBothWays f oh lf ce).1 = (P_X4_pairOn pg).1 ∧ SR (P_X1_pressBothWays f oh lf ce).2.1 oh (P_X1_pressBothWays f oh lf ce).2.2.1 (P_X1_pressBothWays f oh lf ce).2.2.2 (P_X4_pairOn pg).2 := by
  obtain ⟨a1, a2⟩ := sr_press h 0
  rw [pair_eq]
  have e1 : P_X1_pressBothWays f oh lf ce = (if ((P_X1_pressKey f oh lf ce 0).2.1 9) = 0 then (((P_X1_pressKey f oh lf ce 0).1 - (P_X1_pressKey (P_X1_pressKey f oh lf ce 0).2.1 oh (P_X1_pressKey f oh lf ce 0).2.2.1 (P_X1_pressKey f oh lf ce 0).2.2.2 1).1), (P_X1_pressKey (P_X1_pressKey f oh lf ce 0).2.1 oh (P_X1_pressKey f oh lf ce 0).2.2.1 (P_X1_pressKey f oh lf ce 0).2.2.2 1).2.1, (P_X1_pressKey (P_X1_pressKey f oh lf ce 0).2.1 oh (P_X1_pressKey f oh lf ce 0).2.2.1 (P_X1_pressKey f oh lf ce 0).2.2.2 1).2.2.1, (P_X1_pressKey (P_X1_pressKey f oh lf ce 0).2.1 oh (P_X1_pressKey f oh lf ce 0).2.2.1 (P_X1_pressKey f oh lf ce 0).2.2.2 1).2.2.2) else ((P_X1_pressKey f oh lf ce 0).1, (P_X1_pressKey f oh lf ce 0).2.1, (P_X1_pressKey f oh lf ce 0).2.2.1, (P_X1_pressKey f oh lf ce 0).2.2.2)) := rfl
  rw [e1]
  clear e1
  generalize P_X1_pressKey f oh lf ce 0 = u at *
  generalize P_X4_pressOn pg 0 = v at *
  have hs := a2.2.1.2.2.1
  rcases a2.stk with c | c
  · rw [if_pos c, if_neg (by rw [hs, c]; decide)]
    obtain ⟨b1, b2⟩ := sr_press a2 1
    exact ⟨by rw [a1, b1], b2⟩
  · rw [if_neg (by rw [c]; decide), if_pos (by rw [hs, c])]
    exact ⟨a1, a2⟩
theorem sr_upd (h : SR f oh lf ce pg) {k : Nat} {x : Int32} (hk : k < 9) (hpv : PV (upd pg k x)) (hrg : RG (upd pg k x)) : SR (upd f k x) oh lf ce (upd pg k x) := by
  obtain ⟨a, ⟨e9, e10, e11, e12, e13, e14⟩, b, ⟨d1, d2⟩, -, -⟩ := h
  refine ⟨fun j hj => ?_, ⟨?_, ?_, ?_, ?_, ?_, ?_⟩, fun i hi => ?_, ⟨d1, fun j w hj hw => ?_⟩, hpv, hrg⟩
  · by_cases c : j = k
    · subst c; rw [upd_me, upd_me]
    · rw [upd_o c, upd_o c]; exact a j hj
  · rw [upd_o (by omega), upd_o (by omega)]; exact e9
  · rw [upd_o (by omega), upd_o (by omega)]; exact e10
  · rw [upd_o (by omega), upd_o (by omega)]; exact e11
  · rw [upd_o (by omega)]; exact e12
  · rw [upd_o (by omega), upd_o (by omega)]; exact e13
  · rw [upd_o (by omega), upd_o (by omega)]; exact e14
  · rw [upd_o (by omega)] at hi ⊢; exact b i hi
  · rw [upd_o (by omega)]; exact d2 j w hj hw
theorem rg_k (h : RG pg) {k : Nat} {x : Int32} (h3 : k = 3 → 1 ≤ x.toInt ∧ x.toInt ≤ 99) (h5 : k = 5 → -50 ≤ x.toInt ∧ x.toInt ≤ 50) (h6 : k = 6 → 0 ≤ x.toInt ∧ x.toInt ≤ 20) (h7 : k = 7 → 0 ≤ x.toInt ∧ x.toInt ≤ 9999) (h11 : k ≠ 11) : RG (upd pg k x) := by
  obtain ⟨a, b, c, d, e⟩ := h
  refine ⟨?_, ?_, ?_, ?_, ?_⟩
  · by_cases q : 3 = k
    · subst q; rw [upd_me]; exact h3 rfl
    · rw [upd_o q]; exact a
  · by_cases q : 5 = k
    · subst q; rw [upd_me]; exact h5 rfl
    · rw [upd_o q]; exact b
  · by_cases q : 6 = k
    · subst q; rw [upd_me]; exact h6 rfl
    · rw [upd_o q]; exact c
  · by_cases q : 7 = k
    · subst q; rw [upd_me]; exact h7 rfl
    · rw [upd_o q]; exact d
  · rw [upd_o (Ne.symm h11)]; exact e
theorem sr_r (h : SR f oh lf ce pg) {x : Int32} (hx : RB x) : SR (upd f 2 x) oh lf ce (upd pg 2 x) :=
  sr_upd h (by decide) (pv_up2 h.pv hx) (rg_k h.rg (fun q => by omega) (fun q => by omega) (fun q => by omega) (fun q => by omega) (by decide))
theorem cool_eq (w : Int32) : P_X1_cooled w = if 0 ≤ w - (w / 10 + 1) then w - (w / 10 + 1) else 0 := by
  unfold P_X1_cooled jmax
  have z : (0 : Int32).toInt = 0 := by decide
  by_cases c : 0 < w - (w / 10 + 1)
  · rw [if_pos c]
    rw [Int32.lt_iff_toInt_lt] at c
    rw [if_pos (show 0 ≤ w - (w / 10 + 1) by rw [Int32.le_iff_toInt_le]; omega)]
  · rw [if_neg c]
    by_cases c2 : 0 ≤ w - (w / 10 + 1)
    · rw [if_pos c2]
      rw [Int32.lt_iff_toInt_lt] at c
      rw [Int32.le_iff_toInt_le] at c2
      exact Int32.toInt_inj.mp (by omega)
    · rw [if_neg c2]
theorem cool_i {w : Int32} (hw : 0 ≤ w.toInt ∧ w.toInt ≤ 9999) : 0 ≤ (P_X1_cooled w).toInt ∧ (P_X1_cooled w).toInt ≤ 9999 := by
  have z : (0 : Int32).toInt = 0 := by decide
  have z1 : (1 : Int32).toInt = 1 := by decide
  have d := div10 (x := w) hw.1
  have a := toI_add (a := w / 10) (b := 1) (by omega) (by omega)
  have b := toI_sub (a := w) (b := w / 10 + 1) (by omega) (by omega)
  rw [cool_eq]
  by_cases c : 0 ≤ w - (w / 10 + 1)
  · rw [if_pos c]
    rw [Int32.le_iff_toInt_le] at c
    omega
  · rw [if_neg c]
    omega
theorem sr_tick (h : SR f oh lf ce pg) : SR (upd (upd f 7 (P_X1_cooled (f 7))) 8 (f 8 + 1)) oh lf ce (upd (upd pg 7 (P_X1_cooled (pg 7))) 8 (pg 8 + 1)) := by
  have h7 : SR (upd f 7 (P_X1_cooled (pg 7))) oh lf ce (upd pg 7 (P_X1_cooled (pg 7))) := by
    refine sr_upd h (by decide) (pv_same h.pv (fun j _ h7 _ _ _ _ => upd_o h7)) (rg_k h.rg (fun q => by omega) (fun q => by omega) (fun q => by omega) (fun _ => ?_) (by decide))
    exact cool_i h.rg.2.2.2.1
  rw [h.lo (j := 7) (by decide), h.lo (j := 8) (by decide)]
  exact sr_upd h7 (by decide) (pv_same h7.pv (fun j _ _ h8 _ _ _ => upd_o h8)) (rg_k h7.rg (fun q => by omega) (fun q => by omega) (fun q => by omega) (fun q => by omega) (by decide))
theorem wait_1 (tk : Int32) (n : Nat) (v2 : Int32) (pg : Nat → Int32) : P_X4_waitOn_2 tk (n + 1) v2 pg = if tk ≤ v2 then pg else P_X4_waitOn_2 tk n (v2 + 1) (upd (upd pg 7 (P_X1_cooled (pg 7))) 8 (pg 8 + 1)) := by
  show (if tk ≤ v2 then pg else (if 0 ≤ pg 7 - (pg 7 / 10 + 1) then _ else _)) = _
  rw [cool_eq]
  by_cases c : 0 ≤ pg 7 - (pg 7 / 10 + 1)
  · rw [if_pos c, if_pos c]
  · rw [if_neg c, if_neg c]
theorem sr_wait_2 (tk : Int32) : ∀ (n : Nat) (v2 : Int32) (f pg : Nat → Int32), (tk.toInt - v2.toInt).toNat < n → SR f oh lf ce pg → SR (P_X1_waitTicks_2 tk n v2 f) oh lf ce (P_X4_waitOn_2 tk n v2 pg) := by
  intro n
  induction n with
  | zero => intro v2 f pg hn; omega
  | succ n ih =>
    intro v2 f pg hn h
    rw [wait_1]
    show SR (if tk ≤ v2 then f else P_X1_waitTicks_2 tk n (v2 + 1) (upd (upd f 7 (P_X1_cooled (f 7))) 8 (f 8 + 1))) oh lf ce _
    by_cases c : tk ≤ v2
    · rw [if_pos c, if_pos c]; exact h
    · rw [if_neg c, if_neg c]
      have hmu := mu_up c
      exact ih _ _ _ (by omega) (sr_tick h)
theorem sr_wait (h : SR f oh lf ce pg) (tk : Int32) : SR (P_X1_waitTicks f tk) oh lf ce (P_X4_waitOn pg tk) := sr_wait_2 tk _ _ _ _ (Nat.lt_succ_self _) h
theorem sr_stk (h : SR f oh lf ce pg) {x : Int32} (hx : x = 0 ∨ x = 1) : SR (upd f 9 x) oh lf ce (upd pg 11 x) := by
  obtain ⟨a, ⟨e9, e10, e11, e12, e13, e14⟩, b, ⟨d1, d2⟩, hpv, hrg⟩ := h
  refine ⟨fun j hj => ?_, ⟨?_, ?_, ?_, ?_, ?_, ?_⟩, fun i hi => ?_, ⟨d1, fun j w hj hw => ?_⟩, pv_up11 hpv, ?_⟩
  · rw [upd_o (by omega), upd_o (by omega)]; exact a j hj
  · rw [upd_o (by omega), upd_o (by omega)]; exact e9
  · rw [upd_o (by omega), upd_o (by omega)]; exact e10
  · rw [upd_me, upd_me]
  · rw [upd_o (by omega)]; exact e12
  · rw [upd_o (by omega), upd_o (by omega)]; exact e13
  · rw [upd_o (by omega), upd_o (by omega)]; exact e14
  · rw [upd_o (by omega)] at hi ⊢; exact b i hi
  · rw [upd_o (by omega)]; exact d2 j w hj hw
  · obtain ⟨r3, r5, r6, r7, -⟩ := hrg
    exact ⟨r3, r5, r6, r7, hx⟩
theorem sr_free (h : SR f oh lf ce pg) : SR (P_X1_loosen f) oh lf ce (P_X4_freeOn pg) := sr_wait (sr_stk h (Or.inl rfl)) 5
theorem sr_pg {q : Nat → Int32} (h : SR f oh lf ce pg) (hq : ∀ j, j < 101 → q j = pg j) : SR f oh lf ce q := by
  obtain ⟨a, ⟨e9, e10, e11, e12, e13, e14⟩, b, ⟨d1, d2⟩, hpv, r3, r5, r6, r7, r11⟩ := h
  have h20 := hpv.2.2.2.2
  refine ⟨fun j hj => by rw [hq j (by omega)]; exact a j hj, ⟨by rw [hq 9 (by decide)]; exact e9, by rw [hq 10 (by decide)]; exact e10, by rw [hq 11 (by decide)]; exact e11, by rw [hq 12 (by decide)]; exact e12, by rw [hq 13 (by decide)]; exact e13, by rw [hq 14 (by decide)]; exact e14⟩, fun i hi => ?_, ⟨d1, fun j w hj hw => ?_⟩, pv_same hpv (fun j hj _ _ _ _ _ => hq j (by omega)), ?_⟩
  · have := hpv.1.2
    rw [e9] at this
    rw [hq _ (by omega)]; exact b i hi
  · rw [e12] at h20
    rw [hq _ (by omega)]; exact d2 j w hj hw
  · refine ⟨?_, ?_, ?_, ?_, ?_⟩
    · rw [hq 3 (by decide)]; exact r3
    · rw [hq 5 (by decide)]; exact r5
    · rw [hq 6 (by decide)]; exact r6
    · rw [hq 7 (by decide)]; exact r7
    · rw [hq 11 (by decide)]; exact r11
theorem sr_cls {f' oh' lf' ce' : Nat → Int32} (h : SR f oh lf ce pg) (hf : ∀ j, j < 12 → f' j = f j) (h13 : f' 13 = f 13) (h14 : f' 14 = f 14) (ho : ∀ j, j < 6 → oh' j = oh j) (h1 : lf' 1 = lf 1) (h2 : lf' 2 = lf 2) (hc : ∀ j, j < 80 → ce' j = ce j) : SR f' oh' lf' ce' pg := by
  obtain ⟨a, ⟨e9, e10, e11, e12, e13, e14⟩, b, ⟨d1, d2⟩, hpv, hrg⟩ := h
  refine ⟨fun j hj => by rw [hf j (by omega)]; exact a j hj, ⟨by rw [h13]; exact e9, by rw [h14]; exact e10, by rw [hf 9 (by decide)]; exact e11, by rw [h1]; exact e12, by rw [hf 10 (by decide)]; exact e13, by rw [hf 11 (by decide)]; exact e14⟩, fun i hi => ?_, ⟨by rw [h2]; exact d1, fun j w hj hw => ?_⟩, hpv, hrg⟩
  · rw [h13] at hi
    have := hpv.1.2
    rw [e9] at this
    rw [ho i (by omega)]; exact b i hi
  · rw [h1] at hj
    rw [h2, hc _ (by omega)]; exact d2 j w hj hw
end SRQ
theorem ccopy_18 (lf2 ce2 : Nat → Int32) : ∀ (n : Nat) (v : Int32) (lf ce : Nat → Int32), 0 ≤ v.toInt → ((80 : Int32).toInt - v.toInt).toNat < n → (P_X0_copyFrom_18 lf2 ce2 n v lf ce).1 = lf ∧ ∀ j : Nat, (P_X0_copyFrom_18 lf2 ce2 n v lf ce).2 j = if v.toInt.toNat ≤ j ∧ j < 80 then ce2 j else ce j := by
  intro n
  have z80 : (80 : Int32).toInt = 80 := by decide
  have z1 : (1 : Int32).toInt = 1 := by decide
  induction n with
  | zero => intro v lf ce _ hn; omega
  | succ n ih =>
    intro v lf ce h0 hn
    unfold P_X0_copyFrom_18
    by_cases c : 80 ≤ v
    · rw [if_pos c]
      rw [Int32.le_iff_toInt_le] at c
      exact ⟨rfl, fun j => by rw [if_neg (by omega)]⟩
    · rw [if_neg c, if_neg c]
      have hmu := mu_up c
      rw [Int32.le_iff_toInt_le] at c
      have a := toI_add (a := v) (b := 1) (by omega) (by omega)
      obtain ⟨i1, i2⟩ := ih (v + 1) lf (upd ce v.toNatClampNeg (ce2 v.toNatClampNeg)) (by omega) (by omega)
      refine ⟨i1, fun j => ?_⟩
      rw [i2 j, a]
      have e : v.toNatClampNeg = v.toInt.toNat := rfl
      by_cases c2 : j = v.toInt.toNat
      · subst c2
        rw [if_neg (by omega), if_pos (by omega), e, upd_me]
      · rw [e, upd_o c2]
        by_cases c3 : v.toInt.toNat ≤ j ∧ j < 80
        · rw [if_pos c3, if_pos (by omega)]
        · rw [if_neg c3, if_neg (by omega)]
theorem ccopy_103 (f2 oh2 lf2 ce2 : Nat → Int32) : ∀ (n : Nat) (v : Int32) (f oh lf ce : Nat → Int32), 0 ≤ v.toInt → ((6 : Int32).toInt - v.toInt).toNat < n →
    (P_X1_copyFrom_103 f2 oh2 lf2 ce2 n v f oh lf ce).1 = upd (upd f 13 (f2 13)) 14 (f2 14) ∧ (∀ j : Nat, (P_X1_copyFrom_103 f2 oh2 lf2 ce2 n v f oh lf ce).2.1 j = if v.toInt.toNat ≤ j ∧ j < 6 then oh2 j else oh j) ∧ (P_X1_copyFrom_103 f2 oh2 lf2 ce2 n v f oh lf ce).2.2 = P_X0_copyFrom lf ce lf2 ce2 := by
  intro n
  have z6 : (6 : Int32).toInt = 6 := by decide
  have z1 : (1 : Int32).toInt = 1 := by decide
  induction n with
  | zero => intro v f oh lf ce _ hn; omega
  | succ n ih =>
    intro v f oh lf ce h0 hn
    unfold P_X1_copyFrom_103
    by_cases c : 6 ≤ v
    · rw [if_pos c]
      rw [Int32.le_iff_toInt_le] at c
      exact ⟨rfl, fun j => by rw [if_neg (by omega)], by
        show ((P_X0_copyFrom lf ce lf2 ce2).1, (P_X0_copyFrom lf ce lf2 ce2).2) = P_X0_copyFrom lf ce lf2 ce2
        generalize P_X0_copyFrom lf ce lf2 ce2 = q
        rfl⟩
    · rw [if_neg c, if_neg c]
      have hmu := mu_up c
      rw [Int32.le_iff_toInt_le] at c
      have a := toI_add (a := v) (b := 1) (by omega) (by omega)
      obtain ⟨i1, i2, i3⟩ := ih (v + 1) f (upd oh v.toNatClampNeg (oh2 v.toNatClampNeg)) lf ce (by omega) (by omega)
      refine ⟨i1, fun j => ?_, i3⟩
      rw [i2 j, a]
      have e : v.toNatClampNeg = v.toInt.toNat := rfl
      by_cases c2 : j = v.toInt.toNat
      · subst c2
        rw [if_neg (by omega), if_pos (by omega), e, upd_me]
      · rw [e, upd_o c2]
        by_cases c3 : v.toInt.toNat ≤ j ∧ j < 6
        · rw [if_pos c3, if_pos (by omega)]
        · rw [if_neg c3, if_neg (by omega)]
/-- a copy of a state says the same as its source -/
theorem sr_copy {f2 oh2 lf2 ce2 pg : Nat → Int32} (h : SR f2 oh2 lf2 ce2 pg) (f oh lf ce : Nat → Int32) : SR (P_X1_copyFrom f oh lf ce f2 oh2 lf2 ce2).1 (P_X1_copyFrom f oh lf ce f2 oh2 lf2 ce2).2.1 (P_X1_copyFrom f oh lf ce f2 oh2 lf2 ce2).2.2.1 (P_X1_copyFrom f oh lf ce f2 oh2 lf2 ce2).2.2.2 pg := by
  obtain ⟨i1, i2, i3⟩ := ccopy_103 f2 oh2 lf2 ce2 ((((6 : Int32)).toInt - (0 : Int32).toInt).toNat + 1) 0 (upd (upd (upd (upd (upd (upd (upd (upd (upd (upd (upd (upd f 0 (f2 0)) 1 (f2 1)) 2 (f2 2)) 3 (f2 3)) 4 (f2 4)) 5 (f2 5)) 6 (f2 6)) 7 (f2 7)) 8 (f2 8)) 9 (f2 9)) 10 (f2 10)) 11 (f2 11)) oh lf ce (by decide) (by decide)
  obtain ⟨j1, j2⟩ := ccopy_18 lf2 ce2 ((((80 : Int32)).toInt - (0 : Int32).toInt).toNat + 1) 0 (upd (upd lf 1 (lf2 1)) 2 (lf2 2)) ce (by decide) (by decide)
  have e3 : (P_X1_copyFrom f oh lf ce f2 oh2 lf2 ce2).2.2 = P_X0_copyFrom lf ce lf2 ce2 := i3
  have e0 : (0 : Int32).toInt.toNat = 0 := by decide
  refine sr_cls h (fun j hj => ?_) ?_ ?_ (fun j hj => ?_) ?_ ?_ (fun j hj => ?_)
  · show (P_X1_copyFrom_103 f2 oh2 lf2 ce2 _ 0 _ oh lf ce).1 j = _
    rw [i1]
    match j, hj with
    | 0, _ => rfl
    | 1, _ => rfl
    | 2, _ => rfl
    | 3, _ => rfl
    | 4, _ => rfl
    | 5, _ => rfl
    | 6, _ => rfl
    | 7, _ => rfl
    | 8, _ => rfl
    | 9, _ => rfl
    | 10, _ => rfl
    | 11, _ => rfl
  · show (P_X1_copyFrom_103 f2 oh2 lf2 ce2 _ 0 _ oh lf ce).1 13 = _
    rw [i1]; rfl
  · show (P_X1_copyFrom_103 f2 oh2 lf2 ce2 _ 0 _ oh lf ce).1 14 = _
    rw [i1]; rfl
  · exact (i2 j).trans (if_pos (by omega))
  · rw [e3]
    show (P_X0_copyFrom_18 lf2 ce2 _ 0 _ ce).1 1 = _
    rw [j1]; rfl
  · rw [e3]
    show (P_X0_copyFrom_18 lf2 ce2 _ 0 _ ce).1 2 = _
    rw [j1]; rfl
  · rw [e3]
    exact (j2 j).trans (if_pos (by omega))
