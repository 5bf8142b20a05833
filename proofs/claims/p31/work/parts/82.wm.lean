/-! waiting, offsets foretold, balances -/
def clN : Nat → Int32 → Int32
  | 0, w => w
  | k + 1, w => clN k (P_X1_cooled w)
theorem cl_s : ∀ (k : Nat) (w : Int32), clN (k + 1) w = P_X1_cooled (clN k w)
  | 0, _ => rfl
  | k + 1, w => cl_s k (P_X1_cooled w)
theorem rg1 (a t v : Int32) : a + 1 + (t - (v + 1)) = a + (t - v) := by grind
theorem rg2 (a b : Int32) : a = b + (a - b) := by grind
theorem rg3 (w q : Int32) : (w - q) - 1 = w - (q + 1) := by grind
theorem rg4 (a c d : Int32) : a + c + d = a + (c + d) := by grind
theorem rg5 (a c : Int32) : a + c - a = c := by grind
theorem rg6 (y z : Int32) : y * 2 + z * 2 = (y + z) * 2 := by grind
theorem wt_2 (tk : Int32) : ∀ (n : Nat) (v : Int32) (pg : Pg), v.toInt ≤ tk.toInt → (tk.toInt - v.toInt).toNat < n → (P_X4_waitOn_2 tk n v pg) 7 = clN (tk.toInt - v.toInt).toNat (pg 7) ∧ (P_X4_waitOn_2 tk n v pg) 8 = pg 8 + (tk - v) ∧ ∀ j, j ≠ 7 → j ≠ 8 → (P_X4_waitOn_2 tk n v pg) j = pg j := by
  intro n
  induction n with
  | zero => intro v pg h hn; omega
  | succ n ih =>
    intro v pg h hn
    rw [wait_1]
    by_cases c : tk ≤ v
    · rw [if_pos c]
      rw [Int32.le_iff_toInt_le] at c
      have e : tk = v := Int32.toInt_inj.mp (by omega)
      subst e
      rw [show (tk.toInt - tk.toInt).toNat = 0 by omega, Int32.sub_self, Int32.add_zero]
      exact ⟨rfl, rfl, fun j _ _ => rfl⟩
    · rw [if_neg c]
      rw [Int32.le_iff_toInt_le] at c
      have z1 : (1 : Int32).toInt = 1 := by decide
      have hb := tk.toInt_lt
      have hb2 := v.le_toInt
      have a := toI_add (a := v) (b := 1) (by omega) (by omega)
      obtain ⟨i1, i2, i3⟩ := ih (v + 1) (upd (upd pg 7 (P_X1_cooled (pg 7))) 8 (pg 8 + 1)) (by omega) (by omega)
      refine ⟨?_, ?_, fun j h7 h8 => ?_⟩
      · rw [i1]
        have e : (tk.toInt - v.toInt).toNat = (tk.toInt - (v + 1).toInt).toNat + 1 := by omega
        rw [e]
        rfl
      · rw [i2]
        exact rg1 (pg 8) tk v
      · rw [i3 j h7 h8, upd_o h8, upd_o h7]
section WT
variable {pg : Pg} {m : Int32}
theorem wt_7 (hm : 0 ≤ m.toInt) : (P_X4_waitOn pg m) 7 = clN m.toInt.toNat (pg 7) := by
  have h := (wt_2 m _ 0 pg (by rw [show (0 : Int32).toInt = 0 by decide]; exact hm) (Nat.lt_succ_self _)).1
  have e : (m.toInt - (0 : Int32).toInt).toNat = m.toInt.toNat := by rw [show (0 : Int32).toInt = 0 by decide]; omega
  exact h.trans (congrArg (fun k => clN k (pg 7)) e)
theorem wt_8 (hm : 0 ≤ m.toInt) : (P_X4_waitOn pg m) 8 = ((pg 8) + m) := by
  have h := (wt_2 m _ 0 pg (by rw [show (0 : Int32).toInt = 0 by decide]; exact hm) (Nat.lt_succ_self _)).2.1
  rw [Int32.sub_zero] at h
  exact h
theorem wt_o (hm : 0 ≤ m.toInt) {j : Nat} (h7 : j ≠ 7) (h8 : j ≠ 8) : (P_X4_waitOn pg m) j = pg j := (wt_2 m _ 0 pg (by rw [show (0 : Int32).toInt = 0 by decide]; exact hm) (Nat.lt_succ_self _)).2.2 j h7 h8
def oV (pg : Pg) (w : Int32) : Int32 := (pg 5) + ((w * (pg 6)) / 100)
theorem oV_w (hm : 0 ≤ m.toInt) : P_X4_offsetOf (P_X4_waitOn pg m) = oV pg (clN m.toInt.toNat (pg 7)) := by
  unfold P_X4_offsetOf oV
  rw [wt_7 hm, wt_o hm (j := 5) (by decide) (by decide), wt_o hm (j := 6) (by decide) (by decide)]
theorem oV_0 : P_X4_offsetOf pg = oV pg (clN 0 (pg 7)) := rfl
theorem oV_k {k : Nat} (hk : k ≤ 1000) : P_X4_offsetOf (P_X4_waitOn pg (nI k)) = oV pg (clN k (pg 7)) := by
  rw [oV_w (by rw [nI_toInt (by omega)]; omega), nI_toInt (by omega)]
  rfl
theorem oA_w (hm : 0 ≤ m.toInt ∧ m.toInt ≤ 200) : aQ 1 ((P_X4_offsetAfter z0 pg z0 0 m).1, (P_X4_offsetAfter z0 pg z0 0 m).2.1) = P_X4_offsetOf (P_X4_waitOn pg m) := by
  unfold P_X4_offsetAfter
  dsimp only
  rw [if_neg (by decide), if_neg (in_yes32 (by rw [show (0 : Int64).toInt = 0 by decide]; exact hm.1) (by rw [show (200 : Int64).toInt = 200 by decide]; exact hm.2))]
  have E : P_X4_offsetAfter_53 pg 0 m ((((0 : Int32)).toInt - (0 : Int32).toInt).toNat + 1) 0 (upd z0 0 0) (P_X4_copyPage 101 101 pg z0 0 0) = (P_X4_offsetOf (P_X4_waitOn (P_X4_copyPage 101 101 pg z0 0 0) m), upd z0 0 0, P_X4_waitOn (P_X4_copyPage 101 101 pg z0 0 0) m) := if_pos (by decide)
  rw [E]
  show P_X4_offsetOf (P_X4_waitOn (P_X4_copyPage 101 101 pg z0 0 0) m) = _
  rw [oV_w hm.1, oV_w hm.1]
  unfold oV
  rw [copy_00 (pf := pg) (pt := z0) rfl (j := 5) (by decide), copy_00 (pf := pg) (pt := z0) rfl (j := 6) (by decide), copy_00 (pf := pg) (pt := z0) rfl (j := 7) (by decide)]
theorem oA_0 : aQ 1 ((P_X4_offsetAfter z0 pg z0 0 0).1, (P_X4_offsetAfter z0 pg z0 0 0).2.1) = P_X4_offsetOf pg := (oA_w (by decide)).trans (oV_w (by decide))
/-- what waitFor answers -/
def WFP (pg : Pg) (wish tk : Int32) : Prop := (tk = -9999 ∧ ∀ k : Nat, k ≤ 200 → ¬ oV pg (clN k (pg 7)) ≤ wish) ∨ ∃ k : Nat, k ≤ 200 ∧ tk = nI k ∧ oV pg (clN k (pg 7)) ≤ wish ∧ ∀ j : Nat, j < k → ¬ oV pg (clN j (pg 7)) ≤ wish
theorem wf_lp2 (wish : Int32) (mf : Pg) : ∀ (n : Nat) (k : Nat) (pt : Pg), k ≤ 201 → pt 7 = clN k (pg 7) → pt 5 = pg 5 → pt 6 = pg 6 → 201 - k < n → (∀ j : Nat, j < k → ¬ oV pg (clN j (pg 7)) ≤ wish) → WFP pg wish (P_X4_waitFor_43 pg wish n (nI k) mf pt).1 ∧ (P_X4_waitFor_43 pg wish n (nI k) mf pt).2.1 = mf := by
  intro n
  induction n with
  | zero => intro k pt hk h7 h5 h6 hn; omega
  | succ n ih =>
    intro k pt hk h7 h5 h6 hn hj
    unfold P_X4_waitFor_43
    have z200 : (200 : Int32).toInt = 200 := by decide
    have ek := nI_toInt (n := k) (by omega)
    by_cases c : 200 < nI k
    · rw [if_pos c]
      rw [Int32.lt_iff_toInt_lt] at c
      exact ⟨Or.inl ⟨rfl, fun j hj2 => hj j (by omega)⟩, rfl⟩
    · rw [if_neg c]
      rw [Int32.lt_iff_toInt_lt] at c
      have eo : P_X4_offsetOf pt = oV pg (clN k (pg 7)) := by
        unfold P_X4_offsetOf oV
        rw [h7, h5, h6]
      rw [eo]
      by_cases c2 : wish < oV pg (clN k (pg 7))
      · rw [if_pos c2]
        show WFP pg wish (P_X4_waitFor_43 pg wish n (nI k + 1) mf (P_X4_waitOn pt 1)).1 ∧ (P_X4_waitFor_43 pg wish n (nI k + 1) mf (P_X4_waitOn pt 1)).2.1 = mf
        rw [nI_1]
        refine ih (k + 1) (P_X4_waitOn pt 1) (by omega) ?_ ?_ ?_ (by omega) (fun j hj2 => ?_)
        · rw [wt_7 (by decide), h7, cl_s]
          rfl
        · rw [wt_o (by decide) (by decide) (by decide), h5]
        · rw [wt_o (by decide) (by decide) (by decide), h6]
        · by_cases q : j = k
          · subst q
            rw [Int32.lt_iff_toInt_lt] at c2
            rw [Int32.le_iff_toInt_le]
            omega
          · exact hj j (by omega)
      · rw [if_neg c2]
        rw [Int32.lt_iff_toInt_lt] at c2
        exact ⟨Or.inr ⟨k, by omega, rfl, by rw [Int32.le_iff_toInt_le]; omega, hj⟩, rfl⟩
theorem wF_r {wish : Int32} (hw : -50 ≤ wish.toInt ∧ wish.toInt ≤ 300) : ∃ tk : Int32, aQ 1 ((P_X4_waitFor z0 pg z0 wish).1, (P_X4_waitFor z0 pg z0 wish).2.1) = tk ∧ WFP pg wish tk := by
  refine ⟨_, rfl, ?_⟩
  unfold P_X4_waitFor
  have zm : (-50 : Int64).toInt = -50 := by decide
  have zp : (300 : Int64).toInt = 300 := by decide
  rw [if_neg (in_yes32 (by rw [zm]; exact hw.1) (by rw [zp]; exact hw.2))]
  have hU : ∀ j : Nat, j < 101 → P_X4_copyPage 101 101 pg z0 0 0 j = pg j := fun j hj => copy_00 rfl hj
  generalize P_X4_copyPage 101 101 pg z0 0 0 = U at hU
  have h := wf_lp2 (pg := pg) wish (upd z0 0 0) ((201 - (0 : Int32).toInt).toNat + 1) 0 U (by decide) (by rw [hU 7 (by decide)]; rfl) (hU 5 (by decide)) (hU 6 (by decide)) (by decide) (fun j hj => absurd hj (Nat.not_lt_zero j))
  have e0 : nI 0 = 0 := nI_0
  rw [e0] at h
  show WFP pg wish (aQ 1 ((P_X4_waitFor_43 pg wish ((201 - (0 : Int32).toInt).toNat + 1) 0 (upd z0 0 0) U).1, (P_X4_waitFor_43 pg wish ((201 - (0 : Int32).toInt).toNat + 1) 0 (upd z0 0 0) U).2.1))
  unfold aQ
  dsimp only
  rw [h.2, if_pos (show (upd z0 0 0) 0 = 0 from rfl)]
  exact h.1
theorem w1_7 : (P_X4_waitOn pg 1) 7 = P_X1_cooled (pg 7) := wt_7 (by decide)
theorem co_eq {w : Int32} : (if 0 ≤ (w - w / 10) - 1 then (w - w / 10) - 1 else 0) = P_X1_cooled w := by rw [cool_eq, rg3]
theorem nle {a b : Int32} (h : ¬ a ≤ b) : b < a := by
  rw [Int32.lt_iff_toInt_lt]
  rw [Int32.le_iff_toInt_le] at h
  omega
theorem nlt {a b : Int32} (h : a ≤ b) : ¬ b < a := by
  rw [Int32.lt_iff_toInt_lt]
  rw [Int32.le_iff_toInt_le] at h
  omega
theorem fr_11 : (P_X4_freeOn pg) 11 = 0 := wt_o (pg := upd pg 11 0) (m := 5) (by decide) (by decide) (by decide)
theorem fr_8 : (P_X4_freeOn pg) 8 = ((pg 8) + 5) := wt_8 (pg := upd pg 11 0) (m := 5) (by decide)
end WT
theorem ne9 {x : Int32} (h : -9999 < x.toInt) : ¬ x = -9999 := fun q => by
  rw [q, show (-9999 : Int32).toInt = -9999 by decide] at h
  omega
theorem nlt1 {k : Nat} (h : 1 ≤ k ∧ k ≤ 1000) : ¬ nI k < 1 := fun q => by
  rw [Int32.lt_iff_toInt_lt, nI_toInt (by omega), show (1 : Int32).toInt = 1 by decide] at q
  omega
theorem ngt {a b : Int32} (h : ¬ a < b) : b ≤ a := by
  rw [Int32.lt_iff_toInt_lt] at h
  rw [Int32.le_iff_toInt_le]
  omega
theorem nI_pr {k : Nat} (h : 1 ≤ k) : (nI k - 1) = nI (k - 1) := by
  have e : k = (k - 1) + 1 := by omega
  rw [e, nI_pred]
  rfl
/-! balances -/
section BL
variable {f oh lf ce pg : Pg}
theorem sr_cp (S : SR f oh lf ce pg) (h : pg 11 = 0) : SR f oh lf ce (upd (P_X4_copyPage 101 101 pg z0 0 0) 11 0) := sr_pg S (fun j hj => by
  by_cases q : j = 11
  · subst q; rw [upd_me, h]
  · rw [upd_o q]; exact copy_00 rfl hj)
theorem bal_j (S : SR f oh lf ce pg) (h : pg 11 = 0) {j : Nat} (hj : j < 15) : (P_X4_balanceOn (upd (P_X4_copyPage 101 101 pg z0 0 0) 11 0)) j = (P_X4_balanceOn pg) j := by
  have h9 : f 9 = 0 := by rw [← S.2.1.2.2.1]; exact h
  have a := sr_bal (sr_cp S h) h9
  have b := sr_bal S h9
  by_cases q : j < 9
  · rw [a.1 j q, b.1 j q]
  · obtain ⟨-, ⟨a9, a10, a11, a12, a13, a14⟩, -⟩ := a
    obtain ⟨-, ⟨b9, b10, b11, b12, b13, b14⟩, -⟩ := b
    match j, hj, q with
    | 9, _, _ => rw [a9, b9]
    | 10, _, _ => rw [a10, b10]
    | 11, _, _ => rw [a11, b11]
    | 12, _, _ => rw [a12, b12]
    | 13, _, _ => rw [a13, b13]
    | 14, _, _ => rw [a14, b14]
theorem bl_0 (S : SR f oh lf ce pg) (h : pg 11 = 0) : aQ 1 ((P_X4_balanced z0 pg z0 0).1, (P_X4_balanced z0 pg z0 0).2.1) = ((P_X4_balanceOn pg) 2) := by
  unfold P_X4_balanced
  dsimp only
  rw [if_neg (by decide), if_pos rfl]
  refine (aQ_0 1 _).trans ?_
  rw [bal_j S h (j := 2) (by decide)]
theorem bl_1 (S : SR f oh lf ce pg) (h : pg 11 = 0) : aQ 1 ((P_X4_balanced z0 pg z0 1).1, (P_X4_balanced z0 pg z0 1).2.1) = (((P_X4_balanceOn pg) 13) - (pg 13)) := by
  unfold P_X4_balanced
  dsimp only
  rw [if_neg (by decide), if_neg (by decide), if_pos rfl]
  refine (aQ_0 1 _).trans ?_
  rw [bal_j S h (j := 13) (by decide)]
theorem bl_2 (S : SR f oh lf ce pg) (h : pg 11 = 0) : aQ 1 ((P_X4_balanced z0 pg z0 2).1, (P_X4_balanced z0 pg z0 2).2.1) = ((P_X4_balanceOn pg) 7) := by
  unfold P_X4_balanced
  dsimp only
  rw [if_neg (by decide), if_neg (by decide), if_neg (by decide), if_pos rfl]
  refine (aQ_0 1 _).trans ?_
  rw [bal_j S h (j := 7) (by decide)]
theorem bl_3 (S : SR f oh lf ce pg) (h : pg 11 = 0) : aQ 1 ((P_X4_balanced z0 pg z0 3).1, (P_X4_balanced z0 pg z0 3).2.1) = ((P_X4_balanceOn pg) 11) := by
  unfold P_X4_balanced
  dsimp only
  rw [if_neg (by decide), if_neg (by decide), if_neg (by decide), if_neg (by decide)]
  refine (aQ_0 1 _).trans ?_
  rw [bal_j S h (j := 11) (by decide)]
end BL
/-- as many ticks as presses; even, if the galvanometer is free at the end -/
def RK (a b : Pg) : Prop := ∃ c : Int32, b 8 = a 8 + c ∧ b 13 = a 13 + c ∧ (b 11 = 0 → ∃ y : Int32, c = y * 2)
theorem rk_rf (a : Pg) : RK a a := ⟨0, (Int32.add_zero _).symm, (Int32.add_zero _).symm, fun _ => ⟨0, by decide⟩⟩
theorem rk_tr {a b d : Pg} (h : RK a b) (hb : b 11 = 0) (h2 : RK b d) : RK a d := by
  obtain ⟨c1, e1, e2, e3⟩ := h
  obtain ⟨c2, f1, f2, f3⟩ := h2
  obtain ⟨y, hy⟩ := e3 hb
  refine ⟨c1 + c2, by rw [f1, e1, rg4], by rw [f2, e2, rg4], fun q => ?_⟩
  obtain ⟨z, hz⟩ := f3 q
  exact ⟨y + z, by rw [hy, hz, rg6]⟩
theorem rk_up {a b : Pg} {x : Int32} (h : RK a b) : RK a (upd b 2 x) := h
theorem rk_pu {a b : Pg} {x : Int32} (h : RK (upd a 2 x) b) : RK a b := h
theorem rk_pair {a : Pg} (h : a 11 = 0) : RK a (P_X4_pairOn a).2 := by
  rw [pair_eq]
  by_cases c : (P_X4_pressOn a 0).2 11 = 1
  · rw [if_pos c]
    exact ⟨1, pk_8, pk_13, fun q => absurd (c.symm.trans q) (by decide)⟩
  · rw [if_neg c]
    refine ⟨2, ?_, ?_, fun _ => ⟨1, by decide⟩⟩
    · show (P_X4_pressOn (P_X4_pressOn a 0).2 1).2 8 = _
      rw [pk_8, pk_8, rg4]
      rfl
    · show (P_X4_pressOn (P_X4_pressOn a 0).2 1).2 13 = _
      rw [pk_13, pk_13, rg4]
      rfl
theorem st_pair {a : Pg} (h : a 11 = 0) : (P_X4_pairOn a).2 11 = 0 ∨ (P_X4_pairOn a).2 11 = 1 := by
  rw [pair_eq]
  have k1 := pk_11 (rv := 0) h
  by_cases c : (P_X4_pressOn a 0).2 11 = 1
  · rw [if_pos c]; exact Or.inr c
  · rw [if_neg c]
    have k0 : (P_X4_pressOn a 0).2 11 = 0 := by
      rw [k1] at c ⊢
      exact (ovr_c _).resolve_right c
    show (P_X4_pressOn (P_X4_pressOn a 0).2 1).2 11 = 0 ∨ (P_X4_pressOn (P_X4_pressOn a 0).2 1).2 11 = 1
    rw [pk_11 k0]
    exact ovr_c _
theorem rk_bal {pg : Pg} (h : PV pg) (h0 : pg 11 = 0) : RK pg (P_X4_balanceOn pg) := by
  unfold P_X4_balanceOn
  have inner : ∀ (K : Int32 → Pg → Pg) (d : Int32), DE d → ¬ d ≤ 0 → (∀ q, PV q → q 11 = 0 → RK q (K (d / 10) q)) → ∀ (n : Nat) (v : Int32) (q : Pg), PV q → q 11 = 0 → (if v = 0 then 0 else (10000 - (q 2).toInt).toNat) < n → RK q (P_X4_balanceOn_14 K d n v q) := by
    intro K d hd hd0 hK n
    induction n with
    | zero => intros; omega
    | succ n ih =>
      intro v q hq hs hm
      unfold P_X4_balanceOn_14
      by_cases c1 : v = 0
      · show RK q (if v = 0 then _ else _)
        rw [if_pos c1]; exact hK q hq hs
      · show RK q (if v = 0 then _ else _)
        rw [if_neg c1]
        by_cases c2 : 9999 < q 2 + d
        · rw [if_pos c2]; exact hK q hq hs
        · rw [if_neg c2]
          have hr := rk_pair (a := upd q 2 (q 2 + d)) hs
          have hz := st_pair (a := upd q 2 (q 2 + d)) hs
          obtain ⟨u, hu⟩ : ∃ u, P_X4_pairOn (upd q 2 (q 2 + d)) = u := ⟨_, rfl⟩
          rw [hu] at hr hz ⊢
          have hr : RK q u.2 := rk_pu hr
          have hb := bal_up hq hd c2
          show RK q (if u.2 11 = 1 then _ else _)
          by_cases c3 : u.2 11 = 1
          · rw [if_pos c3]; exact hr
          · rw [if_neg c3]
            have hz := hz.resolve_right c3
            by_cases c4 : u.1 < 0
            · rw [if_pos c4]
              have hmu := bal_d0 (v2 := v) (pg := q) (q := upd u.2 2 (u.2 2 - d)) c1 hq
              exact rk_tr hr hz (rk_pu (ih _ _ (bal_A hq hd c2 hu) hz (by omega)))
            · rw [if_neg c4]
              have hmu := bal_d1 c1 hq hd hd0 c2 hu
              exact rk_tr hr hz (rk_pu (ih _ _ (bal_B hq hd c2 hu) hz (by omega)))
  have outer : ∀ (n : Nat) (v : Int32) (q : Pg), DE v → PV q → q 11 = 0 → v.toInt.toNat < n → RK q (P_X4_balanceOn_8 n v q) := by
    intro n
    induction n with
    | zero => intros; omega
    | succ n ih =>
      intro v q hv hq hs hm
      unfold P_X4_balanceOn_8
      by_cases c1 : v ≤ 0
      · rw [if_pos c1]; exact rk_rf q
      · rw [if_neg c1]
        have hmu := mu_10 hv c1
        exact inner _ v hv c1 (fun q' hq' hs' => ih _ _ (de10 hv) hq' hs' (by omega)) _ _ _ hq hs (Nat.lt_succ_self _)
  exact rk_pu (outer _ _ _ ⟨by decide, by decide⟩ (pv_up2 h ⟨by decide, by decide⟩) h0 (Nat.lt_succ_self _))
theorem i32_mul2 (x : Int32) : ∃ k : Int, (x * 2).toInt = 2 * k := by
  rw [Int32.toInt_mul]
  have : (2 : Int32).toInt = 2 := by decide
  rw [this, Int.bmod_def]
  split
  · exact ⟨(x.toInt * 2 % 4294967296) / 2, by omega⟩
  · exact ⟨(x.toInt * 2 % 4294967296 - 4294967296) / 2, by omega⟩
theorem even_0 (y : Int32) : (y * 2) - (y * 2) / 2 * 2 = 0 := by
  obtain ⟨k, hk⟩ := i32_mul2 y
  have hb := (y * 2).toInt_lt
  have hb2 := (y * 2).le_toInt
  have z2 : (2 : Int32).toInt = 2 := by decide
  have e : ((y * 2) / 2).toInt = k := by
    rw [Int32.toInt_div_of_ne_right _ _ (by decide), hk, z2]
    exact Int.mul_tdiv_cancel_left k (by decide)
  have m := toI_mul (a := (y * 2) / 2) (b := 2) (by rw [z2, e]; omega) (by rw [z2, e]; omega)
  rw [z2, e] at m
  have s := toI_sub (a := y * 2) (b := (y * 2) / 2 * 2) (by omega) (by omega)
  have z0' : (0 : Int32).toInt = 0 := by decide
  exact Int32.toInt_inj.mp (by omega)
theorem bk_9 {pg : Pg} (h : PV pg) (h0 : pg 11 = 0) : ((P_X4_balanceOn pg) 8) = ((pg 8) + (((P_X4_balanceOn pg) 13) - (pg 13))) := by
  obtain ⟨c, e1, e2, -⟩ := rk_bal h h0
  rw [e1, e2, rg5]
theorem bk_2 {pg : Pg} (h : PV pg) (h0 : pg 11 = 0) (h1 : (P_X4_balanceOn pg) 11 = 0) : ((((P_X4_balanceOn pg) 13) - (pg 13)) - (((P_X4_balanceOn pg) 13) - (pg 13)) / 2 * 2) = 0 := by
  obtain ⟨c, -, e2, e3⟩ := rk_bal h h0
  obtain ⟨y, hy⟩ := e3 h1
  rw [e2, rg5, hy]
  exact even_0 y
theorem bst_0 {x : XT} {n : Int32} {tt pg : Pg} {hs : List Pg} {k0 k1 : Option Pg} (J : JNV x n tt pg hs k0 k1) (h : pg 11 = 0) (c : ¬ (P_X4_balanceOn pg) 11 = 1) : (P_X4_balanceOn pg) 11 = 0 := by
  have h9 : x.2.2.2.1.1 9 = 0 := by rw [← J.sr.2.1.2.2.1]; exact h
  exact (sr_bal J.sr h9).rg.2.2.2.2.resolve_right c
section PP
variable {pg : Pg}
theorem pp_0 (h : pg 11 = 0) (c : ¬ (ovr (P_X4_rawOf pg 0 (pg 4))) = 1) : (P_X4_pressOn pg 0).2 11 = 0 := by
  rw [pk_11 h]
  exact (ovr_c _).resolve_right c
theorem pp_1 (h : pg 11 = 0) (c : (ovr (P_X4_rawOf pg 0 (pg 4))) = 1) : (rd500 (P_X4_rawOf pg 0 (pg 4))) = ((P_X4_pairOn pg).1) := by
  rw [pair_eq, if_pos ((pk_11 h).trans c)]
  exact pk_r.symm
theorem pp_2 (h : pg 11 = 0) (c : ¬ (ovr (P_X4_rawOf pg 0 (pg 4))) = 1) : ((rd500 (P_X4_rawOf pg 0 (pg 4))) - (rd500 (P_X4_rawOf ((P_X4_pressOn pg 0).2) 1 (((P_X4_pressOn pg 0).2) 4)))) = ((P_X4_pairOn pg).1) := by
  rw [pair_eq, if_neg (by rw [pp_0 h c]; decide)]
  show _ = (P_X4_pressOn pg 0).1 - (P_X4_pressOn (P_X4_pressOn pg 0).2 1).1
  rw [pk_r, pk_r]
end PP
