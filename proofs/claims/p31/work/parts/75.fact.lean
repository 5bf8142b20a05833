/-! answers that the law's methods look at, told by the page -/
theorem k_top {p : Program} {l : Launch} {e : Env} {R : Room} {s : State} {m : MethodId} {args : Array Value} {below : List Frame} {meth : Method} {c : Code} {H : Heap} {locs : List Loc} {cells slots : Nat} {Q : State → Prop} {pc : Nat} {ls : Array Slot} {rest : List Value} {v v' : Int32} (h : v = v') (k : W p l e R s m args below meth c H locs cells slots Q (F0 m pc ls (.int v' :: rest))) : W p l e R s m args below meth c H locs cells slots Q (F0 m pc ls (.int v :: rest)) := by
  rw [h]; exact k
theorem aQ_0 (e v : Int32) : aQ e (v, upd z0 0 0) = v := if_pos rfl
section FC
variable {x : XT} {n : Int32} {tt pg : Pg} {hs : List Pg} {k0 k1 : Option Pg}
theorem JNV.sr (J : JNV x n tt pg hs k0 k1) : SR x.2.2.2.1.1 x.2.2.2.1.2.1 x.2.2.2.1.2.2.1 x.2.2.2.1.2.2.2 pg := JV.sr J
theorem JNV.pv (J : JNV x n tt pg hs k0 k1) : PV pg := J.sr.pv
theorem JNV.rg (J : JNV x n tt pg hs k0 k1) : RG pg := J.sr.rg
theorem JNV.nn (J : JNV x n tt pg hs k0 k1) : 0 ≤ n.toInt ∧ n.toInt ≤ 60 := by
  obtain ⟨mf, dd, kk, ki, I, e1, e2, -⟩ := J
  have h := I.1.2.1
  rw [← e2]
  exact h
theorem JNV.st (J : JNV x n tt pg hs k0 k1) : pg 11 = 0 ∨ pg 11 = 1 := J.rg.2.2.2.2
theorem JNV.hl (J : JNV x n tt pg hs k0 k1) : hs.length ≤ 14 := by
  obtain ⟨mf, dd, kk, ki, I, e1, e2, H, -⟩ := J
  have h := I.2.2.1.2.1.2
  have h8 := H.1
  omega
theorem ab_lo {k : Int32} {j : Nat} (h1 : ¬ P_X4_in k.toInt64 0 15 = 0) (h2 : ¬ 8 ≤ k) (h3 : k.toNatClampNeg = j) : aQ 1 ((P_X4_about z0 pg k).1, (P_X4_about z0 pg k).2) = pg j := by
  unfold P_X4_about
  rw [if_neg h1, if_neg h2, h3]
  rfl
theorem ab_hi {k : Int32} {j : Nat} (h1 : ¬ P_X4_in k.toInt64 0 15 = 0) (h2 : 8 ≤ k) (h3 : ¬ k = 8) (h4 : (k - 1).toNatClampNeg = j) : aQ 1 ((P_X4_about z0 pg k).1, (P_X4_about z0 pg k).2) = pg j := by
  unfold P_X4_about
  rw [if_neg h1, if_pos h2, if_neg h3, h4]
  rfl
theorem ab_8 : aQ 1 ((P_X4_about z0 pg 8).1, (P_X4_about z0 pg 8).2) = P_X4_offsetOf pg := by
  unfold P_X4_about
  rw [if_neg (by decide), if_pos (by decide), if_pos rfl]
  rfl
theorem ab_n : aQ 1 ((P_X4_about z0 pg 16).1, (P_X4_about z0 pg 16).2) = -999900002 := by
  unfold P_X4_about
  rw [if_pos (by decide)]
  rfl
theorem td_0 {w : Int32} {j : Nat} (h1 : ¬ P_X4_in w.toInt64 0 3 = 0) (h2 : ((21 + (4 * 0)) + w).toNatClampNeg = j) : aQ 1 ((P_X4_told z0 pg 0 w).1, (P_X4_told z0 pg 0 w).2) = if pg 12 ≤ 0 then -9999 else pg j := by
  unfold P_X4_told
  dsimp only
  rw [if_neg (by decide), if_neg h1, h2]
  by_cases c : pg 12 ≤ 0
  · rw [if_pos c, if_pos c]; rfl
  · rw [if_neg c, if_neg c]; rfl
theorem td_1 : aQ 1 ((P_X4_told z0 pg 1 0).1, (P_X4_told z0 pg 1 0).2) = if pg 12 ≤ 1 then -9999 else pg 25 := by
  unfold P_X4_told
  dsimp only
  rw [if_neg (by decide), if_neg (by decide), show ((21 + (4 * 1)) + 0 : Int32).toNatClampNeg = 25 by decide]
  by_cases c : pg 12 ≤ 1
  · rw [if_pos c, if_pos c]; rfl
  · rw [if_neg c, if_neg c]; rfl
theorem td_n1 : aQ 1 ((P_X4_told z0 pg (-1) 0).1, (P_X4_told z0 pg (-1) 0).2) = -999900002 := by
  unfold P_X4_told
  dsimp only
  rw [if_pos (by decide)]
  rfl
theorem td_n2 : aQ 1 ((P_X4_told z0 pg 0 4).1, (P_X4_told z0 pg 0 4).2) = -999900002 := by
  unfold P_X4_told
  dsimp only
  rw [if_neg (by decide), if_pos (by decide)]
  rfl
theorem br_0 : aQ 1 ((P_X4_bridge z0 pg 0).1, (P_X4_bridge z0 pg 0).2) = P_X4_missing pg (P_X4_unknown pg) (pg 2) := by
  unfold P_X4_bridge
  rw [if_neg (by decide), if_pos (by decide)]
  rfl
theorem br_1 : aQ 1 ((P_X4_bridge z0 pg 1).1, (P_X4_bridge z0 pg 1).2) = P_X4_divisor pg (P_X4_unknown pg) (pg 2) := by
  unfold P_X4_bridge
  rw [if_neg (by decide), if_neg (by decide), if_pos (by decide)]
  rfl
theorem br_2 : aQ 1 ((P_X4_bridge z0 pg 2).1, (P_X4_bridge z0 pg 2).2) = P_X4_trueOf pg (pg 2) (pg 4) := by
  unfold P_X4_bridge
  rw [if_neg (by decide), if_neg (by decide), if_neg (by decide), if_pos (by decide)]
  rfl
theorem br_3 : aQ 1 ((P_X4_bridge z0 pg 3).1, (P_X4_bridge z0 pg 3).2) = P_X4_rawOf pg 0 (pg 4) := by
  unfold P_X4_bridge
  rw [if_neg (by decide), if_neg (by decide), if_neg (by decide), if_neg (by decide), if_pos (by decide)]
  exact aQ_0 1 _
theorem br_4 : aQ 1 ((P_X4_bridge z0 pg 4).1, (P_X4_bridge z0 pg 4).2) = P_X4_rawOf pg 1 (pg 4) := by
  unfold P_X4_bridge
  rw [if_neg (by decide), if_neg (by decide), if_neg (by decide), if_neg (by decide), if_neg (by decide)]
  exact aQ_0 1 _
theorem br_n : aQ 1 ((P_X4_bridge z0 pg 5).1, (P_X4_bridge z0 pg 5).2) = -999900002 := by
  unfold P_X4_bridge
  rw [if_pos (by decide)]
  rfl
theorem vl_0 : aQ 1 ((P_X4_value z0 pg 0).1, (P_X4_value z0 pg 0).2) = ((2 * (P_X4_ten (pg 0) * pg 2)) + P_X4_ten (pg 1)) / (2 * P_X4_ten (pg 1)) := by
  unfold P_X4_value
  rw [if_neg (by decide), if_pos (by decide)]
  rfl
theorem vl_1 : aQ 1 ((P_X4_value z0 pg 1).1, (P_X4_value z0 pg 1).2) = ((P_X4_ten (pg 0) * pg 2) + P_X4_ten (pg 1) - 1) / P_X4_ten (pg 1) := by
  unfold P_X4_value
  rw [if_neg (by decide), if_neg (by decide), if_pos (by decide)]
  rfl
theorem vl_2 : aQ 1 ((P_X4_value z0 pg 2).1, (P_X4_value z0 pg 2).2) = (P_X4_ten (pg 0) * pg 2) / P_X4_ten (pg 1) := by
  unfold P_X4_value
  rw [if_neg (by decide), if_neg (by decide), if_neg (by decide)]
  rfl
theorem vl_n : aQ 1 ((P_X4_value z0 pg 3).1, (P_X4_value z0 pg 3).2) = -999900002 := by
  unfold P_X4_value
  rw [if_pos (by decide)]
  rfl
theorem un_lo {pg : Pg} {i : Int32} (h : i.toInt < 0) : P_X4_isUnknown pg i = 0 := by
  unfold P_X4_isUnknown P_X4_in
  rw [if_pos (cmp_lt.mpr (Int64.lt_iff_toInt_lt.mpr (by rw [Int32.toInt_toInt64]; exact h)))]
theorem un_hi {pg : Pg} (h : PV pg) : P_X4_isUnknown pg (pg 9) = 0 := by
  have z1 : (1 : Int32).toInt = 1 := by decide
  have z0' : (0 : Int64).toInt = 0 := by decide
  have s1 := toI_sub (a := pg 9) (b := 1) (by have := h.1; omega) (by have := h.1; omega)
  unfold P_X4_isUnknown P_X4_in
  rw [if_neg (by rw [cmp_lt, Int64.lt_iff_toInt_lt, Int32.toInt_toInt64]; have := h.1; omega), if_pos (cmp_gt.mpr (Int64.lt_iff_toInt_lt.mpr (by rw [Int32.toInt_toInt64, Int32.toInt_toInt64]; omega)))]
theorem un_ok {pg : Pg} {i : Int32} (h : PV pg) (h0 : 0 ≤ i.toInt) (h1 : i.toInt < (pg 9).toInt) : ¬ P_X4_isUnknown pg i = 0 := by
  have z1 : (1 : Int32).toInt = 1 := by decide
  have z0' : (0 : Int64).toInt = 0 := by decide
  have s1 := toI_sub (a := pg 9) (b := 1) (by have := h.1; omega) (by have := h.1; omega)
  unfold P_X4_isUnknown P_X4_in
  rw [if_neg (by rw [cmp_lt, Int64.lt_iff_toInt_lt, Int32.toInt_toInt64]; omega), if_neg (by rw [cmp_gt, Int64.lt_iff_toInt_lt, Int32.toInt_toInt64, Int32.toInt_toInt64]; omega)]
  decide
theorem un_ch {pg : Pg} (h : PV pg) : ¬ P_X4_isUnknown pg (pg 10) = 0 := un_ok h h.2.1.1 h.2.1.2
theorem bR_n {i : Int32} (h : P_X4_isUnknown pg i = 0) : aQ 3 ((P_X4_bestR z0 pg i).1, (P_X4_bestR z0 pg i).2) = -999900001 := by
  unfold P_X4_bestR
  rw [if_pos h]
  rfl
theorem bA_n {i : Int32} (h : P_X4_isUnknown pg i = 0) : aQ 3 ((P_X4_bestArms z0 pg i).1, (P_X4_bestArms z0 pg i).2) = -999900001 := by
  unfold P_X4_bestArms
  rw [if_pos h]
  rfl
theorem oA_n1 : aQ 1 ((P_X4_offsetAfter z0 pg z0 100 0).1, (P_X4_offsetAfter z0 pg z0 100 0).2.1) = -999900002 := by
  unfold P_X4_offsetAfter
  dsimp only
  rw [if_pos (by decide)]
  rfl
theorem oA_n2 : aQ 1 ((P_X4_offsetAfter z0 pg z0 0 201).1, (P_X4_offsetAfter z0 pg z0 0 201).2.1) = -999900002 := by
  unfold P_X4_offsetAfter
  dsimp only
  rw [if_neg (by decide), if_pos (by decide)]
  rfl
theorem wF_n1 : aQ 1 ((P_X4_waitFor z0 pg z0 (-51)).1, (P_X4_waitFor z0 pg z0 (-51)).2.1) = -999900002 := by
  unfold P_X4_waitFor
  rw [if_pos (by decide)]
  rfl
theorem wF_n2 : aQ 1 ((P_X4_waitFor z0 pg z0 301).1, (P_X4_waitFor z0 pg z0 301).2.1) = -999900002 := by
  unfold P_X4_waitFor
  rw [if_pos (by decide)]
  rfl
theorem bl_n : aQ 1 ((P_X4_balanced z0 pg z0 4).1, (P_X4_balanced z0 pg z0 4).2.1) = -999900002 := by
  unfold P_X4_balanced
  rw [if_pos (by decide)]
  rfl
theorem sc_n1 : aQ 1 ((P_X4_runScript z0 pg z0 4 0).1, (P_X4_runScript z0 pg z0 4 0).2.1) = -999900002 := by
  unfold P_X4_runScript
  dsimp only
  rw [if_neg (by decide), if_neg (by decide), if_pos (by decide)]
  rfl
theorem sc_n2 : aQ 1 ((P_X4_runScript z0 pg z0 1 100000).1, (P_X4_runScript z0 pg z0 1 100000).2.1) = -999900002 := by
  unfold P_X4_runScript
  dsimp only
  rw [if_pos rfl, if_neg (by decide), if_pos (by decide)]
  rfl
theorem sm_n : aQ 1 ((P_X4_simulate z0 pg z0 1 100).1, (P_X4_simulate z0 pg z0 1 100).2.1) = -999900002 := by
  unfold P_X4_simulate
  rw [if_pos (by decide)]
  rfl
theorem six {pg : Pg} (h : PV pg) (c : ¬ pg 9 < 6) : pg 9 = 6 := by
  rw [Int32.lt_iff_toInt_lt] at c
  have z : (6 : Int32).toInt = 6 := by decide
  exact Int32.toInt_inj.mp (by have := h.1; omega)
end FC
theorem and_nn (x : Int32) : 0 ≤ (x &&& 2147483647).toInt := by
  have h : (x &&& 2147483647).toBitVec.msb = false := by
    rw [Int32.toBitVec_and, BitVec.msb_and]
    have : (2147483647 : Int32).toBitVec.msb = false := by decide
    rw [this, Bool.and_false]
  show 0 ≤ (x &&& 2147483647).toBitVec.toInt
  exact BitVec.toInt_nonneg_of_msb_false h
theorem np1 {n : Int32} (h : 0 ≤ n.toInt ∧ n.toInt ≤ 60) : ¬ n + 1 ≤ 0 := by
  have z1 : (1 : Int32).toInt = 1 := by decide
  have z : (0 : Int32).toInt = 0 := by decide
  have a := toI_add (a := n) (b := 1) (by omega) (by omega)
  rw [Int32.le_iff_toInt_le]
  omega
/-! small: two digits, the box, its numbers -/
theorem rb_00 : RB 0 := ⟨by decide, by decide⟩
theorem two_1 {v : Int32} (hv : 0 ≤ v.toInt ∧ v.toInt ≤ 99) : 0 ≤ (48 + v / 10).toInt ∧ (48 + v / 10).toInt ≤ 255 := by
  have z : (48 : Int32).toInt = 48 := by decide
  have dv := div10 (x := v) hv.1
  have a := toI_add (a := 48) (b := v / 10) (by omega) (by omega)
  omega
theorem two_2 {v : Int32} (hv : 0 ≤ v.toInt ∧ v.toInt ≤ 99) : 0 ≤ (48 + (v - v / 10 * 10)).toInt ∧ (48 + (v - v / 10 * 10)).toInt ≤ 255 := by
  have z : (48 : Int32).toInt = 48 := by decide
  have z10 : (10 : Int32).toInt = 10 := by decide
  have m := i32_mod (g := v) (k := 10) hv.1 (by decide)
  rw [z10] at m
  have a := toI_add (a := 48) (b := v - v / 10 * 10) (by omega) (by omega)
  omega
theorem two_n {n : Int32} (h : 0 ≤ n.toInt ∧ n.toInt ≤ 60) (hn : n.toInt < 59) : (n + 1).toInt < 60 := by
  have z1 : (1 : Int32).toInt = 1 := by decide
  have a := toI_add (a := n) (b := 1) (by omega) (by omega)
  omega
theorem in_yes {v lo hi : Int64} (h1 : lo.toInt ≤ v.toInt) (h2 : v.toInt ≤ hi.toInt) : ¬ P_X4_in v lo hi = 0 := by
  unfold P_X4_in
  rw [if_neg (by rw [cmp_lt, Int64.lt_iff_toInt_lt]; omega), if_neg (by rw [cmp_gt, Int64.lt_iff_toInt_lt]; omega)]
  decide
theorem in_yes32 {v : Int32} {lo hi : Int64} (h1 : lo.toInt ≤ v.toInt) (h2 : v.toInt ≤ hi.toInt) : ¬ P_X4_in v.toInt64 lo hi = 0 := in_yes (by rw [Int32.toInt_toInt64]; exact h1) (by rw [Int32.toInt_toInt64]; exact h2)
theorem set_2 {v : Int32} (h : RB v) : ¬ P_X4_isSetting 2 v = 0 := by
  unfold P_X4_isSetting
  rw [if_neg (by decide), if_neg (by decide), if_pos rfl]
  exact in_yes32 h.1 h.2
theorem rb_nl {pg : Pg} (h : PV pg) : ¬ pg 2 < 0 := by
  rw [Int32.lt_iff_toInt_lt]
  have z : (0 : Int32).toInt = 0 := by decide
  have := h.2.2.2.1.1
  omega
theorem unk_pg {pg : Pg} (h : PV pg) : 1 ≤ (P_X4_unknown pg).toInt ∧ (P_X4_unknown pg).toInt ≤ 9999 := pv_unk h
theorem i32_div_i {a b : Int32} (ha : 0 ≤ a.toInt) (hb : 0 < b.toInt) : (a / b).toInt = a.toInt / b.toInt := i32_div ha hb
theorem oh_x {pg : Pg} (h : PV pg) : P_X4_missing (upd pg 2 0) (P_X4_unknown (upd pg 2 0)) 0 / P_X4_ten (pg 1) = P_X4_unknown pg := by
  have hu := pv_unk h
  have ht := ten_b (pg 1)
  have e : P_X4_missing (upd pg 2 0) (P_X4_unknown (upd pg 2 0)) 0 = P_X4_ten (pg 1) * P_X4_unknown pg := by
    unfold P_X4_missing
    have eu : P_X4_unknown (upd pg 2 0) = P_X4_unknown pg := by
      unfold P_X4_unknown
      have e10 : (upd pg 2 0) 10 = pg 10 := rfl
      rw [e10]
      refine upd_o ?_
      have z15 : (15 : Int32).toInt = 15 := by decide
      have b := h.2.1
      have b9 := h.1
      have a := toI_add (a := 15) (b := pg 10) (by omega) (by omega)
      show (15 + pg 10).toInt.toNat ≠ 2
      omega
    rw [eu]
    show P_X4_ten (pg 1) * P_X4_unknown pg - P_X4_ten (pg 0) * 0 = _
    rw [Int32.mul_zero, Int32.sub_zero]
  rw [e]
  refine Int32.toInt_inj.mp ?_
  have hp : 0 ≤ (P_X4_ten (pg 1)).toInt * (P_X4_unknown pg).toInt := Int.mul_nonneg (by omega) (by omega)
  have hq : (P_X4_ten (pg 1)).toInt * (P_X4_unknown pg).toInt ≤ 1000 * 9999 := Int.mul_le_mul ht.2 hu.2 (by omega) (by omega)
  have m := toI_mul (a := P_X4_ten (pg 1)) (b := P_X4_unknown pg) (by omega) (by omega)
  rw [i32_div_i (by rw [m]; exact hp) (by omega), m]
  exact Int.mul_ediv_cancel_left _ (by omega)
theorem upd_back (pg : Pg) (k : Nat) (v : Int32) : upd (upd pg k v) k (pg k) = pg := by
  funext j
  by_cases c : j = k
  · subst c; rw [upd_me]
  · rw [upd_o c, upd_o c]
theorem oh_u {x : XT} {n : Int32} {tt pg : Pg} {hs : List Pg} {k0 k1 : Option Pg} (J : JNV x n tt (upd (upd pg 2 0) 2 (pg 2)) hs k0 k1) : JNV x n tt pg hs k0 k1 := by
  rw [upd_back] at J
  exact J
/-! a press -/
theorem ovr_c (x : Int32) : ovr x = 0 ∨ ovr x = 1 := by
  unfold ovr
  by_cases c : x < -5000
  · rw [if_pos c]; exact Or.inr rfl
  · rw [if_neg c]
    by_cases c2 : x ≤ 5000
    · rw [if_pos c2]; exact Or.inl rfl
    · rw [if_neg c2]; exact Or.inr rfl
theorem ovr_n {x : Int32} (h : ¬ ovr x = 0) : 1 = ovr x := ((ovr_c x).resolve_left h).symm
section PK
variable {pg : Pg} {rv : Int32}
theorem pk_r : (P_X4_pressOn pg rv).1 = rd500 (P_X4_rawOf pg rv (pg 4)) := by rw [press_eq]
theorem pk_lo {j : Nat} (h : j < 21) (h7 : j ≠ 7) (h8 : j ≠ 8) (h11 : j ≠ 11) (h12 : j ≠ 12) (h13 : j ≠ 13) (h14 : j ≠ 14) : (P_X4_pressOn pg rv).2 j = pg j := by
  rw [press_eq]
  exact pressP_lo h h7 h8 h11 h12 h13 h14
theorem pk_7 : (P_X4_pressOn pg rv).2 7 = if ((pg 7) + (pg 3)) ≤ 9999 then ((pg 7) + (pg 3)) else 9999 := by rw [press_eq]; rfl
theorem pk_8 : (P_X4_pressOn pg rv).2 8 = ((pg 8) + 1) := by rw [press_eq]; rfl
theorem pk_11 (h : pg 11 = 0) : (P_X4_pressOn pg rv).2 11 = ovr (P_X4_rawOf pg rv (pg 4)) := by
  rw [press_eq]
  show (if ovr (P_X4_rawOf pg rv (pg 4)) = 0 then pg 11 else 1) = _
  rcases ovr_c (P_X4_rawOf pg rv (pg 4)) with c | c
  · rw [c, if_pos rfl, h]
  · rw [c, if_neg (by decide)]
theorem pk_12 : (P_X4_pressOn pg rv).2 12 = if 20 ≤ pg 12 then 20 else pg 12 + 1 := by rw [press_eq]; rfl
theorem pk_13 : (P_X4_pressOn pg rv).2 13 = ((pg 13) + 1) := by rw [press_eq]; rfl
theorem pk_14 : (P_X4_pressOn pg rv).2 14 = ((pg 14) + (ovr (P_X4_rawOf pg rv (pg 4)))) := by
  rw [press_eq]
  show pg 14 + (if ovr (P_X4_rawOf pg rv (pg 4)) = 0 then 0 else 1) = _
  rcases ovr_c (P_X4_rawOf pg rv (pg 4)) with c | c
  · rw [c, if_pos rfl]
  · rw [c, if_neg (by decide)]
theorem pk_21 : (P_X4_pressOn pg rv).2 21 = rd500 (P_X4_rawOf pg rv (pg 4)) := by rw [press_eq]; rfl
theorem pk_22 : (P_X4_pressOn pg rv).2 22 = if rv = 0 then 1 else -1 := by rw [press_eq]; rfl
theorem pk_23 : (P_X4_pressOn pg rv).2 23 = pg 2 := by rw [press_eq]; rfl
theorem pk_24 : (P_X4_pressOn pg rv).2 24 = pg 8 := by rw [press_eq]; rfl
theorem pk_25 : (P_X4_pressOn pg rv).2 25 = pg 21 := by
  rw [press_eq]
  show sh pg 100 25 = pg 21
  unfold sh
  rw [if_pos (by omega)]
theorem pk_12p (h : PV pg) : ¬ (P_X4_pressOn pg rv).2 12 ≤ 0 := by
  rw [pk_12, Int32.le_iff_toInt_le]
  have z : (0 : Int32).toInt = 0 := by decide
  have z1 : (1 : Int32).toInt = 1 := by decide
  have z20 : (20 : Int32).toInt = 20 := by decide
  have b := h.2.2.2.2
  by_cases c : 20 ≤ pg 12
  · rw [if_pos c]; omega
  · rw [if_neg c]
    have a := toI_add (a := pg 12) (b := 1) (by omega) (by omega)
    omega
theorem pk_12q (h : PV pg) : ((P_X4_pressOn pg rv).2 12 ≤ 1) ↔ (pg 12 ≤ 0) := by
  have z : (0 : Int32).toInt = 0 := by decide
  have z1 : (1 : Int32).toInt = 1 := by decide
  have z20 : (20 : Int32).toInt = 20 := by decide
  have b := h.2.2.2.2
  by_cases c : 20 ≤ pg 12
  · have e : (P_X4_pressOn pg rv).2 12 = 20 := by rw [pk_12, if_pos c]
    rw [e]
    simp only [Int32.le_iff_toInt_le] at c ⊢
    omega
  · have e : (P_X4_pressOn pg rv).2 12 = pg 12 + 1 := by rw [pk_12, if_neg c]
    rw [e]
    have a := toI_add (a := pg 12) (b := 1) (by omega) (by omega)
    simp only [Int32.le_iff_toInt_le] at c ⊢
    omega
theorem pk_t {w : Int32} {j : Nat} {r : Int32} (h : PV pg) (h1 : ¬ P_X4_in w.toInt64 0 3 = 0) (h2 : ((21 + (4 * 0)) + w).toNatClampNeg = j) (h3 : (P_X4_pressOn pg rv).2 j = r) : aQ 1 ((P_X4_told z0 (P_X4_pressOn pg rv).2 0 w).1, (P_X4_told z0 (P_X4_pressOn pg rv).2 0 w).2) = r := by
  rw [td_0 h1 h2, if_neg (pk_12p h), h3]
theorem pk_t1 (h : PV pg) : aQ 1 ((P_X4_told z0 (P_X4_pressOn pg rv).2 1 0).1, (P_X4_told z0 (P_X4_pressOn pg rv).2 1 0).2) = (if pg 12 ≤ 0 then (-9999) else (pg 21)) := by
  rw [td_1, pk_25]
  by_cases c : pg 12 ≤ 0
  · rw [if_pos c, if_pos ((pk_12q h).mpr c)]
  · rw [if_neg c, if_neg (fun q => c ((pk_12q h).mp q))]
theorem pr_sum (h : PV pg) (r : RG pg) : (P_X4_rawOf pg 0 (pg 4)) + (P_X4_rawOf pg 1 (pg 4)) = 2 * (P_X4_offsetOf pg) := by
  have t := true_b h r h.2.2.2.1 (pg 4)
  have o := off_b r
  rw [raw_0, raw_1]
  have z2 : (2 : Int32).toInt = 2 := by decide
  have a := toI_add (a := P_X4_offsetOf pg) (b := P_X4_trueOf pg (pg 2) (pg 4)) (by omega) (by omega)
  have b := toI_sub (a := P_X4_offsetOf pg) (b := P_X4_trueOf pg (pg 2) (pg 4)) (by omega) (by omega)
  have c := toI_add (a := P_X4_offsetOf pg + P_X4_trueOf pg (pg 2) (pg 4)) (b := P_X4_offsetOf pg - P_X4_trueOf pg (pg 2) (pg 4)) (by omega) (by omega)
  have d := toI_mul (a := 2) (b := P_X4_offsetOf pg) (by rw [z2]; omega) (by rw [z2]; omega)
  rw [z2] at d
  exact Int32.toInt_inj.mp (by omega)
theorem pr_dif (h : PV pg) (r : RG pg) : (P_X4_rawOf pg 0 (pg 4)) - (P_X4_rawOf pg 1 (pg 4)) = 2 * (P_X4_trueOf pg (pg 2) (pg 4)) := by
  have t := true_b h r h.2.2.2.1 (pg 4)
  have o := off_b r
  rw [raw_0, raw_1]
  have z2 : (2 : Int32).toInt = 2 := by decide
  have a := toI_add (a := P_X4_offsetOf pg) (b := P_X4_trueOf pg (pg 2) (pg 4)) (by omega) (by omega)
  have b := toI_sub (a := P_X4_offsetOf pg) (b := P_X4_trueOf pg (pg 2) (pg 4)) (by omega) (by omega)
  have c := toI_sub (a := P_X4_offsetOf pg + P_X4_trueOf pg (pg 2) (pg 4)) (b := P_X4_offsetOf pg - P_X4_trueOf pg (pg 2) (pg 4)) (by omega) (by omega)
  have d := toI_mul (a := 2) (b := P_X4_trueOf pg (pg 2) (pg 4)) (by rw [z2]; omega) (by rw [z2]; omega)
  rw [z2] at d
  exact Int32.toInt_inj.mp (by omega)
end PK
