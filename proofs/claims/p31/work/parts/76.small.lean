/-! the law's methods -/
abbrev rmL_number : Room := { frames := 1, cells := 0, slots := 0, locals := 20 }
set_option maxRecDepth 100000 in
theorem c_L_number (l : Launch) (G : gG) (b L : Nat) (xs : Nat → Int32) (hL : L ≤ 260) (k : Int32) (hk : 0 ≤ k.toInt) : kG l G yL_number wsL_number rmL_number [.ref b, .int k] b L xs (fun _ : Unit => []) (fun _ => True) (fun r _ => 0 ≤ r.toInt) 0 0 := by
  refine k_bodyG (cc := cL_number) (nL := 2) (ret := some .int) (by decide) rfl (Nat.le_of_ble_eq_true rfl) ?_
  rintro ⟨⟩ -
  intro p e s m args below meth c A cx cl H locs hP hD hS ls hl
  obtain ⟨hx, hb, hml, hown, hts, hr, hlocks, hK, hA⟩ := id cx
  obtain ⟨hE, hN, hZ, hX, hbl, hbA⟩ := cl
  have hl : lv_has ls 2 [(0, .ref b), (1, .int k)] := hl
  refine lv_iload_n hx hb dL_number_0 rfl (lv_at hl 1 rfl) ?_
  refine lv_aload_n hx hb dL_number_1 rfl (lv_at hl 0 rfl) ?_
  refine va_slen hx hb hX hbl hbA hS dL_number_2 ?_
  refine lv_icmp_ge (tgt := 12) hx hb dL_number_3 (by decide) (fun c1 => ?_) (fun c1 => ?_)
  · refine k_ldc (v := 15516271) cx (by decide +kernel) dL_number_12 ?_
    refine lv_iload_n hx hb dL_number_14 rfl (lv_at hl 1 rfl) ?_
    refine lv_iconst (v := 5) hx hb dL_number_15 (by decide) ?_
    refine lv_iadd hx hb dL_number_16 ?_
    refine lv_imul hx hb dL_number_17 ?_
    refine lv_sipush (v := 10061) hx hb dL_number_18 (by decide) ?_
    refine lv_iadd hx hb dL_number_21 ?_
    refine k_ldc (v := 2147483647) cx (by decide +kernel) dL_number_22 ?_
    refine lv_iand hx hb dL_number_24 ?_
    exact k_retG (w := fun _ : Unit => []) (u := ()) cx rfl (and_nn _) hP hS ⟨Nat.le_refl _, Nat.le_refl _⟩ dL_number_25
  · have hin : vp_in k L := ix_lenN (by omega) (by rw [Int32.lt_iff_toInt_lt]; have z : (0 : Int32).toInt = 0 := by decide
                                                   omega) c1
    refine lv_aload_n hx hb dL_number_6 rfl (lv_at hl 0 rfl) ?_
    refine lv_iload_n hx hb dL_number_7 rfl (lv_at hl 1 rfl) ?_
    refine va_sld hx hb hX hbl hbA hS hin dL_number_8 ?_
    refine lv_goto (tgt := 22) hx hb dL_number_9 (by decide) ?_
    refine k_ldc (v := 2147483647) cx (by decide +kernel) dL_number_22 ?_
    refine lv_iand hx hb dL_number_24 ?_
    exact k_retG (w := fun _ : Unit => []) (u := ()) cx rfl (and_nn _) hP hS ⟨Nat.le_refl _, Nat.le_refl _⟩ dL_number_25

abbrev rmL_limited : Room := { frames := 1, cells := 0, slots := 0, locals := 20 }
set_option maxRecDepth 100000 in
set_option maxHeartbeats 16000000 in
theorem c_L_limited (l : Launch) (hlt : l.stackTraces = false) (G : gG) (b L : Nat) (xs : Nat → Int32) (v : Int32)  : kG l G yL_limited wsL_limited rmL_limited [.int v] b L xs (fun _ : Unit => []) (fun _ => True) (fun r _ => r = rd500 v) 0 0 := by
  refine k_bodyG (cc := cL_limited) (nL := 1) (ret := some .int) (by decide) rfl (Nat.le_of_ble_eq_true rfl) ?_
  rintro ⟨⟩ -
  intro p e s m args below meth c A cx cl H locs hP hD hS ls hl
  obtain ⟨hx, hb, hml, hown, hts, hr, hlocks, hK, hA⟩ := id cx
  have hl : lv_has ls 1 [(0, .int v)] := hl
  refine lv_iload_n hx hb dL_limited_0 rfl (lv_at hl 0 rfl) ?_
  refine lv_sipush (v := 500) hx hb dL_limited_1 (by decide) ?_
  refine lv_icmp_le (tgt := 13) hx hb dL_limited_4 (by decide) (fun c4 => ?_) (fun c4 => ?_)
  · refine lv_iload_n hx hb dL_limited_13 rfl (lv_at hl 0 rfl) ?_
    refine lv_sipush (v := (-500)) hx hb dL_limited_14 (by decide) ?_
    refine lv_icmp_ge (tgt := 26) hx hb dL_limited_17 (by decide) (fun c17 => ?_) (fun c17 => ?_)
    · refine lv_iload_n hx hb dL_limited_26 rfl (lv_at hl 0 rfl) ?_
      exact k_retG (u := ()) cx rfl (by unfold rd500; first | simp only [c4, c17, if_true, if_false] | simp only [c4, if_true, if_false]) hP hS ⟨Nat.le_of_ble_eq_true rfl, Nat.le_of_ble_eq_true rfl⟩ dL_limited_27
    · refine lv_sipush (v := (-500)) hx hb dL_limited_20 (by decide) ?_
      refine lv_goto (tgt := 27) hx hb dL_limited_23 (by decide) ?_
      exact k_retG (u := ()) cx rfl (by unfold rd500; first | simp only [c4, c17, if_true, if_false] | simp only [c4, if_true, if_false]) hP hS ⟨Nat.le_of_ble_eq_true rfl, Nat.le_of_ble_eq_true rfl⟩ dL_limited_27
  · refine lv_sipush (v := 500) hx hb dL_limited_7 (by decide) ?_
    refine lv_goto (tgt := 27) hx hb dL_limited_10 (by decide) ?_
    exact k_retG (u := ()) cx rfl (by unfold rd500; first | simp only [c4, c17, if_true, if_false] | simp only [c4, if_true, if_false]) hP hS ⟨Nat.le_of_ble_eq_true rfl, Nat.le_of_ble_eq_true rfl⟩ dL_limited_27

abbrev rmL_size : Room := { frames := 1, cells := 0, slots := 0, locals := 20 }
set_option maxRecDepth 100000 in
set_option maxHeartbeats 16000000 in
theorem c_L_size (l : Launch) (hlt : l.stackTraces = false) (G : gG) (b L : Nat) (xs : Nat → Int32) (v : Int32)  : kG l G yL_size wsL_size rmL_size [.int v] b L xs (fun _ : Unit => []) (fun _ => True) (fun r _ => r = P_X4_size v) 0 0 := by
  refine k_bodyG (cc := cL_size) (nL := 1) (ret := some .int) (by decide) rfl (Nat.le_of_ble_eq_true rfl) ?_
  rintro ⟨⟩ -
  intro p e s m args below meth c A cx cl H locs hP hD hS ls hl
  obtain ⟨hx, hb, hml, hown, hts, hr, hlocks, hK, hA⟩ := id cx
  have hl : lv_has ls 1 [(0, .int v)] := hl
  refine lv_iload_n hx hb dL_size_0 rfl (lv_at hl 0 rfl) ?_
  refine lv_if_ge (tgt := 9) hx hb dL_size_1 (by decide) (fun c1 => ?_) (fun c1 => ?_)
  · refine lv_iload_n hx hb dL_size_9 rfl (lv_at hl 0 rfl) ?_
    exact k_retG (u := ()) cx rfl (by unfold P_X4_size; simp only [c1, if_true, if_false]) hP hS ⟨Nat.le_of_ble_eq_true rfl, Nat.le_of_ble_eq_true rfl⟩ dL_size_10
  · refine lv_iload_n hx hb dL_size_4 rfl (lv_at hl 0 rfl) ?_
    refine lv_ineg hx hb dL_size_5 ?_
    refine lv_goto (tgt := 10) hx hb dL_size_6 (by decide) ?_
    exact k_retG (u := ()) cx rfl (by unfold P_X4_size; simp only [c1, if_true, if_false]) hP hS ⟨Nat.le_of_ble_eq_true rfl, Nat.le_of_ble_eq_true rfl⟩ dL_size_10

abbrev rmL_put : Room := { frames := 8, cells := 2, slots := 12, locals := 190 }
set_option maxRecDepth 100000 in
set_option maxHeartbeats 16000000 in
theorem c_L_put (l : Launch) (hlt : l.stackTraces = false) (G : gG) (b L : Nat) (xs : Nat → Int32) (d1 d2 : AD) (HQ1 : PQd d1) (HQ2 : PQd d2) (n : Int32) (tt pg1 pg2 : Pg) (hs1 hs2 : List Pg) (a0 a1 b0 b1 : Option Pg) (ch : Int32) (hc : 0 ≤ ch.toInt ∧ ch.toInt ≤ 255) (hn : n.toInt < 60) : kG l G yL_put wsL_put rmL_put [.ref d1.1, .ref d2.1, .int ch] b L xs (fun x : XT × XT => wB G d1 x.1 (wB G d2 x.2 [])) (fun x => JNV x.1 n tt pg1 hs1 a0 a1 ∧ JNV x.2 n tt pg2 hs2 b0 b1) (fun r x => r = 1 ∧ JNV x.1 (n + 1) (upd tt n.toNatClampNeg ch) pg1 hs1 a0 a1 ∧ JNV x.2 (n + 1) (upd tt n.toNatClampNeg ch) pg2 hs2 b0 b1) 2 12 := by
  refine k_bodyG (cc := cL_put) (nL := 3) (ret := some .boolean) (by decide) rfl (Nat.le_of_ble_eq_true rfl) ?_
  rintro ⟨x1, x2⟩ hI
  intro p e s m args below meth c A cx cl H locs hP hD hS ls hl
  obtain ⟨hx, hb, hml, hown, hts, hr, hlocks, hK, hA⟩ := id cx
  have hl : lv_has ls 3 [(0, .ref d1.1), (1, .ref d2.1), (2, .int ch)] := hl
  have hP : va_P G.1 vwCl (wB G d1 x1 (wB G d2 x2 [])) H := hP
  have hD : va_D A (wB G d1 x1 (wB G d2 x2 [])) := hD
  obtain ⟨J1, J2⟩ : JNV x1 n tt pg1 hs1 a0 a1 ∧ JNV x2 n tt pg2 hs2 b0 b1 := hI
  have hnn := J1.nn
  refine lv_aload_n hx hb dL_put_0 rfl (lv_at hl 0 rfl) ?_
  refine lv_iload_n hx hb dL_put_1 rfl (lv_at hl 2 rfl) ?_
  refine o_append hlt cx cl HQ1 J1 ch hc hn (r0 := (n + 1)) rfl hP hD hS gL_put_L_tryAppend ⟨Nat.le_of_ble_eq_true rfl, Nat.le_of_ble_eq_true rfl⟩ hl (Nat.le_of_ble_eq_true rfl) dL_put_2 ⟨Nat.le_of_ble_eq_true rfl, Nat.le_of_ble_eq_true rfl⟩ (fun x1 H locs J1 hP hD hS => ?_)
  have J1 : JNV x1 (n + 1) (upd tt n.toNatClampNeg ch) pg1 hs1 a0 a1 := J1
  refine lv_if_le (tgt := 20) hx hb dL_put_5 (by decide) (fun c9 => absurd c9 (np1 hnn)) (fun c9 => ?_)
  refine lv_aload_n hx hb dL_put_8 rfl (lv_at hl 1 rfl) ?_
  refine lv_iload_n hx hb dL_put_9 rfl (lv_at hl 2 rfl) ?_
  replace hP := kP_perm (wB_swap G d1 d2 x1 x2 []) hP
  replace hD := kD_perm (wB_swap G d1 d2 x1 x2 []) hD
  refine o_append hlt cx cl HQ2 J2 ch hc hn (r0 := (n + 1)) rfl hP hD hS gL_put_L_tryAppend ⟨Nat.le_of_ble_eq_true rfl, Nat.le_of_ble_eq_true rfl⟩ hl (Nat.le_of_ble_eq_true rfl) dL_put_10 ⟨Nat.le_of_ble_eq_true rfl, Nat.le_of_ble_eq_true rfl⟩ (fun x2 H locs J2 hP hD hS => ?_)
  have J2 : JNV x2 (n + 1) (upd tt n.toNatClampNeg ch) pg2 hs2 b0 b1 := J2
  replace hP := kP_perm (wB_swap G d2 d1 x2 x1 []) hP
  replace hD := kD_perm (wB_swap G d2 d1 x2 x1 []) hD
  refine lv_if_le (tgt := 20) hx hb dL_put_13 (by decide) (fun c9 => absurd c9 (np1 hnn)) (fun c9 => ?_)
  refine lv_iconst (v := 1) hx hb dL_put_16 (by decide) ?_
  refine lv_goto (tgt := 21) hx hb dL_put_17 (by decide) ?_
  exact k_retG (u := (x1, x2)) cx (nz (Or.inr rfl)) ⟨rfl, J1, J2⟩ hP hS ⟨Nat.le_of_ble_eq_true rfl, Nat.le_of_ble_eq_true rfl⟩ dL_put_21

abbrev rmL_two : Room := { frames := 9, cells := 4, slots := 24, locals := 240 }
set_option maxRecDepth 100000 in
set_option maxHeartbeats 16000000 in
theorem c_L_two (l : Launch) (hlt : l.stackTraces = false) (G : gG) (b L : Nat) (xs : Nat → Int32) (d1 d2 : AD) (HQ1 : PQd d1) (HQ2 : PQd d2) (n : Int32) (tt pg1 pg2 : Pg) (hs1 hs2 : List Pg) (a0 a1 b0 b1 : Option Pg) (v : Int32) (hv : 0 ≤ v.toInt ∧ v.toInt ≤ 99) (hn : n.toInt < 59) : kG l G yL_two wsL_two rmL_two [.ref d1.1, .ref d2.1, .int v] b L xs (fun x : XT × XT => wB G d1 x.1 (wB G d2 x.2 [])) (fun x => JNV x.1 n tt pg1 hs1 a0 a1 ∧ JNV x.2 n tt pg2 hs2 b0 b1) (fun r x => r = 1 ∧ JNV x.1 (n + 1 + 1) (upd (upd tt n.toNatClampNeg (48 + v / 10)) (n + 1).toNatClampNeg (48 + (v - v / 10 * 10))) pg1 hs1 a0 a1 ∧ JNV x.2 (n + 1 + 1) (upd (upd tt n.toNatClampNeg (48 + v / 10)) (n + 1).toNatClampNeg (48 + (v - v / 10 * 10))) pg2 hs2 b0 b1) 4 24 := by
  refine k_bodyG (cc := cL_two) (nL := 3) (ret := some .boolean) (by decide) rfl (Nat.le_of_ble_eq_true rfl) ?_
  rintro ⟨x1, x2⟩ hI
  intro p e s m args below meth c A cx cl H locs hP hD hS ls hl
  obtain ⟨hx, hb, hml, hown, hts, hr, hlocks, hK, hA⟩ := id cx
  have hl : lv_has ls 3 [(0, .ref d1.1), (1, .ref d2.1), (2, .int v)] := hl
  have hP : va_P G.1 vwCl (wB G d1 x1 (wB G d2 x2 [])) H := hP
  have hD : va_D A (wB G d1 x1 (wB G d2 x2 [])) := hD
  obtain ⟨J1, J2⟩ : JNV x1 n tt pg1 hs1 a0 a1 ∧ JNV x2 n tt pg2 hs2 b0 b1 := hI
  have hnn := J1.nn
  refine lv_aload_n hx hb dL_two_0 rfl (lv_at hl 0 rfl) ?_
  refine lv_aload_n hx hb dL_two_1 rfl (lv_at hl 1 rfl) ?_
  refine lv_bipush (v := 48) hx hb dL_two_2 (by decide) ?_
  refine lv_iload_n hx hb dL_two_4 rfl (lv_at hl 2 rfl) ?_
  refine lv_bipush (v := 10) hx hb dL_two_5 (by decide) ?_
  refine lv_idiv hx hb dL_two_7 (by decide) ?_
  refine lv_iadd hx hb dL_two_8 ?_
  refine kc2 (n := 3) (As := [.ref d1.1, .ref d2.1, .int (48 + (v / 10))]) cx cl (c_L_put l hlt G b L xs d1 d2 HQ1 HQ2 n tt pg1 pg2 hs1 hs2 a0 a1 b0 b1 (48 + (v / 10)) (two_1 hv) (by omega)) ⟨J1, J2⟩ hP hD hS gL_two_L_put rfl rfl rfl (by decide +kernel) ⟨Nat.le_of_ble_eq_true rfl, Nat.le_of_ble_eq_true rfl⟩ rfl rfl hl (Nat.le_of_ble_eq_true rfl) dL_two_9 ⟨Nat.le_of_ble_eq_true rfl, Nat.le_of_ble_eq_true rfl⟩ (fun r9 x1 x2 H locs h9 hP hD hS => ?_)
  obtain ⟨h9, J1, J2⟩ : r9 = 1 ∧ JNV x1 (n + 1) (upd tt n.toNatClampNeg (48 + (v / 10))) pg1 hs1 a0 a1 ∧ JNV x2 (n + 1) (upd tt n.toNatClampNeg (48 + (v / 10))) pg2 hs2 b0 b1 := h9
  rw [h9]
  refine lv_if_eq (tgt := 34) hx hb dL_two_12 (by decide) (fun c9 => absurd c9 (by decide)) (fun c9 => ?_)
  refine lv_aload_n hx hb dL_two_15 rfl (lv_at hl 0 rfl) ?_
  refine lv_aload_n hx hb dL_two_16 rfl (lv_at hl 1 rfl) ?_
  refine lv_bipush (v := 48) hx hb dL_two_17 (by decide) ?_
  refine lv_iload_n hx hb dL_two_19 rfl (lv_at hl 2 rfl) ?_
  refine lv_bipush (v := 10) hx hb dL_two_20 (by decide) ?_
  refine lv_irem hx hb dL_two_22 (by decide) ?_
  refine lv_iadd hx hb dL_two_23 ?_
  refine kc2 (n := 3) (As := [.ref d1.1, .ref d2.1, .int (48 + (v - v / 10 * 10))]) cx cl (c_L_put l hlt G b L xs d1 d2 HQ1 HQ2 (n + 1) (upd tt n.toNatClampNeg (48 + (v / 10))) pg1 pg2 hs1 hs2 a0 a1 b0 b1 (48 + (v - v / 10 * 10)) (two_2 hv) (two_n hnn hn)) ⟨J1, J2⟩ hP hD hS gL_two_L_put rfl rfl rfl (by decide +kernel) ⟨Nat.le_of_ble_eq_true rfl, Nat.le_of_ble_eq_true rfl⟩ rfl rfl hl (Nat.le_of_ble_eq_true rfl) dL_two_24 ⟨Nat.le_of_ble_eq_true rfl, Nat.le_of_ble_eq_true rfl⟩ (fun r9 x1 x2 H locs h9 hP hD hS => ?_)
  obtain ⟨h9, J1, J2⟩ : r9 = 1 ∧ JNV x1 ((n + 1) + 1) (upd (upd tt n.toNatClampNeg (48 + (v / 10))) (n + 1).toNatClampNeg (48 + (v - v / 10 * 10))) pg1 hs1 a0 a1 ∧ JNV x2 ((n + 1) + 1) (upd (upd tt n.toNatClampNeg (48 + (v / 10))) (n + 1).toNatClampNeg (48 + (v - v / 10 * 10))) pg2 hs2 b0 b1 := h9
  rw [h9]
  refine lv_if_eq (tgt := 34) hx hb dL_two_27 (by decide) (fun c9 => absurd c9 (by decide)) (fun c9 => ?_)
  refine lv_iconst (v := 1) hx hb dL_two_30 (by decide) ?_
  refine lv_goto (tgt := 35) hx hb dL_two_31 (by decide) ?_
  exact k_retG (u := (x1, x2)) cx (nz (Or.inr rfl)) ⟨rfl, J1, J2⟩ hP hS ⟨Nat.le_of_ble_eq_true rfl, Nat.le_of_ble_eq_true rfl⟩ dL_two_35

abbrev rmL_setBox : Room := { frames := 8, cells := 2, slots := 12, locals := 190 }
set_option maxRecDepth 100000 in
set_option maxHeartbeats 16000000 in
theorem c_L_setBox (l : Launch) (hlt : l.stackTraces = false) (G : gG) (b L : Nat) (xs : Nat → Int32) (d : AD) (HQ : PQd d) (n : Int32) (tt pg : Pg) (hs : List Pg) (k0 k1 : Option Pg) (box : Int32) (hbx : RB box) : kG l G yL_setBox wsL_setBox rmL_setBox [.ref d.1, .int box] b L xs (fun x : XT => wB G d x []) (fun x => JNV x n tt pg hs k0 k1) (fun r x => r = P_X4_trueOf (upd pg 2 box) box (pg 4) ∧ JNV x n tt (upd pg 2 box) (push hs pg) k0 k1) 2 12 := by
  refine k_bodyG (cc := cL_setBox) (nL := 2) (ret := some .int) (by decide) rfl (Nat.le_of_ble_eq_true rfl) ?_
  intro x hI
  intro p e s m args below meth c A cx cl H locs hP hD hS ls hl
  obtain ⟨hx, hb, hml, hown, hts, hr, hlocks, hK, hA⟩ := id cx
  have hl : lv_has ls 2 [(0, .ref d.1), (1, .int box)] := hl
  have hP : va_P G.1 vwCl (wB G d x []) H := hP
  have hD : va_D A (wB G d x []) := hD
  have J : JNV x n tt pg hs k0 k1 := hI
  have J0 := J
  refine lv_aload_n hx hb dL_setBox_0 rfl (lv_at hl 0 rfl) ?_
  refine lv_iconst (v := 2) hx hb dL_setBox_1 (by decide) ?_
  refine lv_iload_n hx hb dL_setBox_2 rfl (lv_at hl 1 rfl) ?_
  refine o_set hlt cx cl HQ J 2 box (set_2 hbx) (r0 := (pg 2)) rfl hP hD hS gL_setBox_L_trySet ⟨Nat.le_of_ble_eq_true rfl, Nat.le_of_ble_eq_true rfl⟩ hl (Nat.le_of_ble_eq_true rfl) dL_setBox_3 ⟨Nat.le_of_ble_eq_true rfl, Nat.le_of_ble_eq_true rfl⟩ (fun x H locs J hP hD hS => ?_)
  have J : JNV x n tt (upd pg 2 box) (push hs pg) k0 k1 := J
  refine lv_if_lt (tgt := 17) hx hb dL_setBox_6 (by decide) (fun c9 => absurd c9 (rb_nl J0.pv)) (fun c9 => ?_)
  refine lv_aload_n hx hb dL_setBox_9 rfl (lv_at hl 0 rfl) ?_
  refine lv_iconst (v := 2) hx hb dL_setBox_10 (by decide) ?_
  refine o_bridge hlt cx cl HQ J 2 (r0 := (P_X4_trueOf (upd pg 2 box) box (pg 4))) br_2 hP hD hS gL_setBox_L_tryBridge ⟨Nat.le_of_ble_eq_true rfl, Nat.le_of_ble_eq_true rfl⟩ hl (Nat.le_of_ble_eq_true rfl) dL_setBox_11 ⟨Nat.le_of_ble_eq_true rfl, Nat.le_of_ble_eq_true rfl⟩ (fun H locs hP hD hS => ?_)
  refine lv_goto (tgt := 18) hx hb dL_setBox_14 (by decide) ?_
  exact k_retG (u := x) cx rfl ⟨rfl, J⟩ hP hS ⟨Nat.le_of_ble_eq_true rfl, Nat.le_of_ble_eq_true rfl⟩ dL_setBox_18

abbrev rmL_ohms : Room := { frames := 8, cells := 4, slots := 24, locals := 190 }
set_option maxRecDepth 100000 in
set_option maxHeartbeats 16000000 in
theorem c_L_ohms (l : Launch) (hlt : l.stackTraces = false) (G : gG) (b L : Nat) (xs : Nat → Int32) (d : AD) (HQ : PQd d) (n : Int32) (tt pg : Pg) (hs : List Pg) (k0 k1 : Option Pg)  : kG l G yL_ohms wsL_ohms rmL_ohms [.ref d.1] b L xs (fun x : XT => wB G d x []) (fun x => JNV x n tt pg hs k0 k1) (fun r x => r = P_X4_unknown pg ∧ ∃ hs2, JNV x n tt pg hs2 k0 k1) 4 24 := by
  refine k_bodyG (cc := cL_ohms) (nL := 5) (ret := some .int) (by decide) rfl (Nat.le_of_ble_eq_true rfl) ?_
  intro x hI
  intro p e s m args below meth c A cx cl H locs hP hD hS ls hl
  obtain ⟨hx, hb, hml, hown, hts, hr, hlocks, hK, hA⟩ := id cx
  have hl : lv_has ls 5 [(0, .ref d.1)] := hl
  have hP : va_P G.1 vwCl (wB G d x []) H := hP
  have hD : va_D A (wB G d x []) := hD
  have J : JNV x n tt pg hs k0 k1 := hI
  have J0 := J
  have hrb := J.pv.2.2.2.1
  refine lv_aload_n hx hb dL_ohms_0 rfl (lv_at hl 0 rfl) ?_
  refine lv_iconst (v := 1) hx hb dL_ohms_1 (by decide) ?_
  refine o_about hlt cx cl HQ J 1 (r0 := (pg 1)) (ab_lo (j := 1) (by decide) (by decide) (by decide)) hP hD hS gL_ohms_L_tryAbout ⟨Nat.le_of_ble_eq_true rfl, Nat.le_of_ble_eq_true rfl⟩ hl (Nat.le_of_ble_eq_true rfl) dL_ohms_2 ⟨Nat.le_of_ble_eq_true rfl, Nat.le_of_ble_eq_true rfl⟩ (fun H locs hP hD hS => ?_)
  refine lv_istore_n (lv' := [(1, .int (pg 1)), (0, .ref d.1)]) hx hb dL_ohms_5 rfl hl (by decide) rfl (fun ls hl => ?_)
  refine lv_iload_n hx hb dL_ohms_6 rfl (lv_at hl 0 rfl) ?_
  have hj37 : W p l e rmL_ohms s m args below meth c H locs 1 6 (MQ below (qG G (fun x : XT => wB G d x []) (fun r x => r = P_X4_unknown pg ∧ ∃ hs2, JNV x n tt pg hs2 k0 k1) A) args s 4 24 A) (F0 m 37 ls [.int (P_X4_ten (pg 1))]) := by
    refine lv_istore_n (lv' := [(2, .int (P_X4_ten (pg 1))), (1, .int (pg 1)), (0, .ref d.1)]) hx hb dL_ohms_37 rfl hl (by decide) rfl (fun ls hl => ?_)
    refine lv_aload_n hx hb dL_ohms_38 rfl (lv_at hl 2 rfl) ?_
    refine lv_iconst (v := 2) hx hb dL_ohms_39 (by decide) ?_
    refine lv_iconst (v := 0) hx hb dL_ohms_40 (by decide) ?_
    refine o_set hlt cx cl HQ J 2 0 (set_2 rb_00) (r0 := (pg 2)) rfl hP hD hS gL_ohms_L_trySet ⟨Nat.le_of_ble_eq_true rfl, Nat.le_of_ble_eq_true rfl⟩ hl (Nat.le_of_ble_eq_true rfl) dL_ohms_41 ⟨Nat.le_of_ble_eq_true rfl, Nat.le_of_ble_eq_true rfl⟩ (fun x H locs J hP hD hS => ?_)
    have J : JNV x n tt (upd pg 2 0) (push hs pg) k0 k1 := J
    refine lv_istore_n (lv' := [(3, .int (pg 2)), (2, .int (P_X4_ten (pg 1))), (1, .int (pg 1)), (0, .ref d.1)]) hx hb dL_ohms_44 rfl hl (by decide) rfl (fun ls hl => ?_)
    refine lv_aload_n hx hb dL_ohms_45 rfl (lv_at hl 3 rfl) ?_
    refine lv_iconst (v := 0) hx hb dL_ohms_46 (by decide) ?_
    refine o_bridge hlt cx cl HQ J 0 (r0 := (P_X4_missing (upd pg 2 0) (P_X4_unknown (upd pg 2 0)) 0)) br_0 hP hD hS gL_ohms_L_tryBridge ⟨Nat.le_of_ble_eq_true rfl, Nat.le_of_ble_eq_true rfl⟩ hl (Nat.le_of_ble_eq_true rfl) dL_ohms_47 ⟨Nat.le_of_ble_eq_true rfl, Nat.le_of_ble_eq_true rfl⟩ (fun H locs hP hD hS => ?_)
    refine lv_iload_n hx hb dL_ohms_50 rfl (lv_at hl 1 rfl) ?_
    refine lv_idiv hx hb dL_ohms_51 (ten_ne _) ?_
    refine lv_istore (lv' := [(4, .int ((P_X4_missing (upd pg 2 0) (P_X4_unknown (upd pg 2 0)) 0) / (P_X4_ten (pg 1)))), (3, .int (pg 2)), (2, .int (P_X4_ten (pg 1))), (1, .int (pg 1)), (0, .ref d.1)]) hx hb dL_ohms_52 hl (by decide) rfl (fun ls hl => ?_)
    refine lv_aload_n hx hb dL_ohms_54 rfl (lv_at hl 4 rfl) ?_
    refine lv_iconst (v := 2) hx hb dL_ohms_55 (by decide) ?_
    refine lv_iload_n hx hb dL_ohms_56 rfl (lv_at hl 1 rfl) ?_
    refine o_set hlt cx cl HQ J 2 (pg 2) (set_2 hrb) (r0 := 0) rfl hP hD hS gL_ohms_L_trySet ⟨Nat.le_of_ble_eq_true rfl, Nat.le_of_ble_eq_true rfl⟩ hl (Nat.le_of_ble_eq_true rfl) dL_ohms_57 ⟨Nat.le_of_ble_eq_true rfl, Nat.le_of_ble_eq_true rfl⟩ (fun x H locs J hP hD hS => ?_)
    have J : JNV x n tt (upd (upd pg 2 0) 2 (pg 2)) (push (push hs pg) (upd pg 2 0)) k0 k1 := J
    refine lv_if_ne (tgt := 68) hx hb dL_ohms_60 (by decide) (fun c9 => absurd (by decide) c9) (fun c9 => ?_)
    refine lv_iload hx hb dL_ohms_63 (lv_at hl 0 rfl) ?_
    refine lv_goto (tgt := 69) hx hb dL_ohms_65 (by decide) ?_
    exact k_retG (u := x) cx rfl ⟨oh_x J0.pv, _, oh_u J⟩ hP hS ⟨Nat.le_of_ble_eq_true rfl, Nat.le_of_ble_eq_true rfl⟩ dL_ohms_69
  refine lv_if_ne (tgt := 14) hx hb dL_ohms_7 (by decide) (fun c7 => ?_) (fun c7 => ?_)
  · refine lv_iload_n hx hb dL_ohms_14 rfl (lv_at hl 0 rfl) ?_
    refine lv_iconst (v := 1) hx hb dL_ohms_15 (by decide) ?_
    refine lv_icmp_ne (tgt := 24) hx hb dL_ohms_16 (by decide) (fun c16 => ?_) (fun c16 => ?_)
    · refine lv_iload_n hx hb dL_ohms_24 rfl (lv_at hl 0 rfl) ?_
      refine lv_iconst (v := 2) hx hb dL_ohms_25 (by decide) ?_
      refine lv_icmp_ne (tgt := 34) hx hb dL_ohms_26 (by decide) (fun c26 => ?_) (fun c26 => ?_)
      · refine lv_sipush (v := 1000) hx hb dL_ohms_34 (by decide) ?_
        exact k_top (v' := (P_X4_ten (pg 1))) (by unfold P_X4_ten; first | rw [if_pos c7] | rw [if_neg c7, if_pos c16] | rw [if_neg c7, if_neg c16, if_pos c26] | rw [if_neg c7, if_neg c16, if_neg c26]) hj37
      · refine lv_bipush (v := 100) hx hb dL_ohms_29 (by decide) ?_
        refine lv_goto (tgt := 37) hx hb dL_ohms_31 (by decide) ?_
        exact k_top (v' := (P_X4_ten (pg 1))) (by unfold P_X4_ten; first | rw [if_pos c7] | rw [if_neg c7, if_pos c16] | rw [if_neg c7, if_neg c16, if_pos c26] | rw [if_neg c7, if_neg c16, if_neg c26]) hj37
    · refine lv_bipush (v := 10) hx hb dL_ohms_19 (by decide) ?_
      refine lv_goto (tgt := 37) hx hb dL_ohms_21 (by decide) ?_
      exact k_top (v' := (P_X4_ten (pg 1))) (by unfold P_X4_ten; first | rw [if_pos c7] | rw [if_neg c7, if_pos c16] | rw [if_neg c7, if_neg c16, if_pos c26] | rw [if_neg c7, if_neg c16, if_neg c26]) hj37
  · refine lv_iconst (v := 1) hx hb dL_ohms_10 (by decide) ?_
    refine lv_goto (tgt := 37) hx hb dL_ohms_11 (by decide) ?_
    exact k_top (v' := (P_X4_ten (pg 1))) (by unfold P_X4_ten; first | rw [if_pos c7] | rw [if_neg c7, if_pos c16] | rw [if_neg c7, if_neg c16, if_pos c26] | rw [if_neg c7, if_neg c16, if_neg c26]) hj37
