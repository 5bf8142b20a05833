/-! the law's loop -/
section LC
variable {p : Program} {l : Launch} {e : Env} {s : State} {m : MethodId} {below : List Frame} {meth : Method} {c : Code} {b L : Nat} {xs : Nat → Int32} {G : gG} {cJ : ClassId}
variable {xb tx tk pa sl fi mo te re no tr di ke ik ou : Nat} {qs qt : qd} {pg sg : Nat → Option Nat} {Q : Nat → qd} {i cells slots : Nat}
variable {bf tf tc f oh lf ce ft oht lft cet ff mf tt pr pn pt dd kk ki : Nat → Int32} {fo : Nat → Int64} {C : Nat → ct4} {H : Heap} {locs : List Loc} {ls : Array Slot}

set_option maxRecDepth 100000 in
set_option maxHeartbeats 8000000 in
theorem law_body (X : LX p l s m meth c G cJ b L xs) (HQ : PQ Q pg sg) (hL : L ≤ 2048) (hcs : cells + 1 ≤ 601024 ∧ slots + 6 ≤ 7293034) (hi : i + 4 ≤ L) (kn : NX p l e s m below meth c b G cJ xb tx tk pa sl fi mo te re no tr di ke ik ou qs qt pg sg Q i (cells + 1) (slots + 6)) (I : INV bf tf tc f oh lf ce ff C mf tt pn dd kk ki) (hP : va_P G.1 vwCl (WF G cJ xb tx tk pa sl fi mo te re no tr di ke ik ou qs qt pg sg bf tf tc f oh lf ce ft oht lft cet ff mf tt pr pn pt dd kk ki fo ++ pw G Q C (List.range 16)) H) (hD : va_D (fun q : Nat => s.heap.size ≤ q) (WF G cJ xb tx tk pa sl fi mo te re no tr di ke ik ou qs qt pg sg bf tf tc f oh lf ce ft oht lft cet ff mf tt pr pn pt dd kk ki fo ++ pw G Q C (List.range 16))) (hS : va_S (fun q : Nat => s.heap.size ≤ q) s.heap H locs) (hl : lv_has ls 7 [(0, .ref b), (1, .ref xb), (2, .ref mo), (3, .ref ou), (4, .int (nI i))]) (v : Int32) : W p l e room_1 s m #[Value.ref b] below meth c H locs cells slots (lw_Z below #[Value.ref b] s) (F0 m 39 ls [.int v]) := by
  obtain ⟨hlt, cx, hKJ, hE, hN, hZ, hX, hbl⟩ := id X
  obtain ⟨hx, hb, hml, hown, hts, hr, hlocks, hK, hA⟩ := id cx
  by_cases c0 : v = 0
  · refine lv_tableIn (tgt := 164) (off := 125) hx hb dL_law_39 (sw_lo c0 (by decide)) (sw_hi c0 (by decide)) (sw_at c0 (by decide)) (by decide) ?_
    exact lc_append X HQ hcs hi hL kn I hP hD hS hl
  by_cases c1 : v = 1
  · refine lv_tableIn (tgt := 220) (off := 181) hx hb dL_law_39 (sw_lo c1 (by decide)) (sw_hi c1 (by decide)) (sw_at c1 (by decide)) (by decide) ?_
    exact lc_clearText X HQ hcs hi hL kn I hP hD hS hl
  by_cases c2 : v = 2
  · refine lv_tableIn (tgt := 233) (off := 194) hx hb dL_law_39 (sw_lo c2 (by decide)) (sw_hi c2 (by decide)) (sw_at c2 (by decide)) (by decide) ?_
    exact lc_errorPosition X HQ hcs hi hL kn I hP hD hS hl
  by_cases c3 : v = 3
  · refine lv_tableIn (tgt := 246) (off := 207) hx hb dL_law_39 (sw_lo c3 (by decide)) (sw_hi c3 (by decide)) (sw_at c3 (by decide)) (by decide) ?_
    exact lc_load X HQ hcs hi hL kn I hP hD hS hl
  by_cases c4 : v = 4
  · refine lv_tableIn (tgt := 290) (off := 251) hx hb dL_law_39 (sw_lo c4 (by decide)) (sw_hi c4 (by decide)) (sw_at c4 (by decide)) (by decide) ?_
    exact lc_about X HQ hcs hi hL kn I hP hD hS hl
  by_cases c5 : v = 5
  · refine lv_tableIn (tgt := 346) (off := 307) hx hb dL_law_39 (sw_lo c5 (by decide)) (sw_hi c5 (by decide)) (sw_at c5 (by decide)) (by decide) ?_
    exact lc_told X HQ hcs hi hL kn I hP hD hS hl
  by_cases c6 : v = 6
  · refine lv_tableIn (tgt := 414) (off := 375) hx hb dL_law_39 (sw_lo c6 (by decide)) (sw_hi c6 (by decide)) (sw_at c6 (by decide)) (by decide) ?_
    exact lc_bridge X HQ hcs hi hL kn I hP hD hS hl
  by_cases c7 : v = 7
  · refine lv_tableIn (tgt := 470) (off := 431) hx hb dL_law_39 (sw_lo c7 (by decide)) (sw_hi c7 (by decide)) (sw_at c7 (by decide)) (by decide) ?_
    exact lc_press X HQ hcs hi hL kn I hP hD hS hl
  by_cases c8 : v = 8
  · refine lv_tableIn (tgt := 542) (off := 503) hx hb dL_law_39 (sw_lo c8 (by decide)) (sw_hi c8 (by decide)) (sw_at c8 (by decide)) (by decide) ?_
    exact lc_pair X HQ hcs hi hL kn I hP hD hS hl
  by_cases c9 : v = 9
  · refine lv_tableIn (tgt := 586) (off := 547) hx hb dL_law_39 (sw_lo c9 (by decide)) (sw_hi c9 (by decide)) (sw_at c9 (by decide)) (by decide) ?_
    exact lc_pause X HQ hcs hi hL kn I hP hD hS hl
  by_cases c10 : v = 10
  · refine lv_tableIn (tgt := 642) (off := 603) hx hb dL_law_39 (sw_lo c10 (by decide)) (sw_hi c10 (by decide)) (sw_at c10 (by decide)) (by decide) ?_
    exact lc_set X HQ hcs hi hL kn I hP hD hS hl
  by_cases c11 : v = 11
  · refine lv_tableIn (tgt := 710) (off := 671) hx hb dL_law_39 (sw_lo c11 (by decide)) (sw_hi c11 (by decide)) (sw_at c11 (by decide)) (by decide) ?_
    exact lc_choose X HQ hcs hi hL kn I hP hD hS hl
  by_cases c12 : v = 12
  · refine lv_tableIn (tgt := 766) (off := 727) hx hb dL_law_39 (sw_lo c12 (by decide)) (sw_hi c12 (by decide)) (sw_at c12 (by decide)) (by decide) ?_
    exact lc_add X HQ hcs hi hL kn I hP hD hS hl
  by_cases c13 : v = 13
  · refine lv_tableIn (tgt := 822) (off := 783) hx hb dL_law_39 (sw_lo c13 (by decide)) (sw_hi c13 (by decide)) (sw_at c13 (by decide)) (by decide) ?_
    exact lc_free X HQ hcs hi hL kn I hP hD hS hl
  by_cases c14 : v = 14
  · refine lv_tableIn (tgt := 835) (off := 796) hx hb dL_law_39 (sw_lo c14 (by decide)) (sw_hi c14 (by decide)) (sw_at c14 (by decide)) (by decide) ?_
    exact lc_balance X HQ hcs hi hL kn I hP hD hS hl
  by_cases c15 : v = 15
  · refine lv_tableIn (tgt := 879) (off := 840) hx hb dL_law_39 (sw_lo c15 (by decide)) (sw_hi c15 (by decide)) (sw_at c15 (by decide)) (by decide) ?_
    exact lc_undo X HQ hcs hi hL kn I hP hD hS hl
  by_cases c16 : v = 16
  · refine lv_tableIn (tgt := 923) (off := 884) hx hb dL_law_39 (sw_lo c16 (by decide)) (sw_hi c16 (by decide)) (sw_at c16 (by decide)) (by decide) ?_
    exact lc_value X HQ hcs hi hL kn I hP hD hS hl
  by_cases c17 : v = 17
  · refine lv_tableIn (tgt := 979) (off := 940) hx hb dL_law_39 (sw_lo c17 (by decide)) (sw_hi c17 (by decide)) (sw_at c17 (by decide)) (by decide) ?_
    exact lc_bestR X HQ hcs hi hL kn I hP hD hS hl
  by_cases c18 : v = 18
  · refine lv_tableIn (tgt := 1035) (off := 996) hx hb dL_law_39 (sw_lo c18 (by decide)) (sw_hi c18 (by decide)) (sw_at c18 (by decide)) (by decide) ?_
    exact lc_bestArms X HQ hcs hi hL kn I hP hD hS hl
  by_cases c19 : v = 19
  · refine lv_tableIn (tgt := 1091) (off := 1052) hx hb dL_law_39 (sw_lo c19 (by decide)) (sw_hi c19 (by decide)) (sw_at c19 (by decide)) (by decide) ?_
    exact lc_enoughShunt X HQ hcs hi hL kn I hP hD hS hl
  by_cases c20 : v = 20
  · refine lv_tableIn (tgt := 1104) (off := 1065) hx hb dL_law_39 (sw_lo c20 (by decide)) (sw_hi c20 (by decide)) (sw_at c20 (by decide)) (by decide) ?_
    exact lc_sensitivity X HQ hcs hi hL kn I hP hD hS hl
  by_cases c21 : v = 21
  · refine lv_tableIn (tgt := 1117) (off := 1078) hx hb dL_law_39 (sw_lo c21 (by decide)) (sw_hi c21 (by decide)) (sw_at c21 (by decide)) (by decide) ?_
    exact lc_offsetAfter X HQ hcs hi hL kn I hP hD hS hl
  by_cases c22 : v = 22
  · refine lv_tableIn (tgt := 1185) (off := 1146) hx hb dL_law_39 (sw_lo c22 (by decide)) (sw_hi c22 (by decide)) (sw_at c22 (by decide)) (by decide) ?_
    exact lc_waitFor X HQ hcs hi hL kn I hP hD hS hl
  by_cases c23 : v = 23
  · refine lv_tableIn (tgt := 1241) (off := 1202) hx hb dL_law_39 (sw_lo c23 (by decide)) (sw_hi c23 (by decide)) (sw_at c23 (by decide)) (by decide) ?_
    exact lc_balanced X HQ hcs hi hL kn I hP hD hS hl
  by_cases c24 : v = 24
  · refine lv_tableIn (tgt := 1297) (off := 1258) hx hb dL_law_39 (sw_lo c24 (by decide)) (sw_hi c24 (by decide)) (sw_at c24 (by decide)) (by decide) ?_
    exact lc_runScript X HQ hcs hi hL kn I hP hD hS hl
  by_cases c25 : v = 25
  · refine lv_tableIn (tgt := 1397) (off := 1358) hx hb dL_law_39 (sw_lo c25 (by decide)) (sw_hi c25 (by decide)) (sw_at c25 (by decide)) (by decide) ?_
    exact lc_simulate X HQ hcs hi hL kn I hP hD hS hl
  by_cases c26 : v = 26
  · refine lv_tableIn (tgt := 1497) (off := 1458) hx hb dL_law_39 (sw_lo c26 (by decide)) (sw_hi c26 (by decide)) (sw_at c26 (by decide)) (by decide) ?_
    exact lc_save X HQ hcs hi hL kn I hP hD hS hl
  by_cases c27 : v = 27
  · refine lv_tableIn (tgt := 1553) (off := 1514) hx hb dL_law_39 (sw_lo c27 (by decide)) (sw_hi c27 (by decide)) (sw_at c27 (by decide)) (by decide) ?_
    exact lc_restore X HQ hcs hi hL kn I hP hD hS hl
  have z0 : ¬ v.toInt = 0 := fun q => c0 (Int32.toInt_inj.mp (q.trans (by decide)))
  have z1 : ¬ v.toInt = 1 := fun q => c1 (Int32.toInt_inj.mp (q.trans (by decide)))
  have z2 : ¬ v.toInt = 2 := fun q => c2 (Int32.toInt_inj.mp (q.trans (by decide)))
  have z3 : ¬ v.toInt = 3 := fun q => c3 (Int32.toInt_inj.mp (q.trans (by decide)))
  have z4 : ¬ v.toInt = 4 := fun q => c4 (Int32.toInt_inj.mp (q.trans (by decide)))
  have z5 : ¬ v.toInt = 5 := fun q => c5 (Int32.toInt_inj.mp (q.trans (by decide)))
  have z6 : ¬ v.toInt = 6 := fun q => c6 (Int32.toInt_inj.mp (q.trans (by decide)))
  have z7 : ¬ v.toInt = 7 := fun q => c7 (Int32.toInt_inj.mp (q.trans (by decide)))
  have z8 : ¬ v.toInt = 8 := fun q => c8 (Int32.toInt_inj.mp (q.trans (by decide)))
  have z9 : ¬ v.toInt = 9 := fun q => c9 (Int32.toInt_inj.mp (q.trans (by decide)))
  have z10 : ¬ v.toInt = 10 := fun q => c10 (Int32.toInt_inj.mp (q.trans (by decide)))
  have z11 : ¬ v.toInt = 11 := fun q => c11 (Int32.toInt_inj.mp (q.trans (by decide)))
  have z12 : ¬ v.toInt = 12 := fun q => c12 (Int32.toInt_inj.mp (q.trans (by decide)))
  have z13 : ¬ v.toInt = 13 := fun q => c13 (Int32.toInt_inj.mp (q.trans (by decide)))
  have z14 : ¬ v.toInt = 14 := fun q => c14 (Int32.toInt_inj.mp (q.trans (by decide)))
  have z15 : ¬ v.toInt = 15 := fun q => c15 (Int32.toInt_inj.mp (q.trans (by decide)))
  have z16 : ¬ v.toInt = 16 := fun q => c16 (Int32.toInt_inj.mp (q.trans (by decide)))
  have z17 : ¬ v.toInt = 17 := fun q => c17 (Int32.toInt_inj.mp (q.trans (by decide)))
  have z18 : ¬ v.toInt = 18 := fun q => c18 (Int32.toInt_inj.mp (q.trans (by decide)))
  have z19 : ¬ v.toInt = 19 := fun q => c19 (Int32.toInt_inj.mp (q.trans (by decide)))
  have z20 : ¬ v.toInt = 20 := fun q => c20 (Int32.toInt_inj.mp (q.trans (by decide)))
  have z21 : ¬ v.toInt = 21 := fun q => c21 (Int32.toInt_inj.mp (q.trans (by decide)))
  have z22 : ¬ v.toInt = 22 := fun q => c22 (Int32.toInt_inj.mp (q.trans (by decide)))
  have z23 : ¬ v.toInt = 23 := fun q => c23 (Int32.toInt_inj.mp (q.trans (by decide)))
  have z24 : ¬ v.toInt = 24 := fun q => c24 (Int32.toInt_inj.mp (q.trans (by decide)))
  have z25 : ¬ v.toInt = 25 := fun q => c25 (Int32.toInt_inj.mp (q.trans (by decide)))
  have z26 : ¬ v.toInt = 26 := fun q => c26 (Int32.toInt_inj.mp (q.trans (by decide)))
  have z27 : ¬ v.toInt = 27 := fun q => c27 (Int32.toInt_inj.mp (q.trans (by decide)))
  refine lv_tableOut (tgt := 1609) hx hb dL_law_39 (by omega) (by decide) ?_
  refine W.widen (k := cells + 1) (n := slots + 6) (Nat.le_succ _) (by omega) ?_
  exact kn _ _ _ _ _ _ _ _ _ _ _ _ _ _ _ _ _ _ _ _ _ _ H locs ls I hP hD hS hl
set_option maxRecDepth 100000 in
set_option maxHeartbeats 8000000 in
theorem law_loop (X : LX p l s m meth c G cJ b L xs) (HQ : PQ Q pg sg) (hL : L ≤ 2048) : ∀ (n t : Nat), 513 - t ≤ n → t ≤ 512 → ∀ (bf tf tc f oh lf ce ft oht lft cet ff mf tt pr pn pt dd kk ki : Nat → Int32) (fo : Nat → Int64) (C : Nat → ct4) (H : Heap) (locs : List Loc) (ls : Array Slot), INV bf tf tc f oh lf ce ff C mf tt pn dd kk ki →
    va_P G.1 vwCl (WF G cJ xb tx tk pa sl fi mo te re no tr di ke ik ou qs qt pg sg bf tf tc f oh lf ce ft oht lft cet ff mf tt pr pn pt dd kk ki fo ++ pw G Q C (List.range 16)) H → va_D (fun q : Nat => s.heap.size ≤ q) (WF G cJ xb tx tk pa sl fi mo te re no tr di ke ik ou qs qt pg sg bf tf tc f oh lf ce ft oht lft cet ff mf tt pr pn pt dd kk ki fo ++ pw G Q C (List.range 16)) → va_S (fun q : Nat => s.heap.size ≤ q) s.heap H locs → lv_has ls 7 [(0, .ref b), (1, .ref xb), (2, .ref mo), (3, .ref ou), (4, .int (nI (4 * t)))] →
    W p l e room_1 s m #[Value.ref b] below meth c H locs (87 + t) (3971 + 6 * t) (lw_Z below #[Value.ref b] s) (F0 m 23 ls []) := by
  obtain ⟨hlt, cx, hKJ, hE, hN, hZ, hX, hbl⟩ := id X
  obtain ⟨hx, hb, hml, hown, hts, hr, hlocks, hK, hA⟩ := id cx
  have hbA : ¬ (fun q : Nat => s.heap.size ≤ q) b := Nat.not_le.mpr hbl
  intro n
  induction n with
  | zero => intro t h1 h2; omega
  | succ n ih =>
    intro t h1 h2 bf tf tc f oh lf ce ft oht lft cet ff mf tt pr pn pt dd kk ki fo C H locs ls I hP hD hS hl
    refine lv_iload hx hb dL_law_23 (lv_at hl 4 rfl) ?_
    refine lv_aload_n hx hb dL_law_25 rfl (lv_at hl 0 rfl) ?_
    refine va_slen hx hb hX hbl hbA hS dL_law_26 ?_
    refine lv_iconst (v := 4) hx hb dL_law_27 (by decide) ?_
    refine lv_isub hx hb dL_law_28 ?_
    have z4 : (4 : Int32).toInt = 4 := by decide
    have eL : (Int32.ofNat L).toInt = L := nI_toInt (by omega)
    have et : (nI (4 * t)).toInt = ((4 * t : Nat) : Int) := nI_toInt (by omega)
    have es := toI_sub (a := Int32.ofNat L) (b := 4) (by omega) (by omega)
    refine lv_icmp_gt (tgt := 1615) hx hb dL_law_29 (by decide) (fun c1 => ?_) (fun c1 => ?_)
    · refine lv_iconst (v := 1) hx hb dL_law_1615 (by decide) ?_
      refine W.widen (k := 601024) (n := 7293034) (by omega) (by omega) ?_
      refine va_forget (fun q hq => hS.2.2 q hq) ?_
      exact lw_ret hx hb hr hlocks dL_law_1616
    · rw [Int32.lt_iff_toInt_lt] at c1
      have hi : 4 * t + 4 ≤ L := by omega
      refine lv_aload_n hx hb dL_law_32 rfl (lv_at hl 0 rfl) ?_
      refine lv_iload hx hb dL_law_33 (lv_at hl 4 rfl) ?_
      refine va_sld hx hb hX hbl hbA hS (vp_in_nI (by omega) (by omega)) dL_law_35 ?_
      refine lv_bipush (v := 31) hx hb dL_law_36 (by decide) ?_
      refine lv_iand hx hb dL_law_38 ?_
      refine law_body X HQ hL ⟨by omega, by omega⟩ hi ?_ I hP hD hS hl _
      intro bf tf tc f oh lf ce ft oht lft cet ff mf tt pr pn pt dd kk ki fo C H locs ls I hP hD hS hl
      refine lv_iinc (v := nI (4 * (t + 1))) (lv' := [(4, .int (nI (4 * (t + 1)))), (0, .ref b), (1, .ref xb), (2, .ref mo), (3, .ref ou)]) hx hb dL_law_1609 hl (k := 4) rfl (show nI (4 * t) + nI 4 = nI (4 * (t + 1)) from nI_add _ _) (by decide) rfl (fun ls hl => ?_)
      refine lv_goto (tgt := 23) hx hb dL_law_1612 (by decide) ?_
      refine W.eqcs (k := 87 + (t + 1)) (n := 3971 + 6 * (t + 1)) (by omega) (by omega) ?_
      exact ih (t + 1) (by omega) (by omega) bf tf tc f oh lf ce ft oht lft cet ff mf tt pr pn pt dd kk ki fo C H locs ls I hP hD hS (lv_sub hl [1, 2, 3, 4, 0] rfl)
end LC
