/-! the law's cases: save, restore -/
section LC
variable {p : Program} {l : Launch} {e : Env} {s : State} {m : MethodId} {below : List Frame} {meth : Method} {c : Code} {b L : Nat} {xs : Nat → Int32} {G : gG} {cJ : ClassId}
variable {xb tx tk pa sl fi mo te re no tr di ke ik ou : Nat} {qs qt : qd} {pg sg : Nat → Option Nat} {Q : Nat → qd} {i cells slots : Nat}
variable {bf tf tc f oh lf ce ft oht lft cet ff mf tt pr pn pt dd kk ki : Nat → Int32} {fo : Nat → Int64} {C : Nat → ct4} {H : Heap} {locs : List Loc} {ls : Array Slot}
set_option maxRecDepth 100000 in
set_option maxHeartbeats 8000000 in
theorem lc_save (X : LX p l s m meth c G cJ b L xs) (HQ : PQ Q pg sg) (hcs : cells + 1 ≤ 601024 ∧ slots + 6 ≤ 7293034) (hi : i + 4 ≤ L) (hL : L ≤ 2048) (kn : NX p l e s m below meth c b G cJ xb tx tk pa sl fi mo te re no tr di ke ik ou qs qt pg sg Q i (cells + 1) (slots + 6)) (I : INV bf tf tc f oh lf ce ff C mf tt pn dd kk ki) (hP : va_P G.1 vwCl (WF G cJ xb tx tk pa sl fi mo te re no tr di ke ik ou qs qt pg sg bf tf tc f oh lf ce ft oht lft cet ff mf tt pr pn pt dd kk ki fo ++ pw G Q C (List.range 16)) H) (hD : va_D (fun q : Nat => s.heap.size ≤ q) (WF G cJ xb tx tk pa sl fi mo te re no tr di ke ik ou qs qt pg sg bf tf tc f oh lf ce ft oht lft cet ff mf tt pr pn pt dd kk ki fo ++ pw G Q C (List.range 16))) (hS : va_S (fun q : Nat => s.heap.size ≤ q) s.heap H locs) (hl : lv_has ls 7 [(0, .ref b), (1, .ref xb), (2, .ref mo), (3, .ref ou), (4, .int (nI i))]) : W p l e room_1 s m #[Value.ref b] below meth c H locs cells slots (lw_Z below #[Value.ref b] s) (F0 m 1497 ls []) := by
  obtain ⟨hlt, cx, hKJ, hE, hN, hZ, hX, hbl⟩ := id X
  obtain ⟨hx, hb, hml, hown, hts, hr, hlocks, hK, hA⟩ := id cx
  have hbA : ¬ (fun q : Nat => s.heap.size ≤ q) b := Nat.not_le.mpr hbl
  obtain ⟨kx, hk16, hkx, hsl⟩ := slot_k HQ (xs (nI i + 1).toNatClampNeg)
  replace hP := kP_perm (pw_out hk16 _) hP
  replace hD := kD_perm (pw_out hk16 _) hD
  refine lv_aload_n hx hb dL_law_1497 rfl (lv_at hl 1 rfl) ?_
  refine lv_aload_n hx hb dL_law_1498 rfl (lv_at hl 0 rfl) ?_
  refine lv_iload hx hb dL_law_1499 (lv_at hl 4 rfl) ?_
  refine lv_iconst (v := 1) hx hb dL_law_1501 (by decide) ?_
  refine lv_iadd hx hb dL_law_1502 ?_
  refine va_sld hx hb hX hbl hbA hS (lx_in (j := 1) hi hL (by decide)) dL_law_1503 ?_
  have F := a_save I sg (xs (nI i + 1).toNatClampNeg) kx hkx
  refine lv_aload_n hx hb dL_law_1504 rfl (lv_at hl 3 rfl) ?_
  have hC := c_L_save l hlt G cJ ou fo xb tx qs.1 qt.1 pa sl fi qs.2.1 qs.2.2.1 qs.2.2.2 (Q kx).1 (Q kx).2.1 (Q kx).2.2.1 (Q kx).2.2.2 bf sg ff f oh lf ce (C kx).1 (C kx).2.1 (C kx).2.2.1 (C kx).2.2.2 (xs (nI i + 1).toNatClampNeg) I.2.1.stk hsl F.1
  have hM := c_X4_save l G mo te re no tr di ke ik mf pn kk ki (xs (nI i + 1).toNatClampNeg)
  generalize P_X3_save bf sg ff f oh lf ce (C kx).1 (C kx).2.1 (C kx).2.2.1 (C kx).2.2.2 (xs (nI i + 1).toNatClampNeg) = u at F hC
  generalize P_X4_save mf pn kk ki (xs (nI i + 1).toNatClampNeg) = v at F hM
  refine k_iW (ws' := WF G cJ xb tx tk pa sl fi mo te re no tr di ke ik ou qs qt pg sg bf tf tc f oh lf ce ft oht lft cet (u.2.2.1) mf tt pr pn pt dd kk ki (vp_updL fo 0 (u.2.1).toInt64) ++ (bun G (Q kx) (u.2.2.2.1) (u.2.2.2.2.1) (u.2.2.2.2.2.1) (u.2.2.2.2.2.2) ++ pw G Q C (pr16 kx))) (as := [ou, xb, sl, fi, qs.1, qs.2.1, qs.2.2.1, qs.2.2.2, (Q kx).1, (Q kx).2.1, (Q kx).2.2.1, (Q kx).2.2.2]) cx hP hD hS [22, 0, 12, 13, 3, 4, 5, 6, 23, 24, 25, 26] rfl (kr_SL (n := 3) (As := [.ref xb, .int (xs (nI i + 1).toNatClampNeg), .ref ou]) cx hKJ hE hN hZ hS hC gL_law_L_save rfl rfl rfl (by decide +kernel) ⟨Nat.le_of_ble_eq_true rfl, Nat.le_of_ble_eq_true rfl⟩ hP hD [22, 0, 12, 13, 3, 4, 5, 6, 23, 24, 25, 26] rfl rfl rfl rfl hl (Nat.le_of_ble_eq_true rfl) dL_law_1505 hcs) ⟨rfl, rfl⟩ rfl rfl (fun H locs wx hwx hP hD hS => ?_)
  have key : ∃ (fo' : Nat → Int64) (ff' : Nat → Int32) (p1' : Nat → Int32) (p2' : Nat → Int32) (p3' : Nat → Int32) (p4' : Nat → Int32), (hm 3 u.1 = 0 → fo' 0 = (v.1).toInt64) ∧ (v.2.1) 0 = hm 3 u.1 ∧ INV bf tf tc f oh lf ce ff' (updC C kx (p1', p2', p3', p4')) (v.2.1) tt pn dd (v.2.2.1) (v.2.2.2) ∧ wx = WF G cJ xb tx tk pa sl fi mo te re no tr di ke ik ou qs qt pg sg bf tf tc f oh lf ce ft oht lft cet ff' mf tt pr pn pt dd kk ki fo' ++ (bun G (Q kx) p1' p2' p3' p4' ++ pw G Q C (pr16 kx)) := by
    obtain ⟨F1, F2, F3, F4, F5⟩ := F
    have F0 : (v.2.1) 0 = hm 3 u.1 := congrFun F2 0
    rcases hwx with ⟨h0, rfl⟩ | ⟨h0, rfl⟩
    · exact ⟨_, _, _, _, _, _, fun _ => congrArg Int32.toInt64 (F3 h0), F0, F5, rfl⟩
    · have F4 := F4 h0
      obtain ⟨t, u2⟩ := u
      have F4 : u2 = _ := F4
      subst F4
      exact ⟨fo, _, _, _, _, _, fun q => absurd (hm_z q) h0, F0, F5, rfl⟩
  obtain ⟨fo', ff', p1', p2', p3', p4', hfo, hmk, I', ewx⟩ := key
  subst ewx
  obtain ⟨k5, ek5⟩ : ∃ k5, k5 = hm 3 u.1 := ⟨_, rfl⟩
  rw [← ek5] at hfo hmk ⊢
  refine lv_istore (lv' := [(5, .int k5), (0, .ref b), (1, .ref xb), (2, .ref mo), (3, .ref ou), (4, .int (nI i))]) hx hb dL_law_1508 hl (by decide) rfl (fun ls hl => ?_)
  refine lv_aload_n hx hb dL_law_1510 rfl (lv_at hl 3 rfl) ?_
  refine lv_aload_n hx hb dL_law_1511 rfl (lv_at hl 1 rfl) ?_
  refine lv_iload hx hb dL_law_1512 (lv_at hl 5 rfl) ?_
  refine lv_iconst (v := 1) hx hb dL_law_1514 (by decide) ?_
  refine lv_iadd hx hb dL_law_1515 ?_
  refine va_sld hx hb hX hbl hbA hS (lx_in (j := 1) hi hL (by decide)) dL_law_1516 ?_
  refine k_i (ws' := WF G cJ xb tx tk pa sl fi mo te re no tr di ke ik ou qs qt pg sg bf tf tc f oh lf ce ft oht lft cet ff' (v.2.1) tt pr pn pt dd (v.2.2.1) (v.2.2.2) fo' ++ (bun G (Q kx) p1' p2' p3' p4' ++ pw G Q C (pr16 kx))) (as := [mo, no, ke, ik]) cx hP hD hS [14, 17, 20, 21] rfl (kr_V (n := 1) (As := [.int (xs (nI i + 1).toNatClampNeg)]) (ci := 4) cx hM gL_law_X4_save rfl rfl rfl (by decide +kernel) ⟨Nat.le_of_ble_eq_true rfl, Nat.le_of_ble_eq_true rfl⟩ rfl rfl rfl hP hD [14, 17, 20, 21] rfl rfl rfl rfl hl (Nat.le_of_ble_eq_true rfl) dL_law_1517 hcs) ⟨rfl, rfl⟩ rfl (fun H locs hP hD hS => ?_)
  refine lv_istore (lv' := [(6, .int (v.1)), (5, .int k5), (0, .ref b), (1, .ref xb), (2, .ref mo), (3, .ref ou), (4, .int (nI i))]) hx hb dL_law_1520 hl (by decide) rfl (fun ls hl => ?_)
  replace hP := kP_perm (pw_in hk16 _ _ _ _ _) hP
  replace hD := kD_perm (pw_in hk16 _ _ _ _ _) hD
  exact law_tail X hcs I' hmk hfo hP hD hS hl dL_law_1522 dL_law_1523 dL_law_1526 dL_law_1528 dL_law_1533 dL_law_1535 dL_law_1538 dL_law_1539 dL_law_1540 dL_law_1541 dL_law_1543 dL_law_1544 dL_law_1545 dL_law_1550 (by decide) kn
set_option maxRecDepth 100000 in
set_option maxHeartbeats 8000000 in
theorem lc_restore (X : LX p l s m meth c G cJ b L xs) (HQ : PQ Q pg sg) (hcs : cells + 1 ≤ 601024 ∧ slots + 6 ≤ 7293034) (hi : i + 4 ≤ L) (hL : L ≤ 2048) (kn : NX p l e s m below meth c b G cJ xb tx tk pa sl fi mo te re no tr di ke ik ou qs qt pg sg Q i (cells + 1) (slots + 6)) (I : INV bf tf tc f oh lf ce ff C mf tt pn dd kk ki) (hP : va_P G.1 vwCl (WF G cJ xb tx tk pa sl fi mo te re no tr di ke ik ou qs qt pg sg bf tf tc f oh lf ce ft oht lft cet ff mf tt pr pn pt dd kk ki fo ++ pw G Q C (List.range 16)) H) (hD : va_D (fun q : Nat => s.heap.size ≤ q) (WF G cJ xb tx tk pa sl fi mo te re no tr di ke ik ou qs qt pg sg bf tf tc f oh lf ce ft oht lft cet ff mf tt pr pn pt dd kk ki fo ++ pw G Q C (List.range 16))) (hS : va_S (fun q : Nat => s.heap.size ≤ q) s.heap H locs) (hl : lv_has ls 7 [(0, .ref b), (1, .ref xb), (2, .ref mo), (3, .ref ou), (4, .int (nI i))]) : W p l e room_1 s m #[Value.ref b] below meth c H locs cells slots (lw_Z below #[Value.ref b] s) (F0 m 1553 ls []) := by
  obtain ⟨hlt, cx, hKJ, hE, hN, hZ, hX, hbl⟩ := id X
  obtain ⟨hx, hb, hml, hown, hts, hr, hlocks, hK, hA⟩ := id cx
  have hbA : ¬ (fun q : Nat => s.heap.size ≤ q) b := Nat.not_le.mpr hbl
  obtain ⟨kx, hk16, hkx, hsl⟩ := slot_k HQ (xs (nI i + 1).toNatClampNeg)
  replace hP := kP_perm (pw_out hk16 _) hP
  replace hD := kD_perm (pw_out hk16 _) hD
  refine lv_aload_n hx hb dL_law_1553 rfl (lv_at hl 1 rfl) ?_
  refine lv_aload_n hx hb dL_law_1554 rfl (lv_at hl 0 rfl) ?_
  refine lv_iload hx hb dL_law_1555 (lv_at hl 4 rfl) ?_
  refine lv_iconst (v := 1) hx hb dL_law_1557 (by decide) ?_
  refine lv_iadd hx hb dL_law_1558 ?_
  refine va_sld hx hb hX hbl hbA hS (lx_in (j := 1) hi hL (by decide)) dL_law_1559 ?_
  have F := a_restore I sg (xs (nI i + 1).toNatClampNeg) kx hkx
  refine lv_aload_n hx hb dL_law_1560 rfl (lv_at hl 3 rfl) ?_
  have hC := c_L_restore l hlt G cJ ou fo xb tx qs.1 qt.1 pa sl fi qs.2.1 qs.2.2.1 qs.2.2.2 (Q kx).1 (Q kx).2.1 (Q kx).2.2.1 (Q kx).2.2.2 bf sg ff f oh lf ce (C kx).1 (C kx).2.1 (C kx).2.2.1 (C kx).2.2.2 (xs (nI i + 1).toNatClampNeg) (I.2.2.2.1 kx) hsl F.1
  have hM := c_X4_restore l G mo te re no tr di ke ik mf pn kk ki (xs (nI i + 1).toNatClampNeg)
  generalize P_X3_restore bf sg ff f oh lf ce (C kx).1 (C kx).2.1 (C kx).2.2.1 (C kx).2.2.2 (xs (nI i + 1).toNatClampNeg) = u at F hC
  generalize P_X4_restore mf pn kk ki (xs (nI i + 1).toNatClampNeg) = v at F hM
  refine k_iW (ws' := WF G cJ xb tx tk pa sl fi mo te re no tr di ke ik ou qs qt pg sg (u.2.2.1) tf tc (u.2.2.2.1) (u.2.2.2.2.1) (u.2.2.2.2.2.1) (u.2.2.2.2.2.2) ft oht lft cet ff mf tt pr pn pt dd kk ki (vp_updL fo 0 (u.2.1).toInt64) ++ (bun G (Q kx) (C kx).1 (C kx).2.1 (C kx).2.2.1 (C kx).2.2.2 ++ pw G Q C (pr16 kx))) (as := [ou, xb, sl, fi, qs.1, qs.2.1, qs.2.2.1, qs.2.2.2, (Q kx).1, (Q kx).2.1, (Q kx).2.2.1, (Q kx).2.2.2]) cx hP hD hS [22, 0, 12, 13, 3, 4, 5, 6, 23, 24, 25, 26] rfl (kr_SL (n := 3) (As := [.ref xb, .int (xs (nI i + 1).toNatClampNeg), .ref ou]) cx hKJ hE hN hZ hS hC gL_law_L_restore rfl rfl rfl (by decide +kernel) ⟨Nat.le_of_ble_eq_true rfl, Nat.le_of_ble_eq_true rfl⟩ hP hD [22, 0, 12, 13, 3, 4, 5, 6, 23, 24, 25, 26] rfl rfl rfl rfl hl (Nat.le_of_ble_eq_true rfl) dL_law_1561 hcs) ⟨rfl, rfl⟩ rfl rfl (fun H locs wx hwx hP hD hS => ?_)
  have key : ∃ (fo' : Nat → Int64) (bf' : Nat → Int32) (f' : Nat → Int32) (oh' : Nat → Int32) (lf' : Nat → Int32) (ce' : Nat → Int32), (hm 3 u.1 = 0 → fo' 0 = (v.1).toInt64) ∧ (v.2.1) 0 = hm 3 u.1 ∧ INV bf' tf tc f' oh' lf' ce' ff C (v.2.1) tt (v.2.2) dd kk ki ∧ wx = WF G cJ xb tx tk pa sl fi mo te re no tr di ke ik ou qs qt pg sg bf' tf tc f' oh' lf' ce' ft oht lft cet ff mf tt pr pn pt dd kk ki fo' ++ (bun G (Q kx) (C kx).1 (C kx).2.1 (C kx).2.2.1 (C kx).2.2.2 ++ pw G Q C (pr16 kx)) := by
    obtain ⟨F1, F0, F3, F4, F5⟩ := F
    rcases hwx with ⟨h0, rfl⟩ | ⟨h0, rfl⟩
    · exact ⟨_, _, _, _, _, _, fun _ => congrArg Int32.toInt64 (F3 h0), F0, F5, rfl⟩
    · have F4 := F4 h0
      obtain ⟨t, u2⟩ := u
      have F4 : u2 = _ := F4
      subst F4
      exact ⟨fo, _, _, _, _, _, fun q => absurd (hm_z q) h0, F0, F5, rfl⟩
  obtain ⟨fo', bf', f', oh', lf', ce', hfo, hmk, I', ewx⟩ := key
  subst ewx
  obtain ⟨k5, ek5⟩ : ∃ k5, k5 = hm 3 u.1 := ⟨_, rfl⟩
  rw [← ek5] at hfo hmk ⊢
  refine lv_istore (lv' := [(5, .int k5), (0, .ref b), (1, .ref xb), (2, .ref mo), (3, .ref ou), (4, .int (nI i))]) hx hb dL_law_1564 hl (by decide) rfl (fun ls hl => ?_)
  refine lv_aload_n hx hb dL_law_1566 rfl (lv_at hl 3 rfl) ?_
  refine lv_aload_n hx hb dL_law_1567 rfl (lv_at hl 1 rfl) ?_
  refine lv_iload hx hb dL_law_1568 (lv_at hl 5 rfl) ?_
  refine lv_iconst (v := 1) hx hb dL_law_1570 (by decide) ?_
  refine lv_iadd hx hb dL_law_1571 ?_
  refine va_sld hx hb hX hbl hbA hS (lx_in (j := 1) hi hL (by decide)) dL_law_1572 ?_
  refine k_i (ws' := WF G cJ xb tx tk pa sl fi mo te re no tr di ke ik ou qs qt pg sg bf' tf tc f' oh' lf' ce' ft oht lft cet ff (v.2.1) tt pr (v.2.2) pt dd kk ki fo' ++ (bun G (Q kx) (C kx).1 (C kx).2.1 (C kx).2.2.1 (C kx).2.2.2 ++ pw G Q C (pr16 kx))) (as := [mo, no, ke, ik]) cx hP hD hS [14, 17, 20, 21] rfl (kr_V (n := 1) (As := [.int (xs (nI i + 1).toNatClampNeg)]) (ci := 4) cx hM gL_law_X4_restore rfl rfl rfl (by decide +kernel) ⟨Nat.le_of_ble_eq_true rfl, Nat.le_of_ble_eq_true rfl⟩ rfl rfl rfl hP hD [14, 17, 20, 21] rfl rfl rfl rfl hl (Nat.le_of_ble_eq_true rfl) dL_law_1573 hcs) ⟨rfl, rfl⟩ rfl (fun H locs hP hD hS => ?_)
  refine lv_istore (lv' := [(6, .int (v.1)), (5, .int k5), (0, .ref b), (1, .ref xb), (2, .ref mo), (3, .ref ou), (4, .int (nI i))]) hx hb dL_law_1576 hl (by decide) rfl (fun ls hl => ?_)
  replace hP := kP_perm (pw_out hk16 _).symm hP
  replace hD := kD_perm (pw_out hk16 _).symm hD
  exact law_tail X hcs I' hmk hfo hP hD hS hl dL_law_1578 dL_law_1579 dL_law_1582 dL_law_1584 dL_law_1589 dL_law_1591 dL_law_1594 dL_law_1595 dL_law_1596 dL_law_1597 dL_law_1599 dL_law_1600 dL_law_1601 dL_law_1606 (by decide) kn
end LC
