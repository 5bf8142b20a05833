/-! the law's cases: pause, set, choose -/
section LC
variable {p : Program} {l : Launch} {e : Env} {s : State} {m : MethodId} {below : List Frame} {meth : Method} {c : Code} {b L : Nat} {xs : Nat → Int32} {G : gG} {cJ : ClassId}
variable {xb tx tk pa sl fi mo te re no tr di ke ik ou : Nat} {qs qt : qd} {pg sg : Nat → Option Nat} {Q : Nat → qd} {i cells slots : Nat}
variable {bf tf tc f oh lf ce ft oht lft cet ff mf tt pr pn pt dd kk ki : Nat → Int32} {fo : Nat → Int64} {C : Nat → ct4} {H : Heap} {locs : List Loc} {ls : Array Slot}
set_option maxRecDepth 100000 in
set_option maxHeartbeats 8000000 in
theorem lc_pause (X : LX p l s m meth c G cJ b L xs) (HQ : PQ Q pg sg) (hcs : cells + 1 ≤ 601024 ∧ slots + 6 ≤ 7293034) (hi : i + 4 ≤ L) (hL : L ≤ 2048) (kn : NX p l e s m below meth c b G cJ xb tx tk pa sl fi mo te re no tr di ke ik ou qs qt pg sg Q i (cells + 1) (slots + 6)) (I : INV bf tf tc f oh lf ce ff C mf tt pn dd kk ki) (hP : va_P G.1 vwCl (WF G cJ xb tx tk pa sl fi mo te re no tr di ke ik ou qs qt pg sg bf tf tc f oh lf ce ft oht lft cet ff mf tt pr pn pt dd kk ki fo ++ pw G Q C (List.range 16)) H) (hD : va_D (fun q : Nat => s.heap.size ≤ q) (WF G cJ xb tx tk pa sl fi mo te re no tr di ke ik ou qs qt pg sg bf tf tc f oh lf ce ft oht lft cet ff mf tt pr pn pt dd kk ki fo ++ pw G Q C (List.range 16))) (hS : va_S (fun q : Nat => s.heap.size ≤ q) s.heap H locs) (hl : lv_has ls 7 [(0, .ref b), (1, .ref xb), (2, .ref mo), (3, .ref ou), (4, .int (nI i))]) : W p l e room_1 s m #[Value.ref b] below meth c H locs cells slots (lw_Z below #[Value.ref b] s) (F0 m 586 ls []) := by
  obtain ⟨hlt, cx, hKJ, hE, hN, hZ, hX, hbl⟩ := id X
  obtain ⟨hx, hb, hml, hown, hts, hr, hlocks, hK, hA⟩ := id cx
  have hbA : ¬ (fun q : Nat => s.heap.size ≤ q) b := Nat.not_le.mpr hbl
  have hb5 := I.2.2.1.2.2.1
  obtain ⟨kx, ekx⟩ : ∃ kx, kx = (bf 5).toInt.toNat := ⟨_, rfl⟩
  have hk14 : kx < 14 := by omega
  have hpg : P_X3_entry 14 pg (bf 5) = some (Q kx).1 := (ent_i (k := kx) (by omega) hk14 (by decide)).trans (HQ.1 kx hk14)
  have hk16 : kx < 16 := by omega
  replace hP := kP_perm (pw_out hk16 _) hP
  replace hD := kD_perm (pw_out hk16 _) hD
  refine lv_aload_n hx hb dL_law_586 rfl (lv_at hl 1 rfl) ?_
  refine lv_aload_n hx hb dL_law_587 rfl (lv_at hl 0 rfl) ?_
  refine lv_iload hx hb dL_law_588 (lv_at hl 4 rfl) ?_
  refine lv_iconst (v := 1) hx hb dL_law_590 (by decide) ?_
  refine lv_iadd hx hb dL_law_591 ?_
  refine va_sld hx hb hX hbl hbA hS (lx_in (j := 1) hi hL (by decide)) dL_law_592 ?_
  have F := a_pause I pg (xs (nI i + 1).toNatClampNeg)
  rw [← ekx] at F
  refine lv_aload_n hx hb dL_law_593 rfl (lv_at hl 3 rfl) ?_
  have hC := c_L_pause l hlt G cJ ou fo xb tx qs.1 qt.1 pa sl fi qs.2.1 qs.2.2.1 qs.2.2.2 (Q kx).1 (Q kx).2.1 (Q kx).2.2.1 (Q kx).2.2.2 bf pg f oh lf ce (C kx).1 (C kx).2.1 (C kx).2.2.1 (C kx).2.2.2 (xs (nI i + 1).toNatClampNeg) I.2.1.stk hpg F.1
  have hM := c_X4_pause l G mo te re no tr di ke ik mf pn dd (xs (nI i + 1).toNatClampNeg) I.2.2.1.2.1
  generalize P_X3_pause bf pg f oh lf ce (C kx).1 (C kx).2.1 (C kx).2.2.1 (C kx).2.2.2 (xs (nI i + 1).toNatClampNeg) = u at F hC
  generalize P_X4_pause mf pn dd (xs (nI i + 1).toNatClampNeg) = v at F hM
  refine k_iW (ws' := WF G cJ xb tx tk pa sl fi mo te re no tr di ke ik ou qs qt pg sg (u.2.2.1) tf tc (u.2.2.2.1) oh lf ce ft oht lft cet ff mf tt pr pn pt dd kk ki (vp_updL fo 0 (u.2.1).toInt64) ++ (bun G (Q kx) (u.2.2.2.2.1) (u.2.2.2.2.2.1) (u.2.2.2.2.2.2.1) (u.2.2.2.2.2.2.2) ++ pw G Q C (pr16 kx))) (as := [ou, xb, pa, qs.1, qs.2.1, qs.2.2.1, qs.2.2.2, (Q kx).1, (Q kx).2.1, (Q kx).2.2.1, (Q kx).2.2.2]) cx hP hD hS [22, 0, 11, 3, 4, 5, 6, 23, 24, 25, 26] rfl (kr_SL (n := 3) (As := [.ref xb, .int (xs (nI i + 1).toNatClampNeg), .ref ou]) cx hKJ hE hN hZ hS hC gL_law_L_pause rfl rfl rfl (by decide +kernel) ⟨Nat.le_of_ble_eq_true rfl, Nat.le_of_ble_eq_true rfl⟩ hP hD [22, 0, 11, 3, 4, 5, 6, 23, 24, 25, 26] rfl rfl rfl rfl hl (Nat.le_of_ble_eq_true rfl) dL_law_594 hcs) ⟨rfl, rfl⟩ rfl rfl (fun H locs wx hwx hP hD hS => ?_)
  have key : ∃ (fo' : Nat → Int64) (bf' : Nat → Int32) (f' : Nat → Int32) (p1' : Nat → Int32) (p2' : Nat → Int32) (p3' : Nat → Int32) (p4' : Nat → Int32), (hm 1 u.1 = 0 → fo' 0 = (v.1).toInt64) ∧ (v.2.1) 0 = hm 1 u.1 ∧ INV bf' tf tc f' oh lf ce ff (updC C kx (p1', p2', p3', p4')) (v.2.1) tt (v.2.2.1) (v.2.2.2) kk ki ∧ wx = WF G cJ xb tx tk pa sl fi mo te re no tr di ke ik ou qs qt pg sg bf' tf tc f' oh lf ce ft oht lft cet ff mf tt pr pn pt dd kk ki fo' ++ (bun G (Q kx) p1' p2' p3' p4' ++ pw G Q C (pr16 kx)) := by
    obtain ⟨F1, F0, F3, F4, F5⟩ := F
    rcases hwx with ⟨h0, rfl⟩ | ⟨h0, rfl⟩
    · exact ⟨_, _, _, _, _, _, _, fun _ => congrArg Int32.toInt64 (F3 h0), F0, F5, rfl⟩
    · have F4 := F4 h0
      obtain ⟨t, u2⟩ := u
      have F4 : u2 = _ := F4
      subst F4
      exact ⟨fo, _, _, _, _, _, _, fun q => absurd (hm_z q) h0, F0, F5, rfl⟩
  obtain ⟨fo', bf', f', p1', p2', p3', p4', hfo, hmk, I', ewx⟩ := key
  subst ewx
  obtain ⟨k5, ek5⟩ : ∃ k5, k5 = hm 1 u.1 := ⟨_, rfl⟩
  rw [← ek5] at hfo hmk ⊢
  refine lv_istore (lv' := [(5, .int k5), (0, .ref b), (1, .ref xb), (2, .ref mo), (3, .ref ou), (4, .int (nI i))]) hx hb dL_law_597 hl (by decide) rfl (fun ls hl => ?_)
  refine lv_aload_n hx hb dL_law_599 rfl (lv_at hl 3 rfl) ?_
  refine lv_aload_n hx hb dL_law_600 rfl (lv_at hl 1 rfl) ?_
  refine lv_iload hx hb dL_law_601 (lv_at hl 5 rfl) ?_
  refine lv_iconst (v := 1) hx hb dL_law_603 (by decide) ?_
  refine lv_iadd hx hb dL_law_604 ?_
  refine va_sld hx hb hX hbl hbA hS (lx_in (j := 1) hi hL (by decide)) dL_law_605 ?_
  refine k_i (ws' := WF G cJ xb tx tk pa sl fi mo te re no tr di ke ik ou qs qt pg sg bf' tf tc f' oh lf ce ft oht lft cet ff (v.2.1) tt pr (v.2.2.1) pt (v.2.2.2) kk ki fo' ++ (bun G (Q kx) p1' p2' p3' p4' ++ pw G Q C (pr16 kx))) (as := [mo, no, di]) cx hP hD hS [14, 17, 19] rfl (kr_V (n := 1) (As := [.int (xs (nI i + 1).toNatClampNeg)]) (ci := 4) cx hM gL_law_X4_pause rfl rfl rfl (by decide +kernel) ⟨Nat.le_of_ble_eq_true rfl, Nat.le_of_ble_eq_true rfl⟩ rfl rfl rfl hP hD [14, 17, 19] rfl rfl rfl rfl hl (Nat.le_of_ble_eq_true rfl) dL_law_606 hcs) ⟨rfl, rfl⟩ rfl (fun H locs hP hD hS => ?_)
  refine lv_istore (lv' := [(6, .int (v.1)), (5, .int k5), (0, .ref b), (1, .ref xb), (2, .ref mo), (3, .ref ou), (4, .int (nI i))]) hx hb dL_law_609 hl (by decide) rfl (fun ls hl => ?_)
  replace hP := kP_perm (pw_in hk16 _ _ _ _ _) hP
  replace hD := kD_perm (pw_in hk16 _ _ _ _ _) hD
  exact law_tail X hcs I' hmk hfo hP hD hS hl dL_law_611 dL_law_612 dL_law_615 dL_law_617 dL_law_622 dL_law_624 dL_law_627 dL_law_628 dL_law_629 dL_law_630 dL_law_632 dL_law_633 dL_law_634 dL_law_639 (by decide) kn
set_option maxRecDepth 100000 in
set_option maxHeartbeats 8000000 in
theorem lc_set (X : LX p l s m meth c G cJ b L xs) (HQ : PQ Q pg sg) (hcs : cells + 1 ≤ 601024 ∧ slots + 6 ≤ 7293034) (hi : i + 4 ≤ L) (hL : L ≤ 2048) (kn : NX p l e s m below meth c b G cJ xb tx tk pa sl fi mo te re no tr di ke ik ou qs qt pg sg Q i (cells + 1) (slots + 6)) (I : INV bf tf tc f oh lf ce ff C mf tt pn dd kk ki) (hP : va_P G.1 vwCl (WF G cJ xb tx tk pa sl fi mo te re no tr di ke ik ou qs qt pg sg bf tf tc f oh lf ce ft oht lft cet ff mf tt pr pn pt dd kk ki fo ++ pw G Q C (List.range 16)) H) (hD : va_D (fun q : Nat => s.heap.size ≤ q) (WF G cJ xb tx tk pa sl fi mo te re no tr di ke ik ou qs qt pg sg bf tf tc f oh lf ce ft oht lft cet ff mf tt pr pn pt dd kk ki fo ++ pw G Q C (List.range 16))) (hS : va_S (fun q : Nat => s.heap.size ≤ q) s.heap H locs) (hl : lv_has ls 7 [(0, .ref b), (1, .ref xb), (2, .ref mo), (3, .ref ou), (4, .int (nI i))]) : W p l e room_1 s m #[Value.ref b] below meth c H locs cells slots (lw_Z below #[Value.ref b] s) (F0 m 642 ls []) := by
  obtain ⟨hlt, cx, hKJ, hE, hN, hZ, hX, hbl⟩ := id X
  obtain ⟨hx, hb, hml, hown, hts, hr, hlocks, hK, hA⟩ := id cx
  have hbA : ¬ (fun q : Nat => s.heap.size ≤ q) b := Nat.not_le.mpr hbl
  have hb5 := I.2.2.1.2.2.1
  obtain ⟨kx, ekx⟩ : ∃ kx, kx = (bf 5).toInt.toNat := ⟨_, rfl⟩
  have hk14 : kx < 14 := by omega
  have hpg : P_X3_entry 14 pg (bf 5) = some (Q kx).1 := (ent_i (k := kx) (by omega) hk14 (by decide)).trans (HQ.1 kx hk14)
  have hk16 : kx < 16 := by omega
  replace hP := kP_perm (pw_out hk16 _) hP
  replace hD := kD_perm (pw_out hk16 _) hD
  refine lv_aload_n hx hb dL_law_642 rfl (lv_at hl 1 rfl) ?_
  refine lv_aload_n hx hb dL_law_643 rfl (lv_at hl 0 rfl) ?_
  refine lv_iload hx hb dL_law_644 (lv_at hl 4 rfl) ?_
  refine lv_iconst (v := 1) hx hb dL_law_646 (by decide) ?_
  refine lv_iadd hx hb dL_law_647 ?_
  refine va_sld hx hb hX hbl hbA hS (lx_in (j := 1) hi hL (by decide)) dL_law_648 ?_
  refine lv_aload_n hx hb dL_law_649 rfl (lv_at hl 0 rfl) ?_
  refine lv_iload hx hb dL_law_650 (lv_at hl 4 rfl) ?_
  refine lv_iconst (v := 2) hx hb dL_law_652 (by decide) ?_
  refine lv_iadd hx hb dL_law_653 ?_
  refine va_sld hx hb hX hbl hbA hS (lx_in (j := 2) hi hL (by decide)) dL_law_654 ?_
  have F := a_set I pg (xs (nI i + 1).toNatClampNeg) (xs (nI i + 2).toNatClampNeg)
  rw [← ekx] at F
  refine lv_aload_n hx hb dL_law_655 rfl (lv_at hl 3 rfl) ?_
  have hC := c_L_set l hlt G cJ ou fo xb tx qs.1 qt.1 pa sl fi qs.2.1 qs.2.2.1 qs.2.2.2 (Q kx).1 (Q kx).2.1 (Q kx).2.2.1 (Q kx).2.2.2 bf pg f oh lf ce (C kx).1 (C kx).2.1 (C kx).2.2.1 (C kx).2.2.2 (xs (nI i + 1).toNatClampNeg) (xs (nI i + 2).toNatClampNeg) I.2.1.stk hpg F.1
  have hM := c_X4_set l G mo te re no tr di ke ik mf pn dd (xs (nI i + 1).toNatClampNeg) (xs (nI i + 2).toNatClampNeg) I.2.2.1.2.1
  generalize P_X3_set bf pg f oh lf ce (C kx).1 (C kx).2.1 (C kx).2.2.1 (C kx).2.2.2 (xs (nI i + 1).toNatClampNeg) (xs (nI i + 2).toNatClampNeg) = u at F hC
  generalize P_X4_set mf pn dd (xs (nI i + 1).toNatClampNeg) (xs (nI i + 2).toNatClampNeg) = v at F hM
  refine k_iW (ws' := WF G cJ xb tx tk pa sl fi mo te re no tr di ke ik ou qs qt pg sg (u.2.2.1) tf tc (u.2.2.2.1) oh lf ce ft oht lft cet ff mf tt pr pn pt dd kk ki (vp_updL fo 0 (u.2.1).toInt64) ++ (bun G (Q kx) (u.2.2.2.2.1) (u.2.2.2.2.2.1) (u.2.2.2.2.2.2.1) (u.2.2.2.2.2.2.2) ++ pw G Q C (pr16 kx))) (as := [ou, xb, pa, qs.1, qs.2.1, qs.2.2.1, qs.2.2.2, (Q kx).1, (Q kx).2.1, (Q kx).2.2.1, (Q kx).2.2.2]) cx hP hD hS [22, 0, 11, 3, 4, 5, 6, 23, 24, 25, 26] rfl (kr_SL (n := 4) (As := [.ref xb, .int (xs (nI i + 1).toNatClampNeg), .int (xs (nI i + 2).toNatClampNeg), .ref ou]) cx hKJ hE hN hZ hS hC gL_law_L_set rfl rfl rfl (by decide +kernel) ⟨Nat.le_of_ble_eq_true rfl, Nat.le_of_ble_eq_true rfl⟩ hP hD [22, 0, 11, 3, 4, 5, 6, 23, 24, 25, 26] rfl rfl rfl rfl hl (Nat.le_of_ble_eq_true rfl) dL_law_656 hcs) ⟨rfl, rfl⟩ rfl rfl (fun H locs wx hwx hP hD hS => ?_)
  have key : ∃ (fo' : Nat → Int64) (bf' : Nat → Int32) (f' : Nat → Int32) (p1' : Nat → Int32) (p2' : Nat → Int32) (p3' : Nat → Int32) (p4' : Nat → Int32), (hm 1 u.1 = 0 → fo' 0 = (v.1).toInt64) ∧ (v.2.1) 0 = hm 1 u.1 ∧ INV bf' tf tc f' oh lf ce ff (updC C kx (p1', p2', p3', p4')) (v.2.1) tt (v.2.2.1) (v.2.2.2) kk ki ∧ wx = WF G cJ xb tx tk pa sl fi mo te re no tr di ke ik ou qs qt pg sg bf' tf tc f' oh lf ce ft oht lft cet ff mf tt pr pn pt dd kk ki fo' ++ (bun G (Q kx) p1' p2' p3' p4' ++ pw G Q C (pr16 kx)) := by
    obtain ⟨F1, F0, F3, F4, F5⟩ := F
    rcases hwx with ⟨h0, rfl⟩ | ⟨h0, rfl⟩
    · exact ⟨_, _, _, _, _, _, _, fun _ => congrArg Int32.toInt64 (F3 h0), F0, F5, rfl⟩
    · have F4 := F4 h0
      obtain ⟨t, u2⟩ := u
      have F4 : u2 = _ := F4
      subst F4
      exact ⟨fo, _, _, _, _, _, _, fun q => absurd (hm_z q) h0, F0, F5, rfl⟩
  obtain ⟨fo', bf', f', p1', p2', p3', p4', hfo, hmk, I', ewx⟩ := key
  subst ewx
  obtain ⟨k5, ek5⟩ : ∃ k5, k5 = hm 1 u.1 := ⟨_, rfl⟩
  rw [← ek5] at hfo hmk ⊢
  refine lv_istore (lv' := [(5, .int k5), (0, .ref b), (1, .ref xb), (2, .ref mo), (3, .ref ou), (4, .int (nI i))]) hx hb dL_law_659 hl (by decide) rfl (fun ls hl => ?_)
  refine lv_aload_n hx hb dL_law_661 rfl (lv_at hl 3 rfl) ?_
  refine lv_aload_n hx hb dL_law_662 rfl (lv_at hl 1 rfl) ?_
  refine lv_iload hx hb dL_law_663 (lv_at hl 5 rfl) ?_
  refine lv_iconst (v := 1) hx hb dL_law_665 (by decide) ?_
  refine lv_iadd hx hb dL_law_666 ?_
  refine va_sld hx hb hX hbl hbA hS (lx_in (j := 1) hi hL (by decide)) dL_law_667 ?_
  refine lv_aload_n hx hb dL_law_668 rfl (lv_at hl 1 rfl) ?_
  refine lv_iload hx hb dL_law_669 (lv_at hl 5 rfl) ?_
  refine lv_iconst (v := 2) hx hb dL_law_671 (by decide) ?_
  refine lv_iadd hx hb dL_law_672 ?_
  refine va_sld hx hb hX hbl hbA hS (lx_in (j := 2) hi hL (by decide)) dL_law_673 ?_
  refine k_i (ws' := WF G cJ xb tx tk pa sl fi mo te re no tr di ke ik ou qs qt pg sg bf' tf tc f' oh lf ce ft oht lft cet ff (v.2.1) tt pr (v.2.2.1) pt (v.2.2.2) kk ki fo' ++ (bun G (Q kx) p1' p2' p3' p4' ++ pw G Q C (pr16 kx))) (as := [mo, no, di]) cx hP hD hS [14, 17, 19] rfl (kr_V (n := 2) (As := [.int (xs (nI i + 1).toNatClampNeg), .int (xs (nI i + 2).toNatClampNeg)]) (ci := 4) cx hM gL_law_X4_set rfl rfl rfl (by decide +kernel) ⟨Nat.le_of_ble_eq_true rfl, Nat.le_of_ble_eq_true rfl⟩ rfl rfl rfl hP hD [14, 17, 19] rfl rfl rfl rfl hl (Nat.le_of_ble_eq_true rfl) dL_law_674 hcs) ⟨rfl, rfl⟩ rfl (fun H locs hP hD hS => ?_)
  refine lv_istore (lv' := [(6, .int (v.1)), (5, .int k5), (0, .ref b), (1, .ref xb), (2, .ref mo), (3, .ref ou), (4, .int (nI i))]) hx hb dL_law_677 hl (by decide) rfl (fun ls hl => ?_)
  replace hP := kP_perm (pw_in hk16 _ _ _ _ _) hP
  replace hD := kD_perm (pw_in hk16 _ _ _ _ _) hD
  exact law_tail X hcs I' hmk hfo hP hD hS hl dL_law_679 dL_law_680 dL_law_683 dL_law_685 dL_law_690 dL_law_692 dL_law_695 dL_law_696 dL_law_697 dL_law_698 dL_law_700 dL_law_701 dL_law_702 dL_law_707 (by decide) kn
set_option maxRecDepth 100000 in
set_option maxHeartbeats 8000000 in
theorem lc_choose (X : LX p l s m meth c G cJ b L xs) (HQ : PQ Q pg sg) (hcs : cells + 1 ≤ 601024 ∧ slots + 6 ≤ 7293034) (hi : i + 4 ≤ L) (hL : L ≤ 2048) (kn : NX p l e s m below meth c b G cJ xb tx tk pa sl fi mo te re no tr di ke ik ou qs qt pg sg Q i (cells + 1) (slots + 6)) (I : INV bf tf tc f oh lf ce ff C mf tt pn dd kk ki) (hP : va_P G.1 vwCl (WF G cJ xb tx tk pa sl fi mo te re no tr di ke ik ou qs qt pg sg bf tf tc f oh lf ce ft oht lft cet ff mf tt pr pn pt dd kk ki fo ++ pw G Q C (List.range 16)) H) (hD : va_D (fun q : Nat => s.heap.size ≤ q) (WF G cJ xb tx tk pa sl fi mo te re no tr di ke ik ou qs qt pg sg bf tf tc f oh lf ce ft oht lft cet ff mf tt pr pn pt dd kk ki fo ++ pw G Q C (List.range 16))) (hS : va_S (fun q : Nat => s.heap.size ≤ q) s.heap H locs) (hl : lv_has ls 7 [(0, .ref b), (1, .ref xb), (2, .ref mo), (3, .ref ou), (4, .int (nI i))]) : W p l e room_1 s m #[Value.ref b] below meth c H locs cells slots (lw_Z below #[Value.ref b] s) (F0 m 710 ls []) := by
  obtain ⟨hlt, cx, hKJ, hE, hN, hZ, hX, hbl⟩ := id X
  obtain ⟨hx, hb, hml, hown, hts, hr, hlocks, hK, hA⟩ := id cx
  have hbA : ¬ (fun q : Nat => s.heap.size ≤ q) b := Nat.not_le.mpr hbl
  have hb5 := I.2.2.1.2.2.1
  obtain ⟨kx, ekx⟩ : ∃ kx, kx = (bf 5).toInt.toNat := ⟨_, rfl⟩
  have hk14 : kx < 14 := by omega
  have hpg : P_X3_entry 14 pg (bf 5) = some (Q kx).1 := (ent_i (k := kx) (by omega) hk14 (by decide)).trans (HQ.1 kx hk14)
  have hk16 : kx < 16 := by omega
  replace hP := kP_perm (pw_out hk16 _) hP
  replace hD := kD_perm (pw_out hk16 _) hD
  refine lv_aload_n hx hb dL_law_710 rfl (lv_at hl 1 rfl) ?_
  refine lv_aload_n hx hb dL_law_711 rfl (lv_at hl 0 rfl) ?_
  refine lv_iload hx hb dL_law_712 (lv_at hl 4 rfl) ?_
  refine lv_iconst (v := 1) hx hb dL_law_714 (by decide) ?_
  refine lv_iadd hx hb dL_law_715 ?_
  refine va_sld hx hb hX hbl hbA hS (lx_in (j := 1) hi hL (by decide)) dL_law_716 ?_
  have F := a_choose I pg (xs (nI i + 1).toNatClampNeg)
  rw [← ekx] at F
  refine lv_aload_n hx hb dL_law_717 rfl (lv_at hl 3 rfl) ?_
  have hC := c_L_choose l hlt G cJ ou fo xb tx qs.1 qt.1 pa sl fi qs.2.1 qs.2.2.1 qs.2.2.2 (Q kx).1 (Q kx).2.1 (Q kx).2.2.1 (Q kx).2.2.2 bf pg f oh lf ce (C kx).1 (C kx).2.1 (C kx).2.2.1 (C kx).2.2.2 (xs (nI i + 1).toNatClampNeg) I.2.1.stk hpg F.1
  have hM := c_X4_choose l G mo te re no tr di ke ik mf pn dd (xs (nI i + 1).toNatClampNeg) I.2.2.1.2.1
  generalize P_X3_choose bf pg f oh lf ce (C kx).1 (C kx).2.1 (C kx).2.2.1 (C kx).2.2.2 (xs (nI i + 1).toNatClampNeg) = u at F hC
  generalize P_X4_choose mf pn dd (xs (nI i + 1).toNatClampNeg) = v at F hM
  refine k_iW (ws' := WF G cJ xb tx tk pa sl fi mo te re no tr di ke ik ou qs qt pg sg (u.2.2.1) tf tc (u.2.2.2.1) oh lf ce ft oht lft cet ff mf tt pr pn pt dd kk ki (vp_updL fo 0 (u.2.1).toInt64) ++ (bun G (Q kx) (u.2.2.2.2.1) (u.2.2.2.2.2.1) (u.2.2.2.2.2.2.1) (u.2.2.2.2.2.2.2) ++ pw G Q C (pr16 kx))) (as := [ou, xb, pa, qs.1, qs.2.1, qs.2.2.1, qs.2.2.2, (Q kx).1, (Q kx).2.1, (Q kx).2.2.1, (Q kx).2.2.2]) cx hP hD hS [22, 0, 11, 3, 4, 5, 6, 23, 24, 25, 26] rfl (kr_SL (n := 3) (As := [.ref xb, .int (xs (nI i + 1).toNatClampNeg), .ref ou]) cx hKJ hE hN hZ hS hC gL_law_L_choose rfl rfl rfl (by decide +kernel) ⟨Nat.le_of_ble_eq_true rfl, Nat.le_of_ble_eq_true rfl⟩ hP hD [22, 0, 11, 3, 4, 5, 6, 23, 24, 25, 26] rfl rfl rfl rfl hl (Nat.le_of_ble_eq_true rfl) dL_law_718 hcs) ⟨rfl, rfl⟩ rfl rfl (fun H locs wx hwx hP hD hS => ?_)
  have key : ∃ (fo' : Nat → Int64) (bf' : Nat → Int32) (f' : Nat → Int32) (p1' : Nat → Int32) (p2' : Nat → Int32) (p3' : Nat → Int32) (p4' : Nat → Int32), (hm 3 u.1 = 0 → fo' 0 = (v.1).toInt64) ∧ (v.2.1) 0 = hm 3 u.1 ∧ INV bf' tf tc f' oh lf ce ff (updC C kx (p1', p2', p3', p4')) (v.2.1) tt (v.2.2.1) (v.2.2.2) kk ki ∧ wx = WF G cJ xb tx tk pa sl fi mo te re no tr di ke ik ou qs qt pg sg bf' tf tc f' oh lf ce ft oht lft cet ff mf tt pr pn pt dd kk ki fo' ++ (bun G (Q kx) p1' p2' p3' p4' ++ pw G Q C (pr16 kx)) := by
    obtain ⟨F1, F0, F3, F4, F5⟩ := F
    rcases hwx with ⟨h0, rfl⟩ | ⟨h0, rfl⟩
    · exact ⟨_, _, _, _, _, _, _, fun _ => congrArg Int32.toInt64 (F3 h0), F0, F5, rfl⟩
    · have F4 := F4 h0
      obtain ⟨t, u2⟩ := u
      have F4 : u2 = _ := F4
      subst F4
      exact ⟨fo, _, _, _, _, _, _, fun q => absurd (hm_z q) h0, F0, F5, rfl⟩
  obtain ⟨fo', bf', f', p1', p2', p3', p4', hfo, hmk, I', ewx⟩ := key
  subst ewx
  obtain ⟨k5, ek5⟩ : ∃ k5, k5 = hm 3 u.1 := ⟨_, rfl⟩
  rw [← ek5] at hfo hmk ⊢
  refine lv_istore (lv' := [(5, .int k5), (0, .ref b), (1, .ref xb), (2, .ref mo), (3, .ref ou), (4, .int (nI i))]) hx hb dL_law_721 hl (by decide) rfl (fun ls hl => ?_)
  refine lv_aload_n hx hb dL_law_723 rfl (lv_at hl 3 rfl) ?_
  refine lv_aload_n hx hb dL_law_724 rfl (lv_at hl 1 rfl) ?_
  refine lv_iload hx hb dL_law_725 (lv_at hl 5 rfl) ?_
  refine lv_iconst (v := 1) hx hb dL_law_727 (by decide) ?_
  refine lv_iadd hx hb dL_law_728 ?_
  refine va_sld hx hb hX hbl hbA hS (lx_in (j := 1) hi hL (by decide)) dL_law_729 ?_
  refine k_i (ws' := WF G cJ xb tx tk pa sl fi mo te re no tr di ke ik ou qs qt pg sg bf' tf tc f' oh lf ce ft oht lft cet ff (v.2.1) tt pr (v.2.2.1) pt (v.2.2.2) kk ki fo' ++ (bun G (Q kx) p1' p2' p3' p4' ++ pw G Q C (pr16 kx))) (as := [mo, no, di]) cx hP hD hS [14, 17, 19] rfl (kr_V (n := 1) (As := [.int (xs (nI i + 1).toNatClampNeg)]) (ci := 4) cx hM gL_law_X4_choose rfl rfl rfl (by decide +kernel) ⟨Nat.le_of_ble_eq_true rfl, Nat.le_of_ble_eq_true rfl⟩ rfl rfl rfl hP hD [14, 17, 19] rfl rfl rfl rfl hl (Nat.le_of_ble_eq_true rfl) dL_law_730 hcs) ⟨rfl, rfl⟩ rfl (fun H locs hP hD hS => ?_)
  refine lv_istore (lv' := [(6, .int (v.1)), (5, .int k5), (0, .ref b), (1, .ref xb), (2, .ref mo), (3, .ref ou), (4, .int (nI i))]) hx hb dL_law_733 hl (by decide) rfl (fun ls hl => ?_)
  replace hP := kP_perm (pw_in hk16 _ _ _ _ _) hP
  replace hD := kD_perm (pw_in hk16 _ _ _ _ _) hD
  exact law_tail X hcs I' hmk hfo hP hD hS hl dL_law_735 dL_law_736 dL_law_739 dL_law_741 dL_law_746 dL_law_748 dL_law_751 dL_law_752 dL_law_753 dL_law_754 dL_law_756 dL_law_757 dL_law_758 dL_law_763 (by decide) kn
end LC
