/-! the law's cases: add, free, balance, undo -/
section LC
variable {p : Program} {l : Launch} {e : Env} {s : State} {m : MethodId} {below : List Frame} {meth : Method} {c : Code} {b L : Nat} {xs : Nat → Int32} {G : gG} {cJ : ClassId}
variable {xb tx tk pa sl fi mo te re no tr di ke ik ou : Nat} {qs qt : qd} {pg sg : Nat → Option Nat} {Q : Nat → qd} {i cells slots : Nat}
variable {bf tf tc f oh lf ce ft oht lft cet ff mf tt pr pn pt dd kk ki : Nat → Int32} {fo : Nat → Int64} {C : Nat → ct4} {H : Heap} {locs : List Loc} {ls : Array Slot}
set_option maxRecDepth 100000 in
set_option maxHeartbeats 8000000 in
theorem lc_add (X : LX p l s m meth c G cJ b L xs) (HQ : PQ Q pg sg) (hcs : cells + 1 ≤ 601024 ∧ slots + 6 ≤ 7293034) (hi : i + 4 ≤ L) (hL : L ≤ 2048) (kn : NX p l e s m below meth c b G cJ xb tx tk pa sl fi mo te re no tr di ke ik ou qs qt pg sg Q i (cells + 1) (slots + 6)) (I : INV bf tf tc f oh lf ce ff C mf tt pn dd kk ki) (hP : va_P G.1 vwCl (WF G cJ xb tx tk pa sl fi mo te re no tr di ke ik ou qs qt pg sg bf tf tc f oh lf ce ft oht lft cet ff mf tt pr pn pt dd kk ki fo ++ pw G Q C (List.range 16)) H) (hD : va_D (fun q : Nat => s.heap.size ≤ q) (WF G cJ xb tx tk pa sl fi mo te re no tr di ke ik ou qs qt pg sg bf tf tc f oh lf ce ft oht lft cet ff mf tt pr pn pt dd kk ki fo ++ pw G Q C (List.range 16))) (hS : va_S (fun q : Nat => s.heap.size ≤ q) s.heap H locs) (hl : lv_has ls 7 [(0, .ref b), (1, .ref xb), (2, .ref mo), (3, .ref ou), (4, .int (nI i))]) : W p l e room_1 s m #[Value.ref b] below meth c H locs cells slots (lw_Z below #[Value.ref b] s) (F0 m 766 ls []) := by
  obtain ⟨hlt, cx, hKJ, hE, hN, hZ, hX, hbl⟩ := id X
  obtain ⟨hx, hb, hml, hown, hts, hr, hlocks, hK, hA⟩ := id cx
  have hbA : ¬ (fun q : Nat => s.heap.size ≤ q) b := Nat.not_le.mpr hbl
  have hb5 := I.2.2.1.2.2.1
  obtain ⟨kx, ekx⟩ : ∃ kx, kx = (bf 5).toInt.toNat := ⟨_, rfl⟩
  have hk14 : kx < 14 := by omega
  have hpg : P_X3_entry 14 pg (bf 5) = some (Q kx).1 := (ent_i (k := kx) (by omega) hk14 (by decide)).trans (HQ.1 kx hk14)
  have hk16 : kx < 16 := by omega
  replace hP := kP_perm (pw_out hk16 _) hP
  replace hD := kD_perm (pw_out hk16 _) hD
  refine lv_aload_n hx hb dL_law_766 rfl (lv_at hl 1 rfl) ?_
  refine lv_aload_n hx hb dL_law_767 rfl (lv_at hl 0 rfl) ?_
  refine lv_iload hx hb dL_law_768 (lv_at hl 4 rfl) ?_
  refine lv_iconst (v := 1) hx hb dL_law_770 (by decide) ?_
  refine lv_iadd hx hb dL_law_771 ?_
  refine va_sld hx hb hX hbl hbA hS (lx_in (j := 1) hi hL (by decide)) dL_law_772 ?_
  have F := a_add I pg (xs (nI i + 1).toNatClampNeg)
  rw [← ekx] at F
  refine lv_aload_n hx hb dL_law_773 rfl (lv_at hl 3 rfl) ?_
  have hC := c_L_add l hlt G cJ ou fo xb tx qs.1 qt.1 pa sl fi qs.2.1 qs.2.2.1 qs.2.2.2 (Q kx).1 (Q kx).2.1 (Q kx).2.2.1 (Q kx).2.2.2 bf pg f oh lf ce (C kx).1 (C kx).2.1 (C kx).2.2.1 (C kx).2.2.2 (xs (nI i + 1).toNatClampNeg) I.2.1.stk hpg F.1
  have hM := c_X4_add l G mo te re no tr di ke ik mf pn dd (xs (nI i + 1).toNatClampNeg) I.2.1.pv I.2.2.1.2.1
  generalize P_X3_add bf pg f oh lf ce (C kx).1 (C kx).2.1 (C kx).2.2.1 (C kx).2.2.2 (xs (nI i + 1).toNatClampNeg) = u at F hC
  generalize P_X4_add mf pn dd (xs (nI i + 1).toNatClampNeg) = v at F hM
  refine k_iW (ws' := WF G cJ xb tx tk pa sl fi mo te re no tr di ke ik ou qs qt pg sg (u.2.2.1) tf tc (u.2.2.2.1) (u.2.2.2.2.1) lf ce ft oht lft cet ff mf tt pr pn pt dd kk ki (vp_updL fo 0 (u.2.1).toInt64) ++ (bun G (Q kx) (u.2.2.2.2.2.1) (u.2.2.2.2.2.2.1) (u.2.2.2.2.2.2.2.1) (u.2.2.2.2.2.2.2.2) ++ pw G Q C (pr16 kx))) (as := [ou, xb, pa, qs.1, qs.2.1, qs.2.2.1, qs.2.2.2, (Q kx).1, (Q kx).2.1, (Q kx).2.2.1, (Q kx).2.2.2]) cx hP hD hS [22, 0, 11, 3, 4, 5, 6, 23, 24, 25, 26] rfl (kr_SL (n := 3) (As := [.ref xb, .int (xs (nI i + 1).toNatClampNeg), .ref ou]) cx hKJ hE hN hZ hS hC gL_law_L_add rfl rfl rfl (by decide +kernel) ⟨Nat.le_of_ble_eq_true rfl, Nat.le_of_ble_eq_true rfl⟩ hP hD [22, 0, 11, 3, 4, 5, 6, 23, 24, 25, 26] rfl rfl rfl rfl hl (Nat.le_of_ble_eq_true rfl) dL_law_774 hcs) ⟨rfl, rfl⟩ rfl rfl (fun H locs wx hwx hP hD hS => ?_)
  have key : ∃ (fo' : Nat → Int64) (bf' : Nat → Int32) (f' : Nat → Int32) (oh' : Nat → Int32) (p1' : Nat → Int32) (p2' : Nat → Int32) (p3' : Nat → Int32) (p4' : Nat → Int32), (hm 1 u.1 = 0 → fo' 0 = (v.1).toInt64) ∧ (v.2.1) 0 = hm 1 u.1 ∧ INV bf' tf tc f' oh' lf ce ff (updC C kx (p1', p2', p3', p4')) (v.2.1) tt (v.2.2.1) (v.2.2.2) kk ki ∧ wx = WF G cJ xb tx tk pa sl fi mo te re no tr di ke ik ou qs qt pg sg bf' tf tc f' oh' lf ce ft oht lft cet ff mf tt pr pn pt dd kk ki fo' ++ (bun G (Q kx) p1' p2' p3' p4' ++ pw G Q C (pr16 kx)) := by
    obtain ⟨F1, F0, F3, F4, F5⟩ := F
    rcases hwx with ⟨h0, rfl⟩ | ⟨h0, rfl⟩
    · exact ⟨_, _, _, _, _, _, _, _, fun _ => congrArg Int32.toInt64 (F3 h0), F0, F5, rfl⟩
    · have F4 := F4 h0
      obtain ⟨t, u2⟩ := u
      have F4 : u2 = _ := F4
      subst F4
      exact ⟨fo, _, _, _, _, _, _, _, fun q => absurd (hm_z q) h0, F0, F5, rfl⟩
  obtain ⟨fo', bf', f', oh', p1', p2', p3', p4', hfo, hmk, I', ewx⟩ := key
  subst ewx
  obtain ⟨k5, ek5⟩ : ∃ k5, k5 = hm 1 u.1 := ⟨_, rfl⟩
  rw [← ek5] at hfo hmk ⊢
  refine lv_istore (lv' := [(5, .int k5), (0, .ref b), (1, .ref xb), (2, .ref mo), (3, .ref ou), (4, .int (nI i))]) hx hb dL_law_777 hl (by decide) rfl (fun ls hl => ?_)
  refine lv_aload_n hx hb dL_law_779 rfl (lv_at hl 3 rfl) ?_
  refine lv_aload_n hx hb dL_law_780 rfl (lv_at hl 1 rfl) ?_
  refine lv_iload hx hb dL_law_781 (lv_at hl 5 rfl) ?_
  refine lv_iconst (v := 1) hx hb dL_law_783 (by decide) ?_
  refine lv_iadd hx hb dL_law_784 ?_
  refine va_sld hx hb hX hbl hbA hS (lx_in (j := 1) hi hL (by decide)) dL_law_785 ?_
  refine k_i (ws' := WF G cJ xb tx tk pa sl fi mo te re no tr di ke ik ou qs qt pg sg bf' tf tc f' oh' lf ce ft oht lft cet ff (v.2.1) tt pr (v.2.2.1) pt (v.2.2.2) kk ki fo' ++ (bun G (Q kx) p1' p2' p3' p4' ++ pw G Q C (pr16 kx))) (as := [mo, no, di]) cx hP hD hS [14, 17, 19] rfl (kr_V (n := 1) (As := [.int (xs (nI i + 1).toNatClampNeg)]) (ci := 4) cx hM gL_law_X4_add rfl rfl rfl (by decide +kernel) ⟨Nat.le_of_ble_eq_true rfl, Nat.le_of_ble_eq_true rfl⟩ rfl rfl rfl hP hD [14, 17, 19] rfl rfl rfl rfl hl (Nat.le_of_ble_eq_true rfl) dL_law_786 hcs) ⟨rfl, rfl⟩ rfl (fun H locs hP hD hS => ?_)
  refine lv_istore (lv' := [(6, .int (v.1)), (5, .int k5), (0, .ref b), (1, .ref xb), (2, .ref mo), (3, .ref ou), (4, .int (nI i))]) hx hb dL_law_789 hl (by decide) rfl (fun ls hl => ?_)
  replace hP := kP_perm (pw_in hk16 _ _ _ _ _) hP
  replace hD := kD_perm (pw_in hk16 _ _ _ _ _) hD
  exact law_tail X hcs I' hmk hfo hP hD hS hl dL_law_791 dL_law_792 dL_law_795 dL_law_797 dL_law_802 dL_law_804 dL_law_807 dL_law_808 dL_law_809 dL_law_810 dL_law_812 dL_law_813 dL_law_814 dL_law_819 (by decide) kn
set_option maxRecDepth 100000 in
set_option maxHeartbeats 8000000 in
theorem lc_free (X : LX p l s m meth c G cJ b L xs) (HQ : PQ Q pg sg) (hcs : cells + 1 ≤ 601024 ∧ slots + 6 ≤ 7293034) (hi : i + 4 ≤ L) (hL : L ≤ 2048) (kn : NX p l e s m below meth c b G cJ xb tx tk pa sl fi mo te re no tr di ke ik ou qs qt pg sg Q i (cells + 1) (slots + 6)) (I : INV bf tf tc f oh lf ce ff C mf tt pn dd kk ki) (hP : va_P G.1 vwCl (WF G cJ xb tx tk pa sl fi mo te re no tr di ke ik ou qs qt pg sg bf tf tc f oh lf ce ft oht lft cet ff mf tt pr pn pt dd kk ki fo ++ pw G Q C (List.range 16)) H) (hD : va_D (fun q : Nat => s.heap.size ≤ q) (WF G cJ xb tx tk pa sl fi mo te re no tr di ke ik ou qs qt pg sg bf tf tc f oh lf ce ft oht lft cet ff mf tt pr pn pt dd kk ki fo ++ pw G Q C (List.range 16))) (hS : va_S (fun q : Nat => s.heap.size ≤ q) s.heap H locs) (hl : lv_has ls 7 [(0, .ref b), (1, .ref xb), (2, .ref mo), (3, .ref ou), (4, .int (nI i))]) : W p l e room_1 s m #[Value.ref b] below meth c H locs cells slots (lw_Z below #[Value.ref b] s) (F0 m 822 ls []) := by
  obtain ⟨hlt, cx, hKJ, hE, hN, hZ, hX, hbl⟩ := id X
  obtain ⟨hx, hb, hml, hown, hts, hr, hlocks, hK, hA⟩ := id cx
  have hbA : ¬ (fun q : Nat => s.heap.size ≤ q) b := Nat.not_le.mpr hbl
  have hb5 := I.2.2.1.2.2.1
  obtain ⟨kx, ekx⟩ : ∃ kx, kx = (bf 5).toInt.toNat := ⟨_, rfl⟩
  have hk14 : kx < 14 := by omega
  have hpg : P_X3_entry 14 pg (bf 5) = some (Q kx).1 := (ent_i (k := kx) (by omega) hk14 (by decide)).trans (HQ.1 kx hk14)
  have hk16 : kx < 16 := by omega
  replace hP := kP_perm (pw_out hk16 _) hP
  replace hD := kD_perm (pw_out hk16 _) hD
  refine lv_aload_n hx hb dL_law_822 rfl (lv_at hl 1 rfl) ?_
  have F := (a_free I pg).2 
  rw [← ekx] at F
  have hC := c_X3_free l G xb tx qs.1 qt.1 pa sl fi qs.2.1 qs.2.2.1 qs.2.2.2 (Q kx).1 (Q kx).2.1 (Q kx).2.2.1 (Q kx).2.2.2 bf pg f oh lf ce (C kx).1 (C kx).2.1 (C kx).2.2.1 (C kx).2.2.2 I.2.1.stk hpg
  have hM := c_X4_free l G mo te re no tr di ke ik mf pn dd I.2.2.1.2.1
  generalize P_X3_free bf pg f oh lf ce (C kx).1 (C kx).2.1 (C kx).2.2.1 (C kx).2.2.2 = u at F hC
  generalize P_X4_free mf pn dd = v at F hM
  have hcs0 : cells ≤ 601024 ∧ slots ≤ 7293034 := ⟨by omega, by omega⟩
  refine k_i (ws' := WF G cJ xb tx tk pa sl fi mo te re no tr di ke ik ou qs qt pg sg (u.2.1) tf tc (u.2.2.1) oh lf ce ft oht lft cet ff mf tt pr pn pt dd kk ki fo ++ (bun G (Q kx) (u.2.2.2.1) (u.2.2.2.2.1) (u.2.2.2.2.2.1) (u.2.2.2.2.2.2) ++ pw G Q C (pr16 kx))) (as := [xb, pa, qs.1, qs.2.1, qs.2.2.1, qs.2.2.2, (Q kx).1, (Q kx).2.1, (Q kx).2.2.1, (Q kx).2.2.2]) cx hP hD hS [0, 11, 3, 4, 5, 6, 23, 24, 25, 26] rfl (kr_V (n := 0) (As := []) (ci := 3) cx hC gL_law_X3_free rfl rfl rfl (by decide +kernel) ⟨Nat.le_of_ble_eq_true rfl, Nat.le_of_ble_eq_true rfl⟩ rfl rfl rfl hP hD [0, 11, 3, 4, 5, 6, 23, 24, 25, 26] rfl rfl rfl rfl hl (Nat.le_of_ble_eq_true rfl) dL_law_823 hcs0) ⟨rfl, rfl⟩ rfl (fun H locs hP hD hS => ?_)
  refine lv_aload_n hx hb dL_law_826 rfl (lv_at hl 2 rfl) ?_
  refine k_i (ws' := WF G cJ xb tx tk pa sl fi mo te re no tr di ke ik ou qs qt pg sg (u.2.1) tf tc (u.2.2.1) oh lf ce ft oht lft cet ff (v.2.1) tt pr (v.2.2.1) pt (v.2.2.2) kk ki fo ++ (bun G (Q kx) (u.2.2.2.1) (u.2.2.2.2.1) (u.2.2.2.2.2.1) (u.2.2.2.2.2.2) ++ pw G Q C (pr16 kx))) (as := [mo, no, di]) cx hP hD hS [14, 17, 19] rfl (kr_V (n := 0) (As := []) (ci := 4) cx hM gL_law_X4_free rfl rfl rfl (by decide +kernel) ⟨Nat.le_of_ble_eq_true rfl, Nat.le_of_ble_eq_true rfl⟩ rfl rfl rfl hP hD [14, 17, 19] rfl rfl rfl rfl hl (Nat.le_of_ble_eq_true rfl) dL_law_827 hcs0) ⟨rfl, rfl⟩ rfl (fun H locs hP hD hS => ?_)
  refine lv_icmp_eq (tgt := 1609) hx hb dL_law_830 (by decide) (fun _ => ?_) (fun q => absurd F.1 q)
  refine W.widen (k := cells + 1) (n := slots + 6) (Nat.le_succ _) (by omega) ?_
  replace hP := kP_perm (pw_in hk16 _ _ _ _ _) hP
  replace hD := kD_perm (pw_in hk16 _ _ _ _ _) hD
  exact kn _ _ _ _ _ _ _ _ _ _ _ _ _ _ _ _ _ _ _ _ _ _ H locs ls F.2 hP hD hS hl
set_option maxRecDepth 100000 in
set_option maxHeartbeats 8000000 in
theorem lc_balance (X : LX p l s m meth c G cJ b L xs) (HQ : PQ Q pg sg) (hcs : cells + 1 ≤ 601024 ∧ slots + 6 ≤ 7293034) (hi : i + 4 ≤ L) (hL : L ≤ 2048) (kn : NX p l e s m below meth c b G cJ xb tx tk pa sl fi mo te re no tr di ke ik ou qs qt pg sg Q i (cells + 1) (slots + 6)) (I : INV bf tf tc f oh lf ce ff C mf tt pn dd kk ki) (hP : va_P G.1 vwCl (WF G cJ xb tx tk pa sl fi mo te re no tr di ke ik ou qs qt pg sg bf tf tc f oh lf ce ft oht lft cet ff mf tt pr pn pt dd kk ki fo ++ pw G Q C (List.range 16)) H) (hD : va_D (fun q : Nat => s.heap.size ≤ q) (WF G cJ xb tx tk pa sl fi mo te re no tr di ke ik ou qs qt pg sg bf tf tc f oh lf ce ft oht lft cet ff mf tt pr pn pt dd kk ki fo ++ pw G Q C (List.range 16))) (hS : va_S (fun q : Nat => s.heap.size ≤ q) s.heap H locs) (hl : lv_has ls 7 [(0, .ref b), (1, .ref xb), (2, .ref mo), (3, .ref ou), (4, .int (nI i))]) : W p l e room_1 s m #[Value.ref b] below meth c H locs cells slots (lw_Z below #[Value.ref b] s) (F0 m 835 ls []) := by
  obtain ⟨hlt, cx, hKJ, hE, hN, hZ, hX, hbl⟩ := id X
  obtain ⟨hx, hb, hml, hown, hts, hr, hlocks, hK, hA⟩ := id cx
  have hbA : ¬ (fun q : Nat => s.heap.size ≤ q) b := Nat.not_le.mpr hbl
  have hb5 := I.2.2.1.2.2.1
  obtain ⟨kx, ekx⟩ : ∃ kx, kx = (bf 5).toInt.toNat := ⟨_, rfl⟩
  have hk14 : kx < 14 := by omega
  have hpg : P_X3_entry 14 pg (bf 5) = some (Q kx).1 := (ent_i (k := kx) (by omega) hk14 (by decide)).trans (HQ.1 kx hk14)
  have hk16 : kx < 16 := by omega
  replace hP := kP_perm (pw_out hk16 _) hP
  replace hD := kD_perm (pw_out hk16 _) hD
  refine lv_aload_n hx hb dL_law_835 rfl (lv_at hl 1 rfl) ?_
  have F := a_balance I pg 
  rw [← ekx] at F
  refine lv_aload_n hx hb dL_law_836 rfl (lv_at hl 3 rfl) ?_
  have hC := c_L_balance l hlt G cJ ou fo xb tx qs.1 qt.1 pa sl fi qs.2.1 qs.2.2.1 qs.2.2.2 (Q kx).1 (Q kx).2.1 (Q kx).2.2.1 (Q kx).2.2.2 bf pg f oh lf ce (C kx).1 (C kx).2.1 (C kx).2.2.1 (C kx).2.2.2 I.2.1.stk hpg F.1
  have hM := c_X4_balance l G mo te re no tr di ke ik mf pn dd I.2.1.pv I.2.2.1.2.1
  generalize P_X3_balance bf pg f oh lf ce (C kx).1 (C kx).2.1 (C kx).2.2.1 (C kx).2.2.2 = u at F hC
  generalize P_X4_balance mf pn dd = v at F hM
  refine k_iW (ws' := WF G cJ xb tx tk pa sl fi mo te re no tr di ke ik ou qs qt pg sg (u.2.2.1) tf tc (u.2.2.2.1) oh (u.2.2.2.2.1) (u.2.2.2.2.2.1) ft oht lft cet ff mf tt pr pn pt dd kk ki (vp_updL fo 0 (u.2.1).toInt64) ++ (bun G (Q kx) (u.2.2.2.2.2.2.1) (u.2.2.2.2.2.2.2.1) (u.2.2.2.2.2.2.2.2.1) (u.2.2.2.2.2.2.2.2.2) ++ pw G Q C (pr16 kx))) (as := [ou, xb, pa, qs.1, qs.2.1, qs.2.2.1, qs.2.2.2, (Q kx).1, (Q kx).2.1, (Q kx).2.2.1, (Q kx).2.2.2]) cx hP hD hS [22, 0, 11, 3, 4, 5, 6, 23, 24, 25, 26] rfl (kr_SL (n := 2) (As := [.ref xb, .ref ou]) cx hKJ hE hN hZ hS hC gL_law_L_balance rfl rfl rfl (by decide +kernel) ⟨Nat.le_of_ble_eq_true rfl, Nat.le_of_ble_eq_true rfl⟩ hP hD [22, 0, 11, 3, 4, 5, 6, 23, 24, 25, 26] rfl rfl rfl rfl hl (Nat.le_of_ble_eq_true rfl) dL_law_837 hcs) ⟨rfl, rfl⟩ rfl rfl (fun H locs wx hwx hP hD hS => ?_)
  have key : ∃ (fo' : Nat → Int64) (bf' : Nat → Int32) (f' : Nat → Int32) (lf' : Nat → Int32) (ce' : Nat → Int32) (p1' : Nat → Int32) (p2' : Nat → Int32) (p3' : Nat → Int32) (p4' : Nat → Int32), (hm 2 u.1 = 0 → fo' 0 = (v.1).toInt64) ∧ (v.2.1) 0 = hm 2 u.1 ∧ INV bf' tf tc f' oh lf' ce' ff (updC C kx (p1', p2', p3', p4')) (v.2.1) tt (v.2.2.1) (v.2.2.2) kk ki ∧ wx = WF G cJ xb tx tk pa sl fi mo te re no tr di ke ik ou qs qt pg sg bf' tf tc f' oh lf' ce' ft oht lft cet ff mf tt pr pn pt dd kk ki fo' ++ (bun G (Q kx) p1' p2' p3' p4' ++ pw G Q C (pr16 kx)) := by
    obtain ⟨F1, F0, F3, F4, F5⟩ := F
    rcases hwx with ⟨h0, rfl⟩ | ⟨h0, rfl⟩
    · exact ⟨_, _, _, _, _, _, _, _, _, fun _ => congrArg Int32.toInt64 (F3 h0), F0, F5, rfl⟩
    · have F4 := F4 h0
      obtain ⟨t, u2⟩ := u
      have F4 : u2 = _ := F4
      subst F4
      exact ⟨fo, _, _, _, _, _, _, _, _, fun q => absurd (hm_z q) h0, F0, F5, rfl⟩
  obtain ⟨fo', bf', f', lf', ce', p1', p2', p3', p4', hfo, hmk, I', ewx⟩ := key
  subst ewx
  obtain ⟨k5, ek5⟩ : ∃ k5, k5 = hm 2 u.1 := ⟨_, rfl⟩
  rw [← ek5] at hfo hmk ⊢
  refine lv_istore (lv' := [(5, .int k5), (0, .ref b), (1, .ref xb), (2, .ref mo), (3, .ref ou), (4, .int (nI i))]) hx hb dL_law_840 hl (by decide) rfl (fun ls hl => ?_)
  refine lv_aload_n hx hb dL_law_842 rfl (lv_at hl 3 rfl) ?_
  refine k_i (ws' := WF G cJ xb tx tk pa sl fi mo te re no tr di ke ik ou qs qt pg sg bf' tf tc f' oh lf' ce' ft oht lft cet ff (v.2.1) tt pr (v.2.2.1) pt (v.2.2.2) kk ki fo' ++ (bun G (Q kx) p1' p2' p3' p4' ++ pw G Q C (pr16 kx))) (as := [mo, no, di]) cx hP hD hS [14, 17, 19] rfl (kr_V (n := 0) (As := []) (ci := 4) cx hM gL_law_X4_balance rfl rfl rfl (by decide +kernel) ⟨Nat.le_of_ble_eq_true rfl, Nat.le_of_ble_eq_true rfl⟩ rfl rfl rfl hP hD [14, 17, 19] rfl rfl rfl rfl hl (Nat.le_of_ble_eq_true rfl) dL_law_843 hcs) ⟨rfl, rfl⟩ rfl (fun H locs hP hD hS => ?_)
  refine lv_istore (lv' := [(6, .int (v.1)), (5, .int k5), (0, .ref b), (1, .ref xb), (2, .ref mo), (3, .ref ou), (4, .int (nI i))]) hx hb dL_law_846 hl (by decide) rfl (fun ls hl => ?_)
  replace hP := kP_perm (pw_in hk16 _ _ _ _ _) hP
  replace hD := kD_perm (pw_in hk16 _ _ _ _ _) hD
  exact law_tail X hcs I' hmk hfo hP hD hS hl dL_law_848 dL_law_849 dL_law_852 dL_law_854 dL_law_859 dL_law_861 dL_law_864 dL_law_865 dL_law_866 dL_law_867 dL_law_869 dL_law_870 dL_law_871 dL_law_876 (by decide) kn
set_option maxRecDepth 100000 in
set_option maxHeartbeats 8000000 in
theorem lc_undo (X : LX p l s m meth c G cJ b L xs) (HQ : PQ Q pg sg) (hcs : cells + 1 ≤ 601024 ∧ slots + 6 ≤ 7293034) (hi : i + 4 ≤ L) (hL : L ≤ 2048) (kn : NX p l e s m below meth c b G cJ xb tx tk pa sl fi mo te re no tr di ke ik ou qs qt pg sg Q i (cells + 1) (slots + 6)) (I : INV bf tf tc f oh lf ce ff C mf tt pn dd kk ki) (hP : va_P G.1 vwCl (WF G cJ xb tx tk pa sl fi mo te re no tr di ke ik ou qs qt pg sg bf tf tc f oh lf ce ft oht lft cet ff mf tt pr pn pt dd kk ki fo ++ pw G Q C (List.range 16)) H) (hD : va_D (fun q : Nat => s.heap.size ≤ q) (WF G cJ xb tx tk pa sl fi mo te re no tr di ke ik ou qs qt pg sg bf tf tc f oh lf ce ft oht lft cet ff mf tt pr pn pt dd kk ki fo ++ pw G Q C (List.range 16))) (hS : va_S (fun q : Nat => s.heap.size ≤ q) s.heap H locs) (hl : lv_has ls 7 [(0, .ref b), (1, .ref xb), (2, .ref mo), (3, .ref ou), (4, .int (nI i))]) : W p l e room_1 s m #[Value.ref b] below meth c H locs cells slots (lw_Z below #[Value.ref b] s) (F0 m 879 ls []) := by
  obtain ⟨hlt, cx, hKJ, hE, hN, hZ, hX, hbl⟩ := id X
  obtain ⟨hx, hb, hml, hown, hts, hr, hlocks, hK, hA⟩ := id cx
  have hbA : ¬ (fun q : Nat => s.heap.size ≤ q) b := Nat.not_le.mpr hbl
  obtain ⟨uk1, uk2, uk3⟩ := undo_k I
  obtain ⟨kx, ekx⟩ : ∃ kx, kx = (if bf 5 ≤ 0 then 13 else bf 5 - 1 : Int32).toInt.toNat := ⟨_, rfl⟩
  have hk14 : kx < 14 := by omega
  have hpg : P_X3_entry 14 pg (if bf 5 ≤ 0 then 13 else bf 5 - 1) = some (Q kx).1 := (ent_i (k := kx) (by omega) hk14 (by decide)).trans (HQ.1 kx hk14)
  have hk16 : kx < 16 := by omega
  replace hP := kP_perm (pw_out hk16 _) hP
  replace hD := kD_perm (pw_out hk16 _) hD
  refine lv_aload_n hx hb dL_law_879 rfl (lv_at hl 1 rfl) ?_
  have F := a_undo I pg 
  rw [← ekx] at F
  refine lv_aload_n hx hb dL_law_880 rfl (lv_at hl 3 rfl) ?_
  have hC := c_L_undo l hlt G cJ ou fo xb tx qs.1 qt.1 pa sl fi qs.2.1 qs.2.2.1 qs.2.2.2 (Q kx).1 (Q kx).2.1 (Q kx).2.2.1 (Q kx).2.2.2 bf pg f oh lf ce (C kx).1 (C kx).2.1 (C kx).2.2.1 (C kx).2.2.2 (I.2.2.2.1 kx) hpg F.1
  have hM := c_X4_undo l G mo te re no tr di ke ik mf pn dd I.2.2.1.2.1
  generalize P_X3_undo bf pg f oh lf ce (C kx).1 (C kx).2.1 (C kx).2.2.1 (C kx).2.2.2 = u at F hC
  generalize P_X4_undo mf pn dd = v at F hM
  refine k_iW (ws' := WF G cJ xb tx tk pa sl fi mo te re no tr di ke ik ou qs qt pg sg (u.2.2.1) tf tc (u.2.2.2.1) (u.2.2.2.2.1) (u.2.2.2.2.2.1) (u.2.2.2.2.2.2) ft oht lft cet ff mf tt pr pn pt dd kk ki (vp_updL fo 0 (u.2.1).toInt64) ++ (bun G (Q kx) (C kx).1 (C kx).2.1 (C kx).2.2.1 (C kx).2.2.2 ++ pw G Q C (pr16 kx))) (as := [ou, xb, pa, qs.1, qs.2.1, qs.2.2.1, qs.2.2.2, (Q kx).1, (Q kx).2.1, (Q kx).2.2.1, (Q kx).2.2.2]) cx hP hD hS [22, 0, 11, 3, 4, 5, 6, 23, 24, 25, 26] rfl (kr_SL (n := 2) (As := [.ref xb, .ref ou]) cx hKJ hE hN hZ hS hC gL_law_L_undo rfl rfl rfl (by decide +kernel) ⟨Nat.le_of_ble_eq_true rfl, Nat.le_of_ble_eq_true rfl⟩ hP hD [22, 0, 11, 3, 4, 5, 6, 23, 24, 25, 26] rfl rfl rfl rfl hl (Nat.le_of_ble_eq_true rfl) dL_law_881 hcs) ⟨rfl, rfl⟩ rfl rfl (fun H locs wx hwx hP hD hS => ?_)
  have key : ∃ (fo' : Nat → Int64) (bf' : Nat → Int32) (f' : Nat → Int32) (oh' : Nat → Int32) (lf' : Nat → Int32) (ce' : Nat → Int32), (hm 2 u.1 = 0 → fo' 0 = (v.1).toInt64) ∧ (v.2.1) 0 = hm 2 u.1 ∧ INV bf' tf tc f' oh' lf' ce' ff C (v.2.1) tt (v.2.2) dd kk ki ∧ wx = WF G cJ xb tx tk pa sl fi mo te re no tr di ke ik ou qs qt pg sg bf' tf tc f' oh' lf' ce' ft oht lft cet ff mf tt pr pn pt dd kk ki fo' ++ (bun G (Q kx) (C kx).1 (C kx).2.1 (C kx).2.2.1 (C kx).2.2.2 ++ pw G Q C (pr16 kx)) := by
    obtain ⟨F1, F0, F3, F4, F5⟩ := F
    rcases hwx with ⟨h0, rfl⟩ | ⟨h0, rfl⟩
    · exact ⟨_, _, _, _, _, _, fun _ => congrArg Int32.toInt64 (F3 h0), F0, F5, rfl⟩
    · have F4 := F4 h0
      obtain ⟨t, u2⟩ := u
      have F4 : u2 = _ := F4
      subst F4
      exact ⟨fo, _, _, _, _, _, fun q => absurd (hm_z q) h0, F0, F5, rfl⟩
  obtain ⟨fo', bf', f', oh', lf', ce', hfo, hmk, I', ewx⟩ := key
  subst ewx
  obtain ⟨k5, ek5⟩ : ∃ k5, k5 = hm 2 u.1 := ⟨_, rfl⟩
  rw [← ek5] at hfo hmk ⊢
  refine lv_istore (lv' := [(5, .int k5), (0, .ref b), (1, .ref xb), (2, .ref mo), (3, .ref ou), (4, .int (nI i))]) hx hb dL_law_884 hl (by decide) rfl (fun ls hl => ?_)
  refine lv_aload_n hx hb dL_law_886 rfl (lv_at hl 3 rfl) ?_
  refine k_i (ws' := WF G cJ xb tx tk pa sl fi mo te re no tr di ke ik ou qs qt pg sg bf' tf tc f' oh' lf' ce' ft oht lft cet ff (v.2.1) tt pr (v.2.2) pt dd kk ki fo' ++ (bun G (Q kx) (C kx).1 (C kx).2.1 (C kx).2.2.1 (C kx).2.2.2 ++ pw G Q C (pr16 kx))) (as := [mo, no, di]) cx hP hD hS [14, 17, 19] rfl (kr_V (n := 0) (As := []) (ci := 4) cx hM gL_law_X4_undo rfl rfl rfl (by decide +kernel) ⟨Nat.le_of_ble_eq_true rfl, Nat.le_of_ble_eq_true rfl⟩ rfl rfl rfl hP hD [14, 17, 19] rfl rfl rfl rfl hl (Nat.le_of_ble_eq_true rfl) dL_law_887 hcs) ⟨rfl, rfl⟩ rfl (fun H locs hP hD hS => ?_)
  refine lv_istore (lv' := [(6, .int (v.1)), (5, .int k5), (0, .ref b), (1, .ref xb), (2, .ref mo), (3, .ref ou), (4, .int (nI i))]) hx hb dL_law_890 hl (by decide) rfl (fun ls hl => ?_)
  replace hP := kP_perm (pw_out hk16 _).symm hP
  replace hD := kD_perm (pw_out hk16 _).symm hD
  exact law_tail X hcs I' hmk hfo hP hD hS hl dL_law_892 dL_law_893 dL_law_896 dL_law_898 dL_law_903 dL_law_905 dL_law_908 dL_law_909 dL_law_910 dL_law_911 dL_law_913 dL_law_914 dL_law_915 dL_law_920 (by decide) kn
end LC
