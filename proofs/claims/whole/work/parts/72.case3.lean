/-! the law's cases: press, pair -/
section LC
variable {p : Program} {l : Launch} {e : Env} {s : State} {m : MethodId} {below : List Frame} {meth : Method} {c : Code} {b L : Nat} {xs : Nat → Int32} {G : gG} {cJ : ClassId}
variable {xb tx tk pa sl fi mo te re no tr di ke ik ou : Nat} {qs qt : qd} {pg sg : Nat → Option Nat} {Q : Nat → qd} {i cells slots : Nat}
variable {bf tf tc f oh lf ce ft oht lft cet ff mf tt pr pn pt dd kk ki : Nat → Int32} {fo : Nat → Int64} {C : Nat → ct4} {H : Heap} {locs : List Loc} {ls : Array Slot}
set_option maxRecDepth 100000 in
set_option maxHeartbeats 8000000 in
theorem lc_press (X : LX p l s m meth c G cJ b L xs) (HQ : PQ Q pg sg) (hcs : cells + 1 ≤ 601024 ∧ slots + 6 ≤ 7293034) (hi : i + 4 ≤ L) (hL : L ≤ 2048) (kn : NX p l e s m below meth c b G cJ xb tx tk pa sl fi mo te re no tr di ke ik ou qs qt pg sg Q i (cells + 1) (slots + 6)) (I : INV bf tf tc f oh lf ce ff C mf tt pn dd kk ki) (hP : va_P G.1 vwCl (WF G cJ xb tx tk pa sl fi mo te re no tr di ke ik ou qs qt pg sg bf tf tc f oh lf ce ft oht lft cet ff mf tt pr pn pt dd kk ki fo ++ pw G Q C (List.range 16)) H) (hD : va_D (fun q : Nat => s.heap.size ≤ q) (WF G cJ xb tx tk pa sl fi mo te re no tr di ke ik ou qs qt pg sg bf tf tc f oh lf ce ft oht lft cet ff mf tt pr pn pt dd kk ki fo ++ pw G Q C (List.range 16))) (hS : va_S (fun q : Nat => s.heap.size ≤ q) s.heap H locs) (hl : lv_has ls 7 [(0, .ref b), (1, .ref xb), (2, .ref mo), (3, .ref ou), (4, .int (nI i))]) : W p l e room_1 s m #[Value.ref b] below meth c H locs cells slots (lw_Z below #[Value.ref b] s) (F0 m 470 ls []) := by
  obtain ⟨hlt, cx, hKJ, hE, hN, hZ, hX, hbl⟩ := id X
  obtain ⟨hx, hb, hml, hown, hts, hr, hlocks, hK, hA⟩ := id cx
  have hbA : ¬ (fun q : Nat => s.heap.size ≤ q) b := Nat.not_le.mpr hbl
  have hb5 := I.2.2.1.2.2.1
  obtain ⟨kx, ekx⟩ : ∃ kx, kx = (bf 5).toInt.toNat := ⟨_, rfl⟩
  have hk14 : kx < 14 := by omega
  have hpg : P_X3_entry 14 pg (bf 5) = some (Q kx).1 := (ent_i (k := kx) (by omega) hk14 (by decide)).trans (HQ.1 kx hk14)
  have hk16 : kx < 16 := by omega
  replace hP := kP_perm (pw_out hk16 _) hP
  replace hD := kD_perm (pw_out hk16 _) hD
  refine lv_aload_n hx hb dL_law_470 rfl (lv_at hl 1 rfl) ?_
  refine lv_aload_n hx hb dL_law_471 rfl (lv_at hl 0 rfl) ?_
  refine lv_iload hx hb dL_law_472 (lv_at hl 4 rfl) ?_
  refine lv_iconst (v := 1) hx hb dL_law_474 (by decide) ?_
  refine lv_iadd hx hb dL_law_475 ?_
  refine va_sld hx hb hX hbl hbA hS (lx_in (j := 1) hi hL (by decide)) dL_law_476 ?_
  have body : ∀ rv : Int32, (((xs (nI i + 1).toNatClampNeg) = 0 ∧ rv = 0) ∨ (¬ (xs (nI i + 1).toNatClampNeg) = 0 ∧ rv = 1)) → W p l e room_1 s m #[Value.ref b] below meth c H locs cells slots (lw_Z below #[Value.ref b] s) (F0 m 485 ls [.int rv, .ref xb]) := by
    intro rv hrv
    have F := a_press I pg rv
    rw [← ekx] at F
    refine lv_aload_n hx hb dL_law_485 rfl (lv_at hl 3 rfl) ?_
    have hC := c_L_press l hlt G cJ ou fo xb tx qs.1 qt.1 pa sl fi qs.2.1 qs.2.2.1 qs.2.2.2 (Q kx).1 (Q kx).2.1 (Q kx).2.2.1 (Q kx).2.2.2 bf pg f oh lf ce (C kx).1 (C kx).2.1 (C kx).2.2.1 (C kx).2.2.2 rv I.2.1.stk hpg F.1
    have hM := c_X4_press l G mo te re no tr di ke ik mf pn dd rv I.2.1.pv I.2.2.1.2.1
    generalize P_X3_press bf pg f oh lf ce (C kx).1 (C kx).2.1 (C kx).2.2.1 (C kx).2.2.2 rv = u at F hC
    generalize P_X4_press mf pn dd rv = v at F hM
    refine k_iW (ws' := WF G cJ xb tx tk pa sl fi mo te re no tr di ke ik ou qs qt pg sg (u.2.2.1) tf tc (u.2.2.2.1) oh (u.2.2.2.2.1) (u.2.2.2.2.2.1) ft oht lft cet ff mf tt pr pn pt dd kk ki (vp_updL fo 0 (u.2.1).toInt64) ++ (bun G (Q kx) (u.2.2.2.2.2.2.1) (u.2.2.2.2.2.2.2.1) (u.2.2.2.2.2.2.2.2.1) (u.2.2.2.2.2.2.2.2.2) ++ pw G Q C (pr16 kx))) (as := [ou, xb, pa, qs.1, qs.2.1, qs.2.2.1, qs.2.2.2, (Q kx).1, (Q kx).2.1, (Q kx).2.2.1, (Q kx).2.2.2]) cx hP hD hS [22, 0, 11, 3, 4, 5, 6, 23, 24, 25, 26] rfl (kr_SL (n := 3) (As := [.ref xb, .int rv, .ref ou]) cx hKJ hE hN hZ hS hC gL_law_L_press rfl rfl rfl (by decide +kernel) ⟨Nat.le_of_ble_eq_true rfl, Nat.le_of_ble_eq_true rfl⟩ hP hD [22, 0, 11, 3, 4, 5, 6, 23, 24, 25, 26] rfl rfl rfl rfl hl (Nat.le_of_ble_eq_true rfl) dL_law_486 hcs) ⟨rfl, rfl⟩ rfl rfl (fun H locs wx hwx hP hD hS => ?_)
    have key : ∃ (fo' : Nat → Int64) (bf' : Nat → Int32) (f' : Nat → Int32) (lf' : Nat → Int32) (ce' : Nat → Int32) (p1' : Nat → Int32) (p2' : Nat → Int32) (p3' : Nat → Int32) (p4' : Nat → Int32), (hm 2 u.1 = 0 → fo' 0 = (v.1).toInt64) ∧ (v.2.1) 0 = hm 2 u.1 ∧ INV bf' tf tc f' oh lf' ce' ff (updC C kx (p1', p2', p3', p4')) (v.2.1) tt (v.2.2.1) (v.2.2.2) kk ki ∧ wx = WF G cJ xb tx tk pa sl fi mo te re no tr di ke ik ou qs qt pg sg bf' tf tc f' oh lf' ce' ft oht lft cet ff mf tt pr pn pt dd kk ki fo' ++ (bun G (Q kx) p1' p2' p3' p4' ++ pw G Q C (pr16 kx)) := by
      obtain ⟨F1, F0, F3, F4, F5⟩ := F
      rcases hwx with ⟨h0, rfl⟩ | ⟨h0, rfl⟩
      · exact ⟨_, _, _, _, _, _, _, _, _, fun _ => congrArg Int32.toInt64 (F3 h0), F0, F5, rfl⟩
      · have F4 := F4 h0
        obtain ⟨t, u2⟩ := u
        have F4 : u2 = _ := F4
        subst F4
        exact ⟨fo, _, _, _, _, _, _, _, _, fun q => absurd (hm_z q) h0, F0, F5, rfl⟩
    obtain ⟨fo', bf', f', lf', ce', p1', p2', p3', p4', hfo, hmk, I', ewx⟩ := key
    subst ewx
    obtain ⟨k5, ek5⟩ : ∃ k5, k5 = hm 2 u.1 := ⟨_, rfl⟩
    rw [← ek5] at hfo hmk ⊢
    refine lv_istore (lv' := [(5, .int k5), (0, .ref b), (1, .ref xb), (2, .ref mo), (3, .ref ou), (4, .int (nI i))]) hx hb dL_law_489 hl (by decide) rfl (fun ls hl => ?_)
    refine lv_aload_n hx hb dL_law_491 rfl (lv_at hl 3 rfl) ?_
    refine lv_aload_n hx hb dL_law_492 rfl (lv_at hl 1 rfl) ?_
    refine lv_iload hx hb dL_law_493 (lv_at hl 5 rfl) ?_
    refine lv_iconst (v := 1) hx hb dL_law_495 (by decide) ?_
    refine lv_iadd hx hb dL_law_496 ?_
    refine va_sld hx hb hX hbl hbA hS (lx_in (j := 1) hi hL (by decide)) dL_law_497 ?_
    have body2 : W p l e room_1 s m #[Value.ref b] below meth c H locs (cells + 1) (slots + 6) (lw_Z below #[Value.ref b] s) (F0 m 506 ls [.int rv, .ref mo]) := by
      refine k_i (ws' := WF G cJ xb tx tk pa sl fi mo te re no tr di ke ik ou qs qt pg sg bf' tf tc f' oh lf' ce' ft oht lft cet ff (v.2.1) tt pr (v.2.2.1) pt (v.2.2.2) kk ki fo' ++ (bun G (Q kx) p1' p2' p3' p4' ++ pw G Q C (pr16 kx))) (as := [mo, no, di]) cx hP hD hS [14, 17, 19] rfl (kr_V (n := 1) (As := [.int rv]) (ci := 4) cx hM gL_law_X4_press rfl rfl rfl (by decide +kernel) ⟨Nat.le_of_ble_eq_true rfl, Nat.le_of_ble_eq_true rfl⟩ rfl rfl rfl hP hD [14, 17, 19] rfl rfl rfl rfl hl (Nat.le_of_ble_eq_true rfl) dL_law_506 hcs) ⟨rfl, rfl⟩ rfl (fun H locs hP hD hS => ?_)
      refine lv_istore (lv' := [(6, .int (v.1)), (5, .int k5), (0, .ref b), (1, .ref xb), (2, .ref mo), (3, .ref ou), (4, .int (nI i))]) hx hb dL_law_509 hl (by decide) rfl (fun ls hl => ?_)
      replace hP := kP_perm (pw_in hk16 _ _ _ _ _) hP
      replace hD := kD_perm (pw_in hk16 _ _ _ _ _) hD
      exact law_tail X hcs I' hmk hfo hP hD hS hl dL_law_511 dL_law_512 dL_law_515 dL_law_517 dL_law_522 dL_law_524 dL_law_527 dL_law_528 dL_law_529 dL_law_530 dL_law_532 dL_law_533 dL_law_534 dL_law_539 (by decide) kn
    rcases hrv with ⟨c1, c2⟩ | ⟨c1, c2⟩
    · subst c2
      refine lv_if_eq (tgt := 505) hx hb dL_law_498 (by decide) (fun _ => ?_) (fun q => absurd c1 q)
      refine lv_iconst (v := 0) hx hb dL_law_505 (by decide) ?_
      exact body2
    · subst c2
      refine lv_if_eq (tgt := 505) hx hb dL_law_498 (by decide) (fun q => absurd q c1) (fun _ => ?_)
      refine lv_iconst (v := 1) hx hb dL_law_501 (by decide) ?_
      refine lv_goto (tgt := 506) hx hb dL_law_502 (by decide) ?_
      exact body2
  refine lv_if_eq (tgt := 484) hx hb dL_law_477 (by decide) (fun c1 => ?_) (fun c1 => ?_)
  · refine lv_iconst (v := 0) hx hb dL_law_484 (by decide) ?_
    exact body 0 (Or.inl ⟨c1, rfl⟩)
  · refine lv_iconst (v := 1) hx hb dL_law_480 (by decide) ?_
    refine lv_goto (tgt := 485) hx hb dL_law_481 (by decide) ?_
    exact body 1 (Or.inr ⟨c1, rfl⟩)
set_option maxRecDepth 100000 in
set_option maxHeartbeats 8000000 in
theorem lc_pair (X : LX p l s m meth c G cJ b L xs) (HQ : PQ Q pg sg) (hcs : cells + 1 ≤ 601024 ∧ slots + 6 ≤ 7293034) (hi : i + 4 ≤ L) (hL : L ≤ 2048) (kn : NX p l e s m below meth c b G cJ xb tx tk pa sl fi mo te re no tr di ke ik ou qs qt pg sg Q i (cells + 1) (slots + 6)) (I : INV bf tf tc f oh lf ce ff C mf tt pn dd kk ki) (hP : va_P G.1 vwCl (WF G cJ xb tx tk pa sl fi mo te re no tr di ke ik ou qs qt pg sg bf tf tc f oh lf ce ft oht lft cet ff mf tt pr pn pt dd kk ki fo ++ pw G Q C (List.range 16)) H) (hD : va_D (fun q : Nat => s.heap.size ≤ q) (WF G cJ xb tx tk pa sl fi mo te re no tr di ke ik ou qs qt pg sg bf tf tc f oh lf ce ft oht lft cet ff mf tt pr pn pt dd kk ki fo ++ pw G Q C (List.range 16))) (hS : va_S (fun q : Nat => s.heap.size ≤ q) s.heap H locs) (hl : lv_has ls 7 [(0, .ref b), (1, .ref xb), (2, .ref mo), (3, .ref ou), (4, .int (nI i))]) : W p l e room_1 s m #[Value.ref b] below meth c H locs cells slots (lw_Z below #[Value.ref b] s) (F0 m 542 ls []) := by
  obtain ⟨hlt, cx, hKJ, hE, hN, hZ, hX, hbl⟩ := id X
  obtain ⟨hx, hb, hml, hown, hts, hr, hlocks, hK, hA⟩ := id cx
  have hbA : ¬ (fun q : Nat => s.heap.size ≤ q) b := Nat.not_le.mpr hbl
  have hb5 := I.2.2.1.2.2.1
  obtain ⟨kx, ekx⟩ : ∃ kx, kx = (bf 5).toInt.toNat := ⟨_, rfl⟩
  have hk14 : kx < 14 := by omega
  have hpg : P_X3_entry 14 pg (bf 5) = some (Q kx).1 := (ent_i (k := kx) (by omega) hk14 (by decide)).trans (HQ.1 kx hk14)
  have hk16 : kx < 16 := by omega
  replace hP := kP_perm (pw_out hk16 _) hP
  replace hD := kD_perm (pw_out hk16 _) hD
  refine lv_aload_n hx hb dL_law_542 rfl (lv_at hl 1 rfl) ?_
  have F := a_pair I pg 
  rw [← ekx] at F
  refine lv_aload_n hx hb dL_law_543 rfl (lv_at hl 3 rfl) ?_
  have hC := c_L_pair l hlt G cJ ou fo xb tx qs.1 qt.1 pa sl fi qs.2.1 qs.2.2.1 qs.2.2.2 (Q kx).1 (Q kx).2.1 (Q kx).2.2.1 (Q kx).2.2.2 bf pg f oh lf ce (C kx).1 (C kx).2.1 (C kx).2.2.1 (C kx).2.2.2 I.2.1.stk hpg F.1
  have hM := c_X4_pair l G mo te re no tr di ke ik mf pn dd I.2.1.pv I.2.2.1.2.1
  generalize P_X3_pair bf pg f oh lf ce (C kx).1 (C kx).2.1 (C kx).2.2.1 (C kx).2.2.2 = u at F hC
  generalize P_X4_pair mf pn dd = v at F hM
  refine k_iW (ws' := WF G cJ xb tx tk pa sl fi mo te re no tr di ke ik ou qs qt pg sg (u.2.2.1) tf tc (u.2.2.2.1) oh (u.2.2.2.2.1) (u.2.2.2.2.2.1) ft oht lft cet ff mf tt pr pn pt dd kk ki (vp_updL fo 0 (u.2.1).toInt64) ++ (bun G (Q kx) (u.2.2.2.2.2.2.1) (u.2.2.2.2.2.2.2.1) (u.2.2.2.2.2.2.2.2.1) (u.2.2.2.2.2.2.2.2.2) ++ pw G Q C (pr16 kx))) (as := [ou, xb, pa, qs.1, qs.2.1, qs.2.2.1, qs.2.2.2, (Q kx).1, (Q kx).2.1, (Q kx).2.2.1, (Q kx).2.2.2]) cx hP hD hS [22, 0, 11, 3, 4, 5, 6, 23, 24, 25, 26] rfl (kr_SL (n := 2) (As := [.ref xb, .ref ou]) cx hKJ hE hN hZ hS hC gL_law_L_pair rfl rfl rfl (by decide +kernel) ⟨Nat.le_of_ble_eq_true rfl, Nat.le_of_ble_eq_true rfl⟩ hP hD [22, 0, 11, 3, 4, 5, 6, 23, 24, 25, 26] rfl rfl rfl rfl hl (Nat.le_of_ble_eq_true rfl) dL_law_544 hcs) ⟨rfl, rfl⟩ rfl rfl (fun H locs wx hwx hP hD hS => ?_)
  have key : ∃ (fo' : Nat → Int64) (bf' : Nat → Int32) (f' : Nat → Int32) (lf' : Nat → Int32) (ce' : Nat → Int32) (p1' : Nat → Int32) (p2' : Nat → Int32) (p3' : Nat → Int32) (p4' : Nat → Int32), (hm 2 u.1 = 0 → fo' 0 = (v.1).toInt64) ∧ (v.2.1) 0 = hm 2 u.1 ∧ INV bf' tf tc f' oh lf' ce' ff (updC C kx (p1', p2', p3', p4')) (v.2.1) tt (v.2.2.1) (v.2.2.2) kk ki ∧ wx = WF G cJ xb tx tk pa sl fi mo te re no tr di ke ik ou qs qt pg sg bf' tf tc f' oh lf' ce' ft oht lft cet ff mf tt pr pn pt dd kk ki fo' ++ (bun G (Q kx) p1' p2' p3' p4' ++ pw G Q C (pr16 kx)) := by
    obtain ⟨F1, F0, F3, F4, F5⟩ := F
    rcases hwx with ⟨h0, rfl⟩ | ⟨h0, rfl⟩
    · exact ⟨_, _, _, _, _, _, _, _, _, fun _ => congrArg Int32.toInt64 (F3 h0), F0, F5, rfl⟩
    · have F4 := F4 h0
      obtain ⟨t, u2⟩ := u
      have F4 : u2 = _ := F4
      subst F4
      exact ⟨fo, _, _, _, _, _, _, _, _, fun q => absurd (hm_z q) h0, F0, F5, rfl⟩
  obtain ⟨fo', bf', f', lf', ce', p1', p2', p3', p4', hfo, hmk, I', ewx⟩ := key
  subst ewx
  obtain ⟨k5, ek5⟩ : ∃ k5, k5 = hm 2 u.1 := ⟨_, rfl⟩
  rw [← ek5] at hfo hmk ⊢
  refine lv_istore (lv' := [(5, .int k5), (0, .ref b), (1, .ref xb), (2, .ref mo), (3, .ref ou), (4, .int (nI i))]) hx hb dL_law_547 hl (by decide) rfl (fun ls hl => ?_)
  refine lv_aload_n hx hb dL_law_549 rfl (lv_at hl 3 rfl) ?_
  refine k_i (ws' := WF G cJ xb tx tk pa sl fi mo te re no tr di ke ik ou qs qt pg sg bf' tf tc f' oh lf' ce' ft oht lft cet ff (v.2.1) tt pr (v.2.2.1) pt (v.2.2.2) kk ki fo' ++ (bun G (Q kx) p1' p2' p3' p4' ++ pw G Q C (pr16 kx))) (as := [mo, no, di]) cx hP hD hS [14, 17, 19] rfl (kr_V (n := 0) (As := []) (ci := 4) cx hM gL_law_X4_pair rfl rfl rfl (by decide +kernel) ⟨Nat.le_of_ble_eq_true rfl, Nat.le_of_ble_eq_true rfl⟩ rfl rfl rfl hP hD [14, 17, 19] rfl rfl rfl rfl hl (Nat.le_of_ble_eq_true rfl) dL_law_550 hcs) ⟨rfl, rfl⟩ rfl (fun H locs hP hD hS => ?_)
  refine lv_istore (lv' := [(6, .int (v.1)), (5, .int k5), (0, .ref b), (1, .ref xb), (2, .ref mo), (3, .ref ou), (4, .int (nI i))]) hx hb dL_law_553 hl (by decide) rfl (fun ls hl => ?_)
  replace hP := kP_perm (pw_in hk16 _ _ _ _ _) hP
  replace hD := kD_perm (pw_in hk16 _ _ _ _ _) hD
  exact law_tail X hcs I' hmk hfo hP hD hS hl dL_law_555 dL_law_556 dL_law_559 dL_law_561 dL_law_566 dL_law_568 dL_law_571 dL_law_572 dL_law_573 dL_law_574 dL_law_576 dL_law_577 dL_law_578 dL_law_583 (by decide) kn
end LC
