/-! the law's cases: about, told, bridge, value -/
section LC
variable {p : Program} {l : Launch} {e : Env} {s : State} {m : MethodId} {below : List Frame} {meth : Method} {c : Code} {b L : Nat} {xs : Nat → Int32} {G : gG} {cJ : ClassId}
variable {xb tx tk pa sl fi mo te re no tr di ke ik ou : Nat} {qs qt : qd} {pg sg : Nat → Option Nat} {Q : Nat → qd} {i cells slots : Nat}
variable {bf tf tc f oh lf ce ft oht lft cet ff mf tt pr pn pt dd kk ki : Nat → Int32} {fo : Nat → Int64} {C : Nat → ct4} {H : Heap} {locs : List Loc} {ls : Array Slot}
set_option maxRecDepth 100000 in
set_option maxHeartbeats 8000000 in
theorem lc_about (X : LX p l s m meth c G cJ b L xs) (HQ : PQ Q pg sg) (hcs : cells + 1 ≤ 601024 ∧ slots + 6 ≤ 7293034) (hi : i + 4 ≤ L) (hL : L ≤ 2048) (kn : NX p l e s m below meth c b G cJ xb tx tk pa sl fi mo te re no tr di ke ik ou qs qt pg sg Q i (cells + 1) (slots + 6)) (I : INV bf tf tc f oh lf ce ff C mf tt pn dd kk ki) (hP : va_P G.1 vwCl (WF G cJ xb tx tk pa sl fi mo te re no tr di ke ik ou qs qt pg sg bf tf tc f oh lf ce ft oht lft cet ff mf tt pr pn pt dd kk ki fo ++ pw G Q C (List.range 16)) H) (hD : va_D (fun q : Nat => s.heap.size ≤ q) (WF G cJ xb tx tk pa sl fi mo te re no tr di ke ik ou qs qt pg sg bf tf tc f oh lf ce ft oht lft cet ff mf tt pr pn pt dd kk ki fo ++ pw G Q C (List.range 16))) (hS : va_S (fun q : Nat => s.heap.size ≤ q) s.heap H locs) (hl : lv_has ls 7 [(0, .ref b), (1, .ref xb), (2, .ref mo), (3, .ref ou), (4, .int (nI i))]) : W p l e room_1 s m #[Value.ref b] below meth c H locs cells slots (lw_Z below #[Value.ref b] s) (F0 m 290 ls []) := by
  obtain ⟨hlt, cx, hKJ, hE, hN, hZ, hX, hbl⟩ := id X
  obtain ⟨hx, hb, hml, hown, hts, hr, hlocks, hK, hA⟩ := id cx
  have hbA : ¬ (fun q : Nat => s.heap.size ≤ q) b := Nat.not_le.mpr hbl
  refine lv_aload_n hx hb dL_law_290 rfl (lv_at hl 1 rfl) ?_
  refine lv_aload_n hx hb dL_law_291 rfl (lv_at hl 0 rfl) ?_
  refine lv_iload hx hb dL_law_292 (lv_at hl 4 rfl) ?_
  refine lv_iconst (v := 1) hx hb dL_law_294 (by decide) ?_
  refine lv_iadd hx hb dL_law_295 ?_
  refine va_sld hx hb hX hbl hbA hS (lx_in (j := 1) hi hL (by decide)) dL_law_296 ?_
  have F := q_about I.2.1 bf mf (xs (nI i + 1).toNatClampNeg)
  refine lv_aload_n hx hb dL_law_297 rfl (lv_at hl 3 rfl) ?_
  have hC := c_L_about l hlt G cJ ou fo xb tx qs.1 qt.1 pa sl fi qs.2.1 qs.2.2.1 qs.2.2.2 bf f lf (xs (nI i + 1).toNatClampNeg) F.1
  have hM := c_X4_about l G mo te re no tr di ke ik mf pn (xs (nI i + 1).toNatClampNeg)
  generalize P_X3_about bf f lf (xs (nI i + 1).toNatClampNeg) = u at F hC
  generalize P_X4_about mf pn (xs (nI i + 1).toNatClampNeg) = v at F hM
  refine k_iW (ws' := WF G cJ xb tx tk pa sl fi mo te re no tr di ke ik ou qs qt pg sg bf tf tc f oh lf ce ft oht lft cet ff mf tt pr pn pt dd kk ki (vp_updL fo 0 (u.2).toInt64) ++ pw G Q C (List.range 16)) (as := [ou, xb, qs.1, qs.2.2.1]) cx hP hD hS [22, 0, 3, 5] rfl (kr_SL (n := 3) (As := [.ref xb, .int (xs (nI i + 1).toNatClampNeg), .ref ou]) cx hKJ hE hN hZ hS hC gL_law_L_about rfl rfl rfl (by decide +kernel) ⟨Nat.le_of_ble_eq_true rfl, Nat.le_of_ble_eq_true rfl⟩ hP hD [22, 0, 3, 5] rfl rfl rfl rfl hl (Nat.le_of_ble_eq_true rfl) dL_law_298 hcs) ⟨rfl, rfl⟩ rfl rfl (fun H locs wx hwx hP hD hS => ?_)
  have key : ∃ (fo' : Nat → Int64), (hm 1 u.1 = 0 → fo' 0 = (v.1).toInt64) ∧ (v.2) 0 = hm 1 u.1 ∧ INV bf tf tc f oh lf ce ff C (v.2) tt pn dd kk ki ∧ wx = WF G cJ xb tx tk pa sl fi mo te re no tr di ke ik ou qs qt pg sg bf tf tc f oh lf ce ft oht lft cet ff mf tt pr pn pt dd kk ki fo' ++ pw G Q C (List.range 16) := by
    obtain ⟨F1, F2, F3⟩ := F
    have F0 : (v.2) 0 = hm 1 u.1 := congrFun F2 0
    have FI : INV bf tf tc f oh lf ce ff C (v.2) tt pn dd kk ki := inv_mf I (congrFun F2 2) (congrFun F2 8)
    rcases hwx with ⟨h0, rfl⟩ | ⟨h0, rfl⟩
    · exact ⟨_,  fun _ => congrArg Int32.toInt64 (F3 h0), F0, FI, rfl⟩
    · exact ⟨fo,  fun q => absurd (hm_z q) h0, F0, FI, rfl⟩
  obtain ⟨fo',  hfo, hmk, I', ewx⟩ := key
  subst ewx
  obtain ⟨k5, ek5⟩ : ∃ k5, k5 = hm 1 u.1 := ⟨_, rfl⟩
  rw [← ek5] at hfo hmk ⊢
  refine lv_istore (lv' := [(5, .int k5), (0, .ref b), (1, .ref xb), (2, .ref mo), (3, .ref ou), (4, .int (nI i))]) hx hb dL_law_301 hl (by decide) rfl (fun ls hl => ?_)
  refine lv_aload_n hx hb dL_law_303 rfl (lv_at hl 3 rfl) ?_
  refine lv_aload_n hx hb dL_law_304 rfl (lv_at hl 1 rfl) ?_
  refine lv_iload hx hb dL_law_305 (lv_at hl 5 rfl) ?_
  refine lv_iconst (v := 1) hx hb dL_law_307 (by decide) ?_
  refine lv_iadd hx hb dL_law_308 ?_
  refine va_sld hx hb hX hbl hbA hS (lx_in (j := 1) hi hL (by decide)) dL_law_309 ?_
  refine k_i (ws' := WF G cJ xb tx tk pa sl fi mo te re no tr di ke ik ou qs qt pg sg bf tf tc f oh lf ce ft oht lft cet ff (v.2) tt pr pn pt dd kk ki fo' ++ pw G Q C (List.range 16)) (as := [mo, no]) cx hP hD hS [14, 17] rfl (kr_V (n := 1) (As := [.int (xs (nI i + 1).toNatClampNeg)]) (ci := 4) cx hM gL_law_X4_about rfl rfl rfl (by decide +kernel) ⟨Nat.le_of_ble_eq_true rfl, Nat.le_of_ble_eq_true rfl⟩ rfl rfl rfl hP hD [14, 17] rfl rfl rfl rfl hl (Nat.le_of_ble_eq_true rfl) dL_law_310 hcs) ⟨rfl, rfl⟩ rfl (fun H locs hP hD hS => ?_)
  refine lv_istore (lv' := [(6, .int (v.1)), (5, .int k5), (0, .ref b), (1, .ref xb), (2, .ref mo), (3, .ref ou), (4, .int (nI i))]) hx hb dL_law_313 hl (by decide) rfl (fun ls hl => ?_)
  exact law_tail X hcs I' hmk hfo hP hD hS hl dL_law_315 dL_law_316 dL_law_319 dL_law_321 dL_law_326 dL_law_328 dL_law_331 dL_law_332 dL_law_333 dL_law_334 dL_law_336 dL_law_337 dL_law_338 dL_law_343 (by decide) kn
set_option maxRecDepth 100000 in
set_option maxHeartbeats 8000000 in
theorem lc_told (X : LX p l s m meth c G cJ b L xs) (HQ : PQ Q pg sg) (hcs : cells + 1 ≤ 601024 ∧ slots + 6 ≤ 7293034) (hi : i + 4 ≤ L) (hL : L ≤ 2048) (kn : NX p l e s m below meth c b G cJ xb tx tk pa sl fi mo te re no tr di ke ik ou qs qt pg sg Q i (cells + 1) (slots + 6)) (I : INV bf tf tc f oh lf ce ff C mf tt pn dd kk ki) (hP : va_P G.1 vwCl (WF G cJ xb tx tk pa sl fi mo te re no tr di ke ik ou qs qt pg sg bf tf tc f oh lf ce ft oht lft cet ff mf tt pr pn pt dd kk ki fo ++ pw G Q C (List.range 16)) H) (hD : va_D (fun q : Nat => s.heap.size ≤ q) (WF G cJ xb tx tk pa sl fi mo te re no tr di ke ik ou qs qt pg sg bf tf tc f oh lf ce ft oht lft cet ff mf tt pr pn pt dd kk ki fo ++ pw G Q C (List.range 16))) (hS : va_S (fun q : Nat => s.heap.size ≤ q) s.heap H locs) (hl : lv_has ls 7 [(0, .ref b), (1, .ref xb), (2, .ref mo), (3, .ref ou), (4, .int (nI i))]) : W p l e room_1 s m #[Value.ref b] below meth c H locs cells slots (lw_Z below #[Value.ref b] s) (F0 m 346 ls []) := by
  obtain ⟨hlt, cx, hKJ, hE, hN, hZ, hX, hbl⟩ := id X
  obtain ⟨hx, hb, hml, hown, hts, hr, hlocks, hK, hA⟩ := id cx
  have hbA : ¬ (fun q : Nat => s.heap.size ≤ q) b := Nat.not_le.mpr hbl
  refine lv_aload_n hx hb dL_law_346 rfl (lv_at hl 1 rfl) ?_
  refine lv_aload_n hx hb dL_law_347 rfl (lv_at hl 0 rfl) ?_
  refine lv_iload hx hb dL_law_348 (lv_at hl 4 rfl) ?_
  refine lv_iconst (v := 1) hx hb dL_law_350 (by decide) ?_
  refine lv_iadd hx hb dL_law_351 ?_
  refine va_sld hx hb hX hbl hbA hS (lx_in (j := 1) hi hL (by decide)) dL_law_352 ?_
  refine lv_aload_n hx hb dL_law_353 rfl (lv_at hl 0 rfl) ?_
  refine lv_iload hx hb dL_law_354 (lv_at hl 4 rfl) ?_
  refine lv_iconst (v := 2) hx hb dL_law_356 (by decide) ?_
  refine lv_iadd hx hb dL_law_357 ?_
  refine va_sld hx hb hX hbl hbA hS (lx_in (j := 2) hi hL (by decide)) dL_law_358 ?_
  have F := q_told I.2.1 bf mf (xs (nI i + 1).toNatClampNeg) (xs (nI i + 2).toNatClampNeg)
  refine lv_aload_n hx hb dL_law_359 rfl (lv_at hl 3 rfl) ?_
  have hC := c_L_told l hlt G cJ ou fo xb tx qs.1 qt.1 pa sl fi qs.2.1 qs.2.2.1 qs.2.2.2 bf f lf ce (xs (nI i + 1).toNatClampNeg) (xs (nI i + 2).toNatClampNeg) F.1
  have hM := c_X4_told l G mo te re no tr di ke ik mf pn (xs (nI i + 1).toNatClampNeg) (xs (nI i + 2).toNatClampNeg) I.2.1.pv
  generalize P_X3_told bf f lf ce (xs (nI i + 1).toNatClampNeg) (xs (nI i + 2).toNatClampNeg) = u at F hC
  generalize P_X4_told mf pn (xs (nI i + 1).toNatClampNeg) (xs (nI i + 2).toNatClampNeg) = v at F hM
  refine k_iW (ws' := WF G cJ xb tx tk pa sl fi mo te re no tr di ke ik ou qs qt pg sg bf tf tc f oh lf ce ft oht lft cet ff mf tt pr pn pt dd kk ki (vp_updL fo 0 (u.2).toInt64) ++ pw G Q C (List.range 16)) (as := [ou, xb, qs.1, qs.2.2.1, qs.2.2.2]) cx hP hD hS [22, 0, 3, 5, 6] rfl (kr_SL (n := 4) (As := [.ref xb, .int (xs (nI i + 1).toNatClampNeg), .int (xs (nI i + 2).toNatClampNeg), .ref ou]) cx hKJ hE hN hZ hS hC gL_law_L_told rfl rfl rfl (by decide +kernel) ⟨Nat.le_of_ble_eq_true rfl, Nat.le_of_ble_eq_true rfl⟩ hP hD [22, 0, 3, 5, 6] rfl rfl rfl rfl hl (Nat.le_of_ble_eq_true rfl) dL_law_360 hcs) ⟨rfl, rfl⟩ rfl rfl (fun H locs wx hwx hP hD hS => ?_)
  have key : ∃ (fo' : Nat → Int64), (hm 1 u.1 = 0 → fo' 0 = (v.1).toInt64) ∧ (v.2) 0 = hm 1 u.1 ∧ INV bf tf tc f oh lf ce ff C (v.2) tt pn dd kk ki ∧ wx = WF G cJ xb tx tk pa sl fi mo te re no tr di ke ik ou qs qt pg sg bf tf tc f oh lf ce ft oht lft cet ff mf tt pr pn pt dd kk ki fo' ++ pw G Q C (List.range 16) := by
    obtain ⟨F1, F2, F3⟩ := F
    have F0 : (v.2) 0 = hm 1 u.1 := congrFun F2 0
    have FI : INV bf tf tc f oh lf ce ff C (v.2) tt pn dd kk ki := inv_mf I (congrFun F2 2) (congrFun F2 8)
    rcases hwx with ⟨h0, rfl⟩ | ⟨h0, rfl⟩
    · exact ⟨_,  fun _ => congrArg Int32.toInt64 (F3 h0), F0, FI, rfl⟩
    · exact ⟨fo,  fun q => absurd (hm_z q) h0, F0, FI, rfl⟩
  obtain ⟨fo',  hfo, hmk, I', ewx⟩ := key
  subst ewx
  obtain ⟨k5, ek5⟩ : ∃ k5, k5 = hm 1 u.1 := ⟨_, rfl⟩
  rw [← ek5] at hfo hmk ⊢
  refine lv_istore (lv' := [(5, .int k5), (0, .ref b), (1, .ref xb), (2, .ref mo), (3, .ref ou), (4, .int (nI i))]) hx hb dL_law_363 hl (by decide) rfl (fun ls hl => ?_)
  refine lv_aload_n hx hb dL_law_365 rfl (lv_at hl 3 rfl) ?_
  refine lv_aload_n hx hb dL_law_366 rfl (lv_at hl 1 rfl) ?_
  refine lv_iload hx hb dL_law_367 (lv_at hl 5 rfl) ?_
  refine lv_iconst (v := 1) hx hb dL_law_369 (by decide) ?_
  refine lv_iadd hx hb dL_law_370 ?_
  refine va_sld hx hb hX hbl hbA hS (lx_in (j := 1) hi hL (by decide)) dL_law_371 ?_
  refine lv_aload_n hx hb dL_law_372 rfl (lv_at hl 1 rfl) ?_
  refine lv_iload hx hb dL_law_373 (lv_at hl 5 rfl) ?_
  refine lv_iconst (v := 2) hx hb dL_law_375 (by decide) ?_
  refine lv_iadd hx hb dL_law_376 ?_
  refine va_sld hx hb hX hbl hbA hS (lx_in (j := 2) hi hL (by decide)) dL_law_377 ?_
  refine k_i (ws' := WF G cJ xb tx tk pa sl fi mo te re no tr di ke ik ou qs qt pg sg bf tf tc f oh lf ce ft oht lft cet ff (v.2) tt pr pn pt dd kk ki fo' ++ pw G Q C (List.range 16)) (as := [mo, no]) cx hP hD hS [14, 17] rfl (kr_V (n := 2) (As := [.int (xs (nI i + 1).toNatClampNeg), .int (xs (nI i + 2).toNatClampNeg)]) (ci := 4) cx hM gL_law_X4_told rfl rfl rfl (by decide +kernel) ⟨Nat.le_of_ble_eq_true rfl, Nat.le_of_ble_eq_true rfl⟩ rfl rfl rfl hP hD [14, 17] rfl rfl rfl rfl hl (Nat.le_of_ble_eq_true rfl) dL_law_378 hcs) ⟨rfl, rfl⟩ rfl (fun H locs hP hD hS => ?_)
  refine lv_istore (lv' := [(6, .int (v.1)), (5, .int k5), (0, .ref b), (1, .ref xb), (2, .ref mo), (3, .ref ou), (4, .int (nI i))]) hx hb dL_law_381 hl (by decide) rfl (fun ls hl => ?_)
  exact law_tail X hcs I' hmk hfo hP hD hS hl dL_law_383 dL_law_384 dL_law_387 dL_law_389 dL_law_394 dL_law_396 dL_law_399 dL_law_400 dL_law_401 dL_law_402 dL_law_404 dL_law_405 dL_law_406 dL_law_411 (by decide) kn
set_option maxRecDepth 100000 in
set_option maxHeartbeats 8000000 in
theorem lc_bridge (X : LX p l s m meth c G cJ b L xs) (HQ : PQ Q pg sg) (hcs : cells + 1 ≤ 601024 ∧ slots + 6 ≤ 7293034) (hi : i + 4 ≤ L) (hL : L ≤ 2048) (kn : NX p l e s m below meth c b G cJ xb tx tk pa sl fi mo te re no tr di ke ik ou qs qt pg sg Q i (cells + 1) (slots + 6)) (I : INV bf tf tc f oh lf ce ff C mf tt pn dd kk ki) (hP : va_P G.1 vwCl (WF G cJ xb tx tk pa sl fi mo te re no tr di ke ik ou qs qt pg sg bf tf tc f oh lf ce ft oht lft cet ff mf tt pr pn pt dd kk ki fo ++ pw G Q C (List.range 16)) H) (hD : va_D (fun q : Nat => s.heap.size ≤ q) (WF G cJ xb tx tk pa sl fi mo te re no tr di ke ik ou qs qt pg sg bf tf tc f oh lf ce ft oht lft cet ff mf tt pr pn pt dd kk ki fo ++ pw G Q C (List.range 16))) (hS : va_S (fun q : Nat => s.heap.size ≤ q) s.heap H locs) (hl : lv_has ls 7 [(0, .ref b), (1, .ref xb), (2, .ref mo), (3, .ref ou), (4, .int (nI i))]) : W p l e room_1 s m #[Value.ref b] below meth c H locs cells slots (lw_Z below #[Value.ref b] s) (F0 m 414 ls []) := by
  obtain ⟨hlt, cx, hKJ, hE, hN, hZ, hX, hbl⟩ := id X
  obtain ⟨hx, hb, hml, hown, hts, hr, hlocks, hK, hA⟩ := id cx
  have hbA : ¬ (fun q : Nat => s.heap.size ≤ q) b := Nat.not_le.mpr hbl
  refine lv_aload_n hx hb dL_law_414 rfl (lv_at hl 1 rfl) ?_
  refine lv_aload_n hx hb dL_law_415 rfl (lv_at hl 0 rfl) ?_
  refine lv_iload hx hb dL_law_416 (lv_at hl 4 rfl) ?_
  refine lv_iconst (v := 1) hx hb dL_law_418 (by decide) ?_
  refine lv_iadd hx hb dL_law_419 ?_
  refine va_sld hx hb hX hbl hbA hS (lx_in (j := 1) hi hL (by decide)) dL_law_420 ?_
  have F := q_bridge I.2.1 bf mf (xs (nI i + 1).toNatClampNeg)
  refine lv_aload_n hx hb dL_law_421 rfl (lv_at hl 3 rfl) ?_
  have hC := c_L_bridge l hlt G cJ ou fo xb tx qs.1 qt.1 pa sl fi qs.2.1 qs.2.2.1 bf f oh (xs (nI i + 1).toNatClampNeg) F.1
  have hM := c_X4_bridge l G mo te re no tr di ke ik mf pn (xs (nI i + 1).toNatClampNeg) I.2.1.pv
  generalize P_X3_bridge bf f oh (xs (nI i + 1).toNatClampNeg) = u at F hC
  generalize P_X4_bridge mf pn (xs (nI i + 1).toNatClampNeg) = v at F hM
  refine k_iW (ws' := WF G cJ xb tx tk pa sl fi mo te re no tr di ke ik ou qs qt pg sg bf tf tc f oh lf ce ft oht lft cet ff mf tt pr pn pt dd kk ki (vp_updL fo 0 (u.2).toInt64) ++ pw G Q C (List.range 16)) (as := [ou, xb, qs.1, qs.2.1]) cx hP hD hS [22, 0, 3, 4] rfl (kr_SL (n := 3) (As := [.ref xb, .int (xs (nI i + 1).toNatClampNeg), .ref ou]) cx hKJ hE hN hZ hS hC gL_law_L_bridge rfl rfl rfl (by decide +kernel) ⟨Nat.le_of_ble_eq_true rfl, Nat.le_of_ble_eq_true rfl⟩ hP hD [22, 0, 3, 4] rfl rfl rfl rfl hl (Nat.le_of_ble_eq_true rfl) dL_law_422 hcs) ⟨rfl, rfl⟩ rfl rfl (fun H locs wx hwx hP hD hS => ?_)
  have key : ∃ (fo' : Nat → Int64), (hm 1 u.1 = 0 → fo' 0 = (v.1).toInt64) ∧ (v.2) 0 = hm 1 u.1 ∧ INV bf tf tc f oh lf ce ff C (v.2) tt pn dd kk ki ∧ wx = WF G cJ xb tx tk pa sl fi mo te re no tr di ke ik ou qs qt pg sg bf tf tc f oh lf ce ft oht lft cet ff mf tt pr pn pt dd kk ki fo' ++ pw G Q C (List.range 16) := by
    obtain ⟨F1, F2, F3⟩ := F
    have F0 : (v.2) 0 = hm 1 u.1 := congrFun F2 0
    have FI : INV bf tf tc f oh lf ce ff C (v.2) tt pn dd kk ki := inv_mf I (congrFun F2 2) (congrFun F2 8)
    rcases hwx with ⟨h0, rfl⟩ | ⟨h0, rfl⟩
    · exact ⟨_,  fun _ => congrArg Int32.toInt64 (F3 h0), F0, FI, rfl⟩
    · exact ⟨fo,  fun q => absurd (hm_z q) h0, F0, FI, rfl⟩
  obtain ⟨fo',  hfo, hmk, I', ewx⟩ := key
  subst ewx
  obtain ⟨k5, ek5⟩ : ∃ k5, k5 = hm 1 u.1 := ⟨_, rfl⟩
  rw [← ek5] at hfo hmk ⊢
  refine lv_istore (lv' := [(5, .int k5), (0, .ref b), (1, .ref xb), (2, .ref mo), (3, .ref ou), (4, .int (nI i))]) hx hb dL_law_425 hl (by decide) rfl (fun ls hl => ?_)
  refine lv_aload_n hx hb dL_law_427 rfl (lv_at hl 3 rfl) ?_
  refine lv_aload_n hx hb dL_law_428 rfl (lv_at hl 1 rfl) ?_
  refine lv_iload hx hb dL_law_429 (lv_at hl 5 rfl) ?_
  refine lv_iconst (v := 1) hx hb dL_law_431 (by decide) ?_
  refine lv_iadd hx hb dL_law_432 ?_
  refine va_sld hx hb hX hbl hbA hS (lx_in (j := 1) hi hL (by decide)) dL_law_433 ?_
  refine k_i (ws' := WF G cJ xb tx tk pa sl fi mo te re no tr di ke ik ou qs qt pg sg bf tf tc f oh lf ce ft oht lft cet ff (v.2) tt pr pn pt dd kk ki fo' ++ pw G Q C (List.range 16)) (as := [mo, no]) cx hP hD hS [14, 17] rfl (kr_V (n := 1) (As := [.int (xs (nI i + 1).toNatClampNeg)]) (ci := 4) cx hM gL_law_X4_bridge rfl rfl rfl (by decide +kernel) ⟨Nat.le_of_ble_eq_true rfl, Nat.le_of_ble_eq_true rfl⟩ rfl rfl rfl hP hD [14, 17] rfl rfl rfl rfl hl (Nat.le_of_ble_eq_true rfl) dL_law_434 hcs) ⟨rfl, rfl⟩ rfl (fun H locs hP hD hS => ?_)
  refine lv_istore (lv' := [(6, .int (v.1)), (5, .int k5), (0, .ref b), (1, .ref xb), (2, .ref mo), (3, .ref ou), (4, .int (nI i))]) hx hb dL_law_437 hl (by decide) rfl (fun ls hl => ?_)
  exact law_tail X hcs I' hmk hfo hP hD hS hl dL_law_439 dL_law_440 dL_law_443 dL_law_445 dL_law_450 dL_law_452 dL_law_455 dL_law_456 dL_law_457 dL_law_458 dL_law_460 dL_law_461 dL_law_462 dL_law_467 (by decide) kn
set_option maxRecDepth 100000 in
set_option maxHeartbeats 8000000 in
theorem lc_value (X : LX p l s m meth c G cJ b L xs) (HQ : PQ Q pg sg) (hcs : cells + 1 ≤ 601024 ∧ slots + 6 ≤ 7293034) (hi : i + 4 ≤ L) (hL : L ≤ 2048) (kn : NX p l e s m below meth c b G cJ xb tx tk pa sl fi mo te re no tr di ke ik ou qs qt pg sg Q i (cells + 1) (slots + 6)) (I : INV bf tf tc f oh lf ce ff C mf tt pn dd kk ki) (hP : va_P G.1 vwCl (WF G cJ xb tx tk pa sl fi mo te re no tr di ke ik ou qs qt pg sg bf tf tc f oh lf ce ft oht lft cet ff mf tt pr pn pt dd kk ki fo ++ pw G Q C (List.range 16)) H) (hD : va_D (fun q : Nat => s.heap.size ≤ q) (WF G cJ xb tx tk pa sl fi mo te re no tr di ke ik ou qs qt pg sg bf tf tc f oh lf ce ft oht lft cet ff mf tt pr pn pt dd kk ki fo ++ pw G Q C (List.range 16))) (hS : va_S (fun q : Nat => s.heap.size ≤ q) s.heap H locs) (hl : lv_has ls 7 [(0, .ref b), (1, .ref xb), (2, .ref mo), (3, .ref ou), (4, .int (nI i))]) : W p l e room_1 s m #[Value.ref b] below meth c H locs cells slots (lw_Z below #[Value.ref b] s) (F0 m 923 ls []) := by
  obtain ⟨hlt, cx, hKJ, hE, hN, hZ, hX, hbl⟩ := id X
  obtain ⟨hx, hb, hml, hown, hts, hr, hlocks, hK, hA⟩ := id cx
  have hbA : ¬ (fun q : Nat => s.heap.size ≤ q) b := Nat.not_le.mpr hbl
  refine lv_aload_n hx hb dL_law_923 rfl (lv_at hl 1 rfl) ?_
  refine lv_aload_n hx hb dL_law_924 rfl (lv_at hl 0 rfl) ?_
  refine lv_iload hx hb dL_law_925 (lv_at hl 4 rfl) ?_
  refine lv_iconst (v := 1) hx hb dL_law_927 (by decide) ?_
  refine lv_iadd hx hb dL_law_928 ?_
  refine va_sld hx hb hX hbl hbA hS (lx_in (j := 1) hi hL (by decide)) dL_law_929 ?_
  have F := q_value I.2.1 bf mf (xs (nI i + 1).toNatClampNeg)
  refine lv_aload_n hx hb dL_law_930 rfl (lv_at hl 3 rfl) ?_
  have hC := c_L_value l hlt G cJ ou fo xb tx qs.1 qt.1 pa sl fi qs.2.1 qs.2.2.1 bf f (xs (nI i + 1).toNatClampNeg) F.1
  have hM := c_X4_value l G mo te re no tr di ke ik mf pn (xs (nI i + 1).toNatClampNeg)
  generalize P_X3_value bf f (xs (nI i + 1).toNatClampNeg) = u at F hC
  generalize P_X4_value mf pn (xs (nI i + 1).toNatClampNeg) = v at F hM
  refine k_iW (ws' := WF G cJ xb tx tk pa sl fi mo te re no tr di ke ik ou qs qt pg sg bf tf tc f oh lf ce ft oht lft cet ff mf tt pr pn pt dd kk ki (vp_updL fo 0 (u.2).toInt64) ++ pw G Q C (List.range 16)) (as := [ou, xb, qs.1]) cx hP hD hS [22, 0, 3] rfl (kr_SL (n := 3) (As := [.ref xb, .int (xs (nI i + 1).toNatClampNeg), .ref ou]) cx hKJ hE hN hZ hS hC gL_law_L_value rfl rfl rfl (by decide +kernel) ⟨Nat.le_of_ble_eq_true rfl, Nat.le_of_ble_eq_true rfl⟩ hP hD [22, 0, 3] rfl rfl rfl rfl hl (Nat.le_of_ble_eq_true rfl) dL_law_931 hcs) ⟨rfl, rfl⟩ rfl rfl (fun H locs wx hwx hP hD hS => ?_)
  have key : ∃ (fo' : Nat → Int64), (hm 1 u.1 = 0 → fo' 0 = (v.1).toInt64) ∧ (v.2) 0 = hm 1 u.1 ∧ INV bf tf tc f oh lf ce ff C (v.2) tt pn dd kk ki ∧ wx = WF G cJ xb tx tk pa sl fi mo te re no tr di ke ik ou qs qt pg sg bf tf tc f oh lf ce ft oht lft cet ff mf tt pr pn pt dd kk ki fo' ++ pw G Q C (List.range 16) := by
    obtain ⟨F1, F2, F3⟩ := F
    have F0 : (v.2) 0 = hm 1 u.1 := congrFun F2 0
    have FI : INV bf tf tc f oh lf ce ff C (v.2) tt pn dd kk ki := inv_mf I (congrFun F2 2) (congrFun F2 8)
    rcases hwx with ⟨h0, rfl⟩ | ⟨h0, rfl⟩
    · exact ⟨_,  fun _ => congrArg Int32.toInt64 (F3 h0), F0, FI, rfl⟩
    · exact ⟨fo,  fun q => absurd (hm_z q) h0, F0, FI, rfl⟩
  obtain ⟨fo',  hfo, hmk, I', ewx⟩ := key
  subst ewx
  obtain ⟨k5, ek5⟩ : ∃ k5, k5 = hm 1 u.1 := ⟨_, rfl⟩
  rw [← ek5] at hfo hmk ⊢
  refine lv_istore (lv' := [(5, .int k5), (0, .ref b), (1, .ref xb), (2, .ref mo), (3, .ref ou), (4, .int (nI i))]) hx hb dL_law_934 hl (by decide) rfl (fun ls hl => ?_)
  refine lv_aload_n hx hb dL_law_936 rfl (lv_at hl 3 rfl) ?_
  refine lv_aload_n hx hb dL_law_937 rfl (lv_at hl 1 rfl) ?_
  refine lv_iload hx hb dL_law_938 (lv_at hl 5 rfl) ?_
  refine lv_iconst (v := 1) hx hb dL_law_940 (by decide) ?_
  refine lv_iadd hx hb dL_law_941 ?_
  refine va_sld hx hb hX hbl hbA hS (lx_in (j := 1) hi hL (by decide)) dL_law_942 ?_
  refine k_i (ws' := WF G cJ xb tx tk pa sl fi mo te re no tr di ke ik ou qs qt pg sg bf tf tc f oh lf ce ft oht lft cet ff (v.2) tt pr pn pt dd kk ki fo' ++ pw G Q C (List.range 16)) (as := [mo, no]) cx hP hD hS [14, 17] rfl (kr_V (n := 1) (As := [.int (xs (nI i + 1).toNatClampNeg)]) (ci := 4) cx hM gL_law_X4_value rfl rfl rfl (by decide +kernel) ⟨Nat.le_of_ble_eq_true rfl, Nat.le_of_ble_eq_true rfl⟩ rfl rfl rfl hP hD [14, 17] rfl rfl rfl rfl hl (Nat.le_of_ble_eq_true rfl) dL_law_943 hcs) ⟨rfl, rfl⟩ rfl (fun H locs hP hD hS => ?_)
  refine lv_istore (lv' := [(6, .int (v.1)), (5, .int k5), (0, .ref b), (1, .ref xb), (2, .ref mo), (3, .ref ou), (4, .int (nI i))]) hx hb dL_law_946 hl (by decide) rfl (fun ls hl => ?_)
  exact law_tail X hcs I' hmk hfo hP hD hS hl dL_law_948 dL_law_949 dL_law_952 dL_law_954 dL_law_959 dL_law_961 dL_law_964 dL_law_965 dL_law_966 dL_law_967 dL_law_969 dL_law_970 dL_law_971 dL_law_976 (by decide) kn
end LC
