/-! the law's cases: balanced, runScript, simulate -/
section LC
variable {p : Program} {l : Launch} {e : Env} {s : State} {m : MethodId} {below : List Frame} {meth : Method} {c : Code} {b L : Nat} {xs : Nat → Int32} {G : gG} {cJ : ClassId}
variable {xb tx tk pa sl fi mo te re no tr di ke ik ou : Nat} {qs qt : qd} {pg sg : Nat → Option Nat} {Q : Nat → qd} {i cells slots : Nat}
variable {bf tf tc f oh lf ce ft oht lft cet ff mf tt pr pn pt dd kk ki : Nat → Int32} {fo : Nat → Int64} {C : Nat → ct4} {H : Heap} {locs : List Loc} {ls : Array Slot}
set_option maxRecDepth 100000 in
set_option maxHeartbeats 8000000 in
theorem lc_balanced (X : LX p l s m meth c G cJ b L xs) (HQ : PQ Q pg sg) (hcs : cells + 1 ≤ 601024 ∧ slots + 6 ≤ 7293034) (hi : i + 4 ≤ L) (hL : L ≤ 2048) (kn : NX p l e s m below meth c b G cJ xb tx tk pa sl fi mo te re no tr di ke ik ou qs qt pg sg Q i (cells + 1) (slots + 6)) (I : INV bf tf tc f oh lf ce ff C mf tt pn dd kk ki) (hP : va_P G.1 vwCl (WF G cJ xb tx tk pa sl fi mo te re no tr di ke ik ou qs qt pg sg bf tf tc f oh lf ce ft oht lft cet ff mf tt pr pn pt dd kk ki fo ++ pw G Q C (List.range 16)) H) (hD : va_D (fun q : Nat => s.heap.size ≤ q) (WF G cJ xb tx tk pa sl fi mo te re no tr di ke ik ou qs qt pg sg bf tf tc f oh lf ce ft oht lft cet ff mf tt pr pn pt dd kk ki fo ++ pw G Q C (List.range 16))) (hS : va_S (fun q : Nat => s.heap.size ≤ q) s.heap H locs) (hl : lv_has ls 7 [(0, .ref b), (1, .ref xb), (2, .ref mo), (3, .ref ou), (4, .int (nI i))]) : W p l e room_1 s m #[Value.ref b] below meth c H locs cells slots (lw_Z below #[Value.ref b] s) (F0 m 1241 ls []) := by
  obtain ⟨hlt, cx, hKJ, hE, hN, hZ, hX, hbl⟩ := id X
  obtain ⟨hx, hb, hml, hown, hts, hr, hlocks, hK, hA⟩ := id cx
  have hbA : ¬ (fun q : Nat => s.heap.size ≤ q) b := Nat.not_le.mpr hbl
  refine lv_aload_n hx hb dL_law_1241 rfl (lv_at hl 1 rfl) ?_
  refine lv_aload_n hx hb dL_law_1242 rfl (lv_at hl 0 rfl) ?_
  refine lv_iload hx hb dL_law_1243 (lv_at hl 4 rfl) ?_
  refine lv_iconst (v := 1) hx hb dL_law_1245 (by decide) ?_
  refine lv_iadd hx hb dL_law_1246 ?_
  refine va_sld hx hb hX hbl hbA hS (lx_in (j := 1) hi hL (by decide)) dL_law_1247 ?_
  have F := q_balanced I.2.1 bf mf ft oht lft cet pt (xs (nI i + 1).toNatClampNeg)
  refine lv_aload_n hx hb dL_law_1248 rfl (lv_at hl 3 rfl) ?_
  have hC := c_L_balanced l hlt G cJ ou fo xb tx qs.1 qt.1 pa sl fi qs.2.1 qs.2.2.1 qs.2.2.2 qt.2.1 qt.2.2.1 qt.2.2.2 bf f oh lf ce ft oht lft cet (xs (nI i + 1).toNatClampNeg) I.2.1.stk F.1
  have hM := c_X4_balanced l G mo te re no tr di ke ik mf pn pt (xs (nI i + 1).toNatClampNeg) I.2.1.pv
  generalize P_X3_balanced bf f oh lf ce ft oht lft cet (xs (nI i + 1).toNatClampNeg) = u at F hC
  generalize P_X4_balanced mf pn pt (xs (nI i + 1).toNatClampNeg) = v at F hM
  refine k_iW (ws' := WF G cJ xb tx tk pa sl fi mo te re no tr di ke ik ou qs qt pg sg bf tf tc f oh lf ce (u.2.2.1) (u.2.2.2.1) (u.2.2.2.2.1) (u.2.2.2.2.2) ff mf tt pr pn pt dd kk ki (vp_updL fo 0 (u.2.1).toInt64) ++ pw G Q C (List.range 16)) (as := [ou, xb, qs.1, qs.2.1, qs.2.2.1, qs.2.2.2, qt.1, qt.2.1, qt.2.2.1, qt.2.2.2]) cx hP hD hS [22, 0, 3, 4, 5, 6, 7, 8, 9, 10] rfl (kr_SL (n := 3) (As := [.ref xb, .int (xs (nI i + 1).toNatClampNeg), .ref ou]) cx hKJ hE hN hZ hS hC gL_law_L_balanced rfl rfl rfl (by decide +kernel) ⟨Nat.le_of_ble_eq_true rfl, Nat.le_of_ble_eq_true rfl⟩ hP hD [22, 0, 3, 4, 5, 6, 7, 8, 9, 10] rfl rfl rfl rfl hl (Nat.le_of_ble_eq_true rfl) dL_law_1249 hcs) ⟨rfl, rfl⟩ rfl rfl (fun H locs wx hwx hP hD hS => ?_)
  have key : ∃ (fo' : Nat → Int64) (ft' : Nat → Int32) (oht' : Nat → Int32) (lft' : Nat → Int32) (cet' : Nat → Int32), (hm 1 u.1 = 0 → fo' 0 = (v.1).toInt64) ∧ (v.2.1) 0 = hm 1 u.1 ∧ INV bf tf tc f oh lf ce ff C (v.2.1) tt pn dd kk ki ∧ wx = WF G cJ xb tx tk pa sl fi mo te re no tr di ke ik ou qs qt pg sg bf tf tc f oh lf ce ft' oht' lft' cet' ff mf tt pr pn pt dd kk ki fo' ++ pw G Q C (List.range 16) := by
    obtain ⟨F1, F2, F3⟩ := F
    have F0 : (v.2.1) 0 = hm 1 u.1 := congrFun F2 0
    have FI : INV bf tf tc f oh lf ce ff C (v.2.1) tt pn dd kk ki := inv_mf I (congrFun F2 2) (congrFun F2 8)
    rcases hwx with ⟨h0, rfl⟩ | ⟨h0, rfl⟩
    · exact ⟨_, _, _, _, _, fun _ => congrArg Int32.toInt64 (F3 h0), F0, FI, rfl⟩
    · exact ⟨fo, ft, oht, lft, cet, fun q => absurd (hm_z q) h0, F0, FI, rfl⟩
  obtain ⟨fo', ft', oht', lft', cet', hfo, hmk, I', ewx⟩ := key
  subst ewx
  obtain ⟨k5, ek5⟩ : ∃ k5, k5 = hm 1 u.1 := ⟨_, rfl⟩
  rw [← ek5] at hfo hmk ⊢
  refine lv_istore (lv' := [(5, .int k5), (0, .ref b), (1, .ref xb), (2, .ref mo), (3, .ref ou), (4, .int (nI i))]) hx hb dL_law_1252 hl (by decide) rfl (fun ls hl => ?_)
  refine lv_aload_n hx hb dL_law_1254 rfl (lv_at hl 3 rfl) ?_
  refine lv_aload_n hx hb dL_law_1255 rfl (lv_at hl 1 rfl) ?_
  refine lv_iload hx hb dL_law_1256 (lv_at hl 5 rfl) ?_
  refine lv_iconst (v := 1) hx hb dL_law_1258 (by decide) ?_
  refine lv_iadd hx hb dL_law_1259 ?_
  refine va_sld hx hb hX hbl hbA hS (lx_in (j := 1) hi hL (by decide)) dL_law_1260 ?_
  refine k_i (ws' := WF G cJ xb tx tk pa sl fi mo te re no tr di ke ik ou qs qt pg sg bf tf tc f oh lf ce ft' oht' lft' cet' ff (v.2.1) tt pr pn (v.2.2) dd kk ki fo' ++ pw G Q C (List.range 16)) (as := [mo, no, tr]) cx hP hD hS [14, 17, 18] rfl (kr_V (n := 1) (As := [.int (xs (nI i + 1).toNatClampNeg)]) (ci := 4) cx hM gL_law_X4_balanced rfl rfl rfl (by decide +kernel) ⟨Nat.le_of_ble_eq_true rfl, Nat.le_of_ble_eq_true rfl⟩ rfl rfl rfl hP hD [14, 17, 18] rfl rfl rfl rfl hl (Nat.le_of_ble_eq_true rfl) dL_law_1261 hcs) ⟨rfl, rfl⟩ rfl (fun H locs hP hD hS => ?_)
  refine lv_istore (lv' := [(6, .int (v.1)), (5, .int k5), (0, .ref b), (1, .ref xb), (2, .ref mo), (3, .ref ou), (4, .int (nI i))]) hx hb dL_law_1264 hl (by decide) rfl (fun ls hl => ?_)
  exact law_tail X hcs I' hmk hfo hP hD hS hl dL_law_1266 dL_law_1267 dL_law_1270 dL_law_1272 dL_law_1277 dL_law_1279 dL_law_1282 dL_law_1283 dL_law_1284 dL_law_1285 dL_law_1287 dL_law_1288 dL_law_1289 dL_law_1294 (by decide) kn
set_option maxRecDepth 100000 in
set_option maxHeartbeats 8000000 in
theorem lc_runScript (X : LX p l s m meth c G cJ b L xs) (HQ : PQ Q pg sg) (hcs : cells + 1 ≤ 601024 ∧ slots + 6 ≤ 7293034) (hi : i + 4 ≤ L) (hL : L ≤ 2048) (kn : NX p l e s m below meth c b G cJ xb tx tk pa sl fi mo te re no tr di ke ik ou qs qt pg sg Q i (cells + 1) (slots + 6)) (I : INV bf tf tc f oh lf ce ff C mf tt pn dd kk ki) (hP : va_P G.1 vwCl (WF G cJ xb tx tk pa sl fi mo te re no tr di ke ik ou qs qt pg sg bf tf tc f oh lf ce ft oht lft cet ff mf tt pr pn pt dd kk ki fo ++ pw G Q C (List.range 16)) H) (hD : va_D (fun q : Nat => s.heap.size ≤ q) (WF G cJ xb tx tk pa sl fi mo te re no tr di ke ik ou qs qt pg sg bf tf tc f oh lf ce ft oht lft cet ff mf tt pr pn pt dd kk ki fo ++ pw G Q C (List.range 16))) (hS : va_S (fun q : Nat => s.heap.size ≤ q) s.heap H locs) (hl : lv_has ls 7 [(0, .ref b), (1, .ref xb), (2, .ref mo), (3, .ref ou), (4, .int (nI i))]) : W p l e room_1 s m #[Value.ref b] below meth c H locs cells slots (lw_Z below #[Value.ref b] s) (F0 m 1297 ls []) := by
  obtain ⟨hlt, cx, hKJ, hE, hN, hZ, hX, hbl⟩ := id X
  obtain ⟨hx, hb, hml, hown, hts, hr, hlocks, hK, hA⟩ := id cx
  have hbA : ¬ (fun q : Nat => s.heap.size ≤ q) b := Nat.not_le.mpr hbl
  refine lv_aload_n hx hb dL_law_1297 rfl (lv_at hl 1 rfl) ?_
  refine lv_aload_n hx hb dL_law_1298 rfl (lv_at hl 0 rfl) ?_
  refine lv_iload hx hb dL_law_1299 (lv_at hl 4 rfl) ?_
  refine lv_iconst (v := 1) hx hb dL_law_1301 (by decide) ?_
  refine lv_iadd hx hb dL_law_1302 ?_
  refine va_sld hx hb hX hbl hbA hS (lx_in (j := 1) hi hL (by decide)) dL_law_1303 ?_
  refine lv_aload_n hx hb dL_law_1304 rfl (lv_at hl 0 rfl) ?_
  refine lv_iload hx hb dL_law_1305 (lv_at hl 4 rfl) ?_
  refine lv_iconst (v := 2) hx hb dL_law_1307 (by decide) ?_
  refine lv_iadd hx hb dL_law_1308 ?_
  refine va_sld hx hb hX hbl hbA hS (lx_in (j := 2) hi hL (by decide)) dL_law_1309 ?_
  refine lv_i2l hx hb dL_law_1310 rfl ?_
  refine lv_bipush (v := 32) hx hb dL_law_1311 (by decide) ?_
  refine lv_lshl hx hb dL_law_1313 rfl ?_
  refine lv_aload_n hx hb dL_law_1314 rfl (lv_at hl 0 rfl) ?_
  refine lv_iload hx hb dL_law_1315 (lv_at hl 4 rfl) ?_
  refine lv_iconst (v := 3) hx hb dL_law_1317 (by decide) ?_
  refine lv_iadd hx hb dL_law_1318 ?_
  refine va_sld hx hb hX hbl hbA hS (lx_in (j := 3) hi hL (by decide)) dL_law_1319 ?_
  refine lv_i2l hx hb dL_law_1320 rfl ?_
  refine k_ldc2 (v := 4294967295) cx (by decide +kernel) dL_law_1321 ?_
  refine lv_land hx hb dL_law_1324 ?_
  refine lv_lor hx hb dL_law_1325 ?_
  have F := q_runScript I.2.1 bf mf ft oht lft cet pt (xs (nI i + 1).toNatClampNeg) (((xs (nI i + 2).toNatClampNeg).toInt64 <<< ((32 : Int32).toInt64 &&& 63)) ||| ((xs (nI i + 3).toNatClampNeg).toInt64 &&& 4294967295))
  refine lv_aload_n hx hb dL_law_1326 rfl (lv_at hl 3 rfl) ?_
  have hC := c_L_runScript l hlt G cJ ou fo xb tx qs.1 qt.1 pa sl fi qs.2.1 qs.2.2.1 qs.2.2.2 qt.2.1 qt.2.2.1 qt.2.2.2 bf f oh lf ce ft oht lft cet (xs (nI i + 1).toNatClampNeg) (((xs (nI i + 2).toNatClampNeg).toInt64 <<< ((32 : Int32).toInt64 &&& 63)) ||| ((xs (nI i + 3).toNatClampNeg).toInt64 &&& 4294967295)) I.2.1.stk F.1
  have hM := c_X4_runScript l G mo te re no tr di ke ik mf pn pt (xs (nI i + 1).toNatClampNeg) (((xs (nI i + 2).toNatClampNeg).toInt64 <<< ((32 : Int32).toInt64 &&& 63)) ||| ((xs (nI i + 3).toNatClampNeg).toInt64 &&& 4294967295)) I.2.1.pv
  generalize P_X3_runScript bf f oh lf ce ft oht lft cet (xs (nI i + 1).toNatClampNeg) (((xs (nI i + 2).toNatClampNeg).toInt64 <<< ((32 : Int32).toInt64 &&& 63)) ||| ((xs (nI i + 3).toNatClampNeg).toInt64 &&& 4294967295)) = u at F hC
  generalize P_X4_runScript mf pn pt (xs (nI i + 1).toNatClampNeg) (((xs (nI i + 2).toNatClampNeg).toInt64 <<< ((32 : Int32).toInt64 &&& 63)) ||| ((xs (nI i + 3).toNatClampNeg).toInt64 &&& 4294967295)) = v at F hM
  refine k_iW (ws' := WF G cJ xb tx tk pa sl fi mo te re no tr di ke ik ou qs qt pg sg bf tf tc f oh lf ce (u.2.2.1) (u.2.2.2.1) (u.2.2.2.2.1) (u.2.2.2.2.2) ff mf tt pr pn pt dd kk ki (vp_updL fo 0 (u.2.1).toInt64) ++ pw G Q C (List.range 16)) (as := [ou, xb, qs.1, qs.2.1, qs.2.2.1, qs.2.2.2, qt.1, qt.2.1, qt.2.2.1, qt.2.2.2]) cx hP hD hS [22, 0, 3, 4, 5, 6, 7, 8, 9, 10] rfl (kr_SL (n := 4) (As := [.ref xb, .int (xs (nI i + 1).toNatClampNeg), .long (((xs (nI i + 2).toNatClampNeg).toInt64 <<< ((32 : Int32).toInt64 &&& 63)) ||| ((xs (nI i + 3).toNatClampNeg).toInt64 &&& 4294967295)), .ref ou]) cx hKJ hE hN hZ hS hC gL_law_L_runScript rfl rfl rfl (by decide +kernel) ⟨Nat.le_of_ble_eq_true rfl, Nat.le_of_ble_eq_true rfl⟩ hP hD [22, 0, 3, 4, 5, 6, 7, 8, 9, 10] rfl rfl rfl rfl hl (Nat.le_of_ble_eq_true rfl) dL_law_1327 hcs) ⟨rfl, rfl⟩ rfl rfl (fun H locs wx hwx hP hD hS => ?_)
  have key : ∃ (fo' : Nat → Int64) (ft' : Nat → Int32) (oht' : Nat → Int32) (lft' : Nat → Int32) (cet' : Nat → Int32), (hm 1 u.1 = 0 → fo' 0 = (v.1).toInt64) ∧ (v.2.1) 0 = hm 1 u.1 ∧ INV bf tf tc f oh lf ce ff C (v.2.1) tt pn dd kk ki ∧ wx = WF G cJ xb tx tk pa sl fi mo te re no tr di ke ik ou qs qt pg sg bf tf tc f oh lf ce ft' oht' lft' cet' ff mf tt pr pn pt dd kk ki fo' ++ pw G Q C (List.range 16) := by
    obtain ⟨F1, F2, F3⟩ := F
    have F0 : (v.2.1) 0 = hm 1 u.1 := congrFun F2 0
    have FI : INV bf tf tc f oh lf ce ff C (v.2.1) tt pn dd kk ki := inv_mf I (congrFun F2 2) (congrFun F2 8)
    rcases hwx with ⟨h0, rfl⟩ | ⟨h0, rfl⟩
    · exact ⟨_, _, _, _, _, fun _ => congrArg Int32.toInt64 (F3 h0), F0, FI, rfl⟩
    · exact ⟨fo, ft, oht, lft, cet, fun q => absurd (hm_z q) h0, F0, FI, rfl⟩
  obtain ⟨fo', ft', oht', lft', cet', hfo, hmk, I', ewx⟩ := key
  subst ewx
  obtain ⟨k5, ek5⟩ : ∃ k5, k5 = hm 1 u.1 := ⟨_, rfl⟩
  rw [← ek5] at hfo hmk ⊢
  refine lv_istore (lv' := [(5, .int k5), (0, .ref b), (1, .ref xb), (2, .ref mo), (3, .ref ou), (4, .int (nI i))]) hx hb dL_law_1330 hl (by decide) rfl (fun ls hl => ?_)
  refine lv_aload_n hx hb dL_law_1332 rfl (lv_at hl 3 rfl) ?_
  refine lv_aload_n hx hb dL_law_1333 rfl (lv_at hl 1 rfl) ?_
  refine lv_iload hx hb dL_law_1334 (lv_at hl 5 rfl) ?_
  refine lv_iconst (v := 1) hx hb dL_law_1336 (by decide) ?_
  refine lv_iadd hx hb dL_law_1337 ?_
  refine va_sld hx hb hX hbl hbA hS (lx_in (j := 1) hi hL (by decide)) dL_law_1338 ?_
  refine lv_aload_n hx hb dL_law_1339 rfl (lv_at hl 1 rfl) ?_
  refine lv_iload hx hb dL_law_1340 (lv_at hl 5 rfl) ?_
  refine lv_iconst (v := 2) hx hb dL_law_1342 (by decide) ?_
  refine lv_iadd hx hb dL_law_1343 ?_
  refine va_sld hx hb hX hbl hbA hS (lx_in (j := 2) hi hL (by decide)) dL_law_1344 ?_
  refine lv_i2l hx hb dL_law_1345 rfl ?_
  refine lv_bipush (v := 32) hx hb dL_law_1346 (by decide) ?_
  refine lv_lshl hx hb dL_law_1348 rfl ?_
  refine lv_aload_n hx hb dL_law_1349 rfl (lv_at hl 1 rfl) ?_
  refine lv_iload hx hb dL_law_1350 (lv_at hl 5 rfl) ?_
  refine lv_iconst (v := 3) hx hb dL_law_1352 (by decide) ?_
  refine lv_iadd hx hb dL_law_1353 ?_
  refine va_sld hx hb hX hbl hbA hS (lx_in (j := 3) hi hL (by decide)) dL_law_1354 ?_
  refine lv_i2l hx hb dL_law_1355 rfl ?_
  refine k_ldc2 (v := 4294967295) cx (by decide +kernel) dL_law_1356 ?_
  refine lv_land hx hb dL_law_1359 ?_
  refine lv_lor hx hb dL_law_1360 ?_
  refine k_i (ws' := WF G cJ xb tx tk pa sl fi mo te re no tr di ke ik ou qs qt pg sg bf tf tc f oh lf ce ft' oht' lft' cet' ff (v.2.1) tt pr pn (v.2.2) dd kk ki fo' ++ pw G Q C (List.range 16)) (as := [mo, no, tr]) cx hP hD hS [14, 17, 18] rfl (kr_V (n := 2) (As := [.int (xs (nI i + 1).toNatClampNeg), .long (((xs (nI i + 2).toNatClampNeg).toInt64 <<< ((32 : Int32).toInt64 &&& 63)) ||| ((xs (nI i + 3).toNatClampNeg).toInt64 &&& 4294967295))]) (ci := 4) cx hM gL_law_X4_runScript rfl rfl rfl (by decide +kernel) ⟨Nat.le_of_ble_eq_true rfl, Nat.le_of_ble_eq_true rfl⟩ rfl rfl rfl hP hD [14, 17, 18] rfl rfl rfl rfl hl (Nat.le_of_ble_eq_true rfl) dL_law_1361 hcs) ⟨rfl, rfl⟩ rfl (fun H locs hP hD hS => ?_)
  refine lv_istore (lv' := [(6, .int (v.1)), (5, .int k5), (0, .ref b), (1, .ref xb), (2, .ref mo), (3, .ref ou), (4, .int (nI i))]) hx hb dL_law_1364 hl (by decide) rfl (fun ls hl => ?_)
  exact law_tail X hcs I' hmk hfo hP hD hS hl dL_law_1366 dL_law_1367 dL_law_1370 dL_law_1372 dL_law_1377 dL_law_1379 dL_law_1382 dL_law_1383 dL_law_1384 dL_law_1385 dL_law_1387 dL_law_1388 dL_law_1389 dL_law_1394 (by decide) kn
set_option maxRecDepth 100000 in
set_option maxHeartbeats 8000000 in
theorem lc_simulate (X : LX p l s m meth c G cJ b L xs) (HQ : PQ Q pg sg) (hcs : cells + 1 ≤ 601024 ∧ slots + 6 ≤ 7293034) (hi : i + 4 ≤ L) (hL : L ≤ 2048) (kn : NX p l e s m below meth c b G cJ xb tx tk pa sl fi mo te re no tr di ke ik ou qs qt pg sg Q i (cells + 1) (slots + 6)) (I : INV bf tf tc f oh lf ce ff C mf tt pn dd kk ki) (hP : va_P G.1 vwCl (WF G cJ xb tx tk pa sl fi mo te re no tr di ke ik ou qs qt pg sg bf tf tc f oh lf ce ft oht lft cet ff mf tt pr pn pt dd kk ki fo ++ pw G Q C (List.range 16)) H) (hD : va_D (fun q : Nat => s.heap.size ≤ q) (WF G cJ xb tx tk pa sl fi mo te re no tr di ke ik ou qs qt pg sg bf tf tc f oh lf ce ft oht lft cet ff mf tt pr pn pt dd kk ki fo ++ pw G Q C (List.range 16))) (hS : va_S (fun q : Nat => s.heap.size ≤ q) s.heap H locs) (hl : lv_has ls 7 [(0, .ref b), (1, .ref xb), (2, .ref mo), (3, .ref ou), (4, .int (nI i))]) : W p l e room_1 s m #[Value.ref b] below meth c H locs cells slots (lw_Z below #[Value.ref b] s) (F0 m 1397 ls []) := by
  obtain ⟨hlt, cx, hKJ, hE, hN, hZ, hX, hbl⟩ := id X
  obtain ⟨hx, hb, hml, hown, hts, hr, hlocks, hK, hA⟩ := id cx
  have hbA : ¬ (fun q : Nat => s.heap.size ≤ q) b := Nat.not_le.mpr hbl
  refine lv_aload_n hx hb dL_law_1397 rfl (lv_at hl 1 rfl) ?_
  refine lv_aload_n hx hb dL_law_1398 rfl (lv_at hl 0 rfl) ?_
  refine lv_iload hx hb dL_law_1399 (lv_at hl 4 rfl) ?_
  refine lv_iconst (v := 1) hx hb dL_law_1401 (by decide) ?_
  refine lv_iadd hx hb dL_law_1402 ?_
  refine va_sld hx hb hX hbl hbA hS (lx_in (j := 1) hi hL (by decide)) dL_law_1403 ?_
  refine lv_i2l hx hb dL_law_1404 rfl ?_
  refine lv_bipush (v := 32) hx hb dL_law_1405 (by decide) ?_
  refine lv_lshl hx hb dL_law_1407 rfl ?_
  refine lv_aload_n hx hb dL_law_1408 rfl (lv_at hl 0 rfl) ?_
  refine lv_iload hx hb dL_law_1409 (lv_at hl 4 rfl) ?_
  refine lv_iconst (v := 2) hx hb dL_law_1411 (by decide) ?_
  refine lv_iadd hx hb dL_law_1412 ?_
  refine va_sld hx hb hX hbl hbA hS (lx_in (j := 2) hi hL (by decide)) dL_law_1413 ?_
  refine lv_i2l hx hb dL_law_1414 rfl ?_
  refine k_ldc2 (v := 4294967295) cx (by decide +kernel) dL_law_1415 ?_
  refine lv_land hx hb dL_law_1418 ?_
  refine lv_lor hx hb dL_law_1419 ?_
  refine lv_aload_n hx hb dL_law_1420 rfl (lv_at hl 0 rfl) ?_
  refine lv_iload hx hb dL_law_1421 (lv_at hl 4 rfl) ?_
  refine lv_iconst (v := 3) hx hb dL_law_1423 (by decide) ?_
  refine lv_iadd hx hb dL_law_1424 ?_
  refine va_sld hx hb hX hbl hbA hS (lx_in (j := 3) hi hL (by decide)) dL_law_1425 ?_
  have F := q_simulate I.2.1 bf mf ft oht lft cet pt (((xs (nI i + 1).toNatClampNeg).toInt64 <<< ((32 : Int32).toInt64 &&& 63)) ||| ((xs (nI i + 2).toNatClampNeg).toInt64 &&& 4294967295)) (xs (nI i + 3).toNatClampNeg)
  refine lv_aload_n hx hb dL_law_1426 rfl (lv_at hl 3 rfl) ?_
  have hC := c_L_simulate l hlt G cJ ou fo xb tx qs.1 qt.1 pa sl fi qs.2.1 qs.2.2.1 qs.2.2.2 qt.2.1 qt.2.2.1 qt.2.2.2 bf f oh lf ce ft oht lft cet (((xs (nI i + 1).toNatClampNeg).toInt64 <<< ((32 : Int32).toInt64 &&& 63)) ||| ((xs (nI i + 2).toNatClampNeg).toInt64 &&& 4294967295)) (xs (nI i + 3).toNatClampNeg) I.2.1.stk F.1
  have hM := c_X4_simulate l G mo te re no tr di ke ik mf pn pt (((xs (nI i + 1).toNatClampNeg).toInt64 <<< ((32 : Int32).toInt64 &&& 63)) ||| ((xs (nI i + 2).toNatClampNeg).toInt64 &&& 4294967295)) (xs (nI i + 3).toNatClampNeg) I.2.1.pv
  generalize P_X3_simulate bf f oh lf ce ft oht lft cet (((xs (nI i + 1).toNatClampNeg).toInt64 <<< ((32 : Int32).toInt64 &&& 63)) ||| ((xs (nI i + 2).toNatClampNeg).toInt64 &&& 4294967295)) (xs (nI i + 3).toNatClampNeg) = u at F hC
  generalize P_X4_simulate mf pn pt (((xs (nI i + 1).toNatClampNeg).toInt64 <<< ((32 : Int32).toInt64 &&& 63)) ||| ((xs (nI i + 2).toNatClampNeg).toInt64 &&& 4294967295)) (xs (nI i + 3).toNatClampNeg) = v at F hM
  refine k_iW (ws' := WF G cJ xb tx tk pa sl fi mo te re no tr di ke ik ou qs qt pg sg bf tf tc f oh lf ce (u.2.2.1) (u.2.2.2.1) (u.2.2.2.2.1) (u.2.2.2.2.2) ff mf tt pr pn pt dd kk ki (vp_updL fo 0 (u.2.1).toInt64) ++ pw G Q C (List.range 16)) (as := [ou, xb, qs.1, qs.2.1, qs.2.2.1, qs.2.2.2, qt.1, qt.2.1, qt.2.2.1, qt.2.2.2]) cx hP hD hS [22, 0, 3, 4, 5, 6, 7, 8, 9, 10] rfl (kr_SL (n := 4) (As := [.ref xb, .long (((xs (nI i + 1).toNatClampNeg).toInt64 <<< ((32 : Int32).toInt64 &&& 63)) ||| ((xs (nI i + 2).toNatClampNeg).toInt64 &&& 4294967295)), .int (xs (nI i + 3).toNatClampNeg), .ref ou]) cx hKJ hE hN hZ hS hC gL_law_L_simulate rfl rfl rfl (by decide +kernel) ⟨Nat.le_of_ble_eq_true rfl, Nat.le_of_ble_eq_true rfl⟩ hP hD [22, 0, 3, 4, 5, 6, 7, 8, 9, 10] rfl rfl rfl rfl hl (Nat.le_of_ble_eq_true rfl) dL_law_1427 hcs) ⟨rfl, rfl⟩ rfl rfl (fun H locs wx hwx hP hD hS => ?_)
  have key : ∃ (fo' : Nat → Int64) (ft' : Nat → Int32) (oht' : Nat → Int32) (lft' : Nat → Int32) (cet' : Nat → Int32), (hm 1 u.1 = 0 → fo' 0 = (v.1).toInt64) ∧ (v.2.1) 0 = hm 1 u.1 ∧ INV bf tf tc f oh lf ce ff C (v.2.1) tt pn dd kk ki ∧ wx = WF G cJ xb tx tk pa sl fi mo te re no tr di ke ik ou qs qt pg sg bf tf tc f oh lf ce ft' oht' lft' cet' ff mf tt pr pn pt dd kk ki fo' ++ pw G Q C (List.range 16) := by
    obtain ⟨F1, F2, F3⟩ := F
    have F0 : (v.2.1) 0 = hm 1 u.1 := congrFun F2 0
    have FI : INV bf tf tc f oh lf ce ff C (v.2.1) tt pn dd kk ki := inv_mf I (congrFun F2 2) (congrFun F2 8)
    rcases hwx with ⟨h0, rfl⟩ | ⟨h0, rfl⟩
    · exact ⟨_, _, _, _, _, fun _ => congrArg Int32.toInt64 (F3 h0), F0, FI, rfl⟩
    · exact ⟨fo, ft, oht, lft, cet, fun q => absurd (hm_z q) h0, F0, FI, rfl⟩
  obtain ⟨fo', ft', oht', lft', cet', hfo, hmk, I', ewx⟩ := key
  subst ewx
  obtain ⟨k5, ek5⟩ : ∃ k5, k5 = hm 1 u.1 := ⟨_, rfl⟩
  rw [← ek5] at hfo hmk ⊢
  refine lv_istore (lv' := [(5, .int k5), (0, .ref b), (1, .ref xb), (2, .ref mo), (3, .ref ou), (4, .int (nI i))]) hx hb dL_law_1430 hl (by decide) rfl (fun ls hl => ?_)
  refine lv_aload_n hx hb dL_law_1432 rfl (lv_at hl 3 rfl) ?_
  refine lv_aload_n hx hb dL_law_1433 rfl (lv_at hl 1 rfl) ?_
  refine lv_iload hx hb dL_law_1434 (lv_at hl 5 rfl) ?_
  refine lv_iconst (v := 1) hx hb dL_law_1436 (by decide) ?_
  refine lv_iadd hx hb dL_law_1437 ?_
  refine va_sld hx hb hX hbl hbA hS (lx_in (j := 1) hi hL (by decide)) dL_law_1438 ?_
  refine lv_i2l hx hb dL_law_1439 rfl ?_
  refine lv_bipush (v := 32) hx hb dL_law_1440 (by decide) ?_
  refine lv_lshl hx hb dL_law_1442 rfl ?_
  refine lv_aload_n hx hb dL_law_1443 rfl (lv_at hl 1 rfl) ?_
  refine lv_iload hx hb dL_law_1444 (lv_at hl 5 rfl) ?_
  refine lv_iconst (v := 2) hx hb dL_law_1446 (by decide) ?_
  refine lv_iadd hx hb dL_law_1447 ?_
  refine va_sld hx hb hX hbl hbA hS (lx_in (j := 2) hi hL (by decide)) dL_law_1448 ?_
  refine lv_i2l hx hb dL_law_1449 rfl ?_
  refine k_ldc2 (v := 4294967295) cx (by decide +kernel) dL_law_1450 ?_
  refine lv_land hx hb dL_law_1453 ?_
  refine lv_lor hx hb dL_law_1454 ?_
  refine lv_aload_n hx hb dL_law_1455 rfl (lv_at hl 1 rfl) ?_
  refine lv_iload hx hb dL_law_1456 (lv_at hl 5 rfl) ?_
  refine lv_iconst (v := 3) hx hb dL_law_1458 (by decide) ?_
  refine lv_iadd hx hb dL_law_1459 ?_
  refine va_sld hx hb hX hbl hbA hS (lx_in (j := 3) hi hL (by decide)) dL_law_1460 ?_
  refine k_i (ws' := WF G cJ xb tx tk pa sl fi mo te re no tr di ke ik ou qs qt pg sg bf tf tc f oh lf ce ft' oht' lft' cet' ff (v.2.1) tt pr pn (v.2.2) dd kk ki fo' ++ pw G Q C (List.range 16)) (as := [mo, no, tr]) cx hP hD hS [14, 17, 18] rfl (kr_V (n := 2) (As := [.long (((xs (nI i + 1).toNatClampNeg).toInt64 <<< ((32 : Int32).toInt64 &&& 63)) ||| ((xs (nI i + 2).toNatClampNeg).toInt64 &&& 4294967295)), .int (xs (nI i + 3).toNatClampNeg)]) (ci := 4) cx hM gL_law_X4_simulate rfl rfl rfl (by decide +kernel) ⟨Nat.le_of_ble_eq_true rfl, Nat.le_of_ble_eq_true rfl⟩ rfl rfl rfl hP hD [14, 17, 18] rfl rfl rfl rfl hl (Nat.le_of_ble_eq_true rfl) dL_law_1461 hcs) ⟨rfl, rfl⟩ rfl (fun H locs hP hD hS => ?_)
  refine lv_istore (lv' := [(6, .int (v.1)), (5, .int k5), (0, .ref b), (1, .ref xb), (2, .ref mo), (3, .ref ou), (4, .int (nI i))]) hx hb dL_law_1464 hl (by decide) rfl (fun ls hl => ?_)
  exact law_tail X hcs I' hmk hfo hP hD hS hl dL_law_1466 dL_law_1467 dL_law_1470 dL_law_1472 dL_law_1477 dL_law_1479 dL_law_1482 dL_law_1483 dL_law_1484 dL_law_1485 dL_law_1487 dL_law_1488 dL_law_1489 dL_law_1494 (by decide) kn
end LC
