/-! the law's cases: bestR, bestArms, offsetAfter, waitFor -/
section LC
variable {p : Program} {l : Launch} {e : Env} {s : State} {m : MethodId} {below : List Frame} {meth : Method} {c : Code} {b L : Nat} {xs : Nat → Int32} {G : gG} {cJ : ClassId}
variable {xb tx tk pa sl fi mo te re no tr di ke ik ou : Nat} {qs qt : qd} {pg sg : Nat → Option Nat} {Q : Nat → qd} {i cells slots : Nat}
variable {bf tf tc f oh lf ce ft oht lft cet ff mf tt pr pn pt dd kk ki : Nat → Int32} {fo : Nat → Int64} {C : Nat → ct4} {H : Heap} {locs : List Loc} {ls : Array Slot}
set_option maxRecDepth 100000 in
set_option maxHeartbeats 8000000 in
theorem lc_bestR (X : LX p l s m meth c G cJ b L xs) (HQ : PQ Q pg sg) (hcs : cells + 1 ≤ 601024 ∧ slots + 6 ≤ 7293034) (hi : i + 4 ≤ L) (hL : L ≤ 2048) (kn : NX p l e s m below meth c b G cJ xb tx tk pa sl fi mo te re no tr di ke ik ou qs qt pg sg Q i (cells + 1) (slots + 6)) (I : INV bf tf tc f oh lf ce ff C mf tt pn dd kk ki) (hP : va_P G.1 vwCl (WF G cJ xb tx tk pa sl fi mo te re no tr di ke ik ou qs qt pg sg bf tf tc f oh lf ce ft oht lft cet ff mf tt pr pn pt dd kk ki fo ++ pw G Q C (List.range 16)) H) (hD : va_D (fun q : Nat => s.heap.size ≤ q) (WF G cJ xb tx tk pa sl fi mo te re no tr di ke ik ou qs qt pg sg bf tf tc f oh lf ce ft oht lft cet ff mf tt pr pn pt dd kk ki fo ++ pw G Q C (List.range 16))) (hS : va_S (fun q : Nat => s.heap.size ≤ q) s.heap H locs) (hl : lv_has ls 7 [(0, .ref b), (1, .ref xb), (2, .ref mo), (3, .ref ou), (4, .int (nI i))]) : W p l e room_1 s m #[Value.ref b] below meth c H locs cells slots (lw_Z below #[Value.ref b] s) (F0 m 979 ls []) := by
  obtain ⟨hlt, cx, hKJ, hE, hN, hZ, hX, hbl⟩ := id X
  obtain ⟨hx, hb, hml, hown, hts, hr, hlocks, hK, hA⟩ := id cx
  have hbA : ¬ (fun q : Nat => s.heap.size ≤ q) b := Nat.not_le.mpr hbl
  refine lv_aload_n hx hb dL_law_979 rfl (lv_at hl 1 rfl) ?_
  refine lv_aload_n hx hb dL_law_980 rfl (lv_at hl 0 rfl) ?_
  refine lv_iload hx hb dL_law_981 (lv_at hl 4 rfl) ?_
  refine lv_iconst (v := 1) hx hb dL_law_983 (by decide) ?_
  refine lv_iadd hx hb dL_law_984 ?_
  refine va_sld hx hb hX hbl hbA hS (lx_in (j := 1) hi hL (by decide)) dL_law_985 ?_
  have F := q_bestR I.2.1 bf mf (xs (nI i + 1).toNatClampNeg)
  refine lv_aload_n hx hb dL_law_986 rfl (lv_at hl 3 rfl) ?_
  have hC := c_L_bestR l hlt G cJ ou fo xb tx qs.1 qt.1 pa sl fi qs.2.1 qs.2.2.1 bf f oh (xs (nI i + 1).toNatClampNeg) F.1
  have hM := c_X4_bestR l G mo te re no tr di ke ik mf pn (xs (nI i + 1).toNatClampNeg) I.2.1.pv
  generalize P_X3_bestR bf f oh (xs (nI i + 1).toNatClampNeg) = u at F hC
  generalize P_X4_bestR mf pn (xs (nI i + 1).toNatClampNeg) = v at F hM
  refine k_iW (ws' := WF G cJ xb tx tk pa sl fi mo te re no tr di ke ik ou qs qt pg sg bf tf tc f oh lf ce ft oht lft cet ff mf tt pr pn pt dd kk ki (vp_updL fo 0 (u.2).toInt64) ++ pw G Q C (List.range 16)) (as := [ou, xb, qs.1, qs.2.1]) cx hP hD hS [22, 0, 3, 4] rfl (kr_SL (n := 3) (As := [.ref xb, .int (xs (nI i + 1).toNatClampNeg), .ref ou]) cx hKJ hE hN hZ hS hC gL_law_L_bestR rfl rfl rfl (by decide +kernel) ⟨Nat.le_of_ble_eq_true rfl, Nat.le_of_ble_eq_true rfl⟩ hP hD [22, 0, 3, 4] rfl rfl rfl rfl hl (Nat.le_of_ble_eq_true rfl) dL_law_987 hcs) ⟨rfl, rfl⟩ rfl rfl (fun H locs wx hwx hP hD hS => ?_)
  have key : ∃ (fo' : Nat → Int64), (hm 3 u.1 = 0 → fo' 0 = (v.1).toInt64) ∧ (v.2) 0 = hm 3 u.1 ∧ INV bf tf tc f oh lf ce ff C (v.2) tt pn dd kk ki ∧ wx = WF G cJ xb tx tk pa sl fi mo te re no tr di ke ik ou qs qt pg sg bf tf tc f oh lf ce ft oht lft cet ff mf tt pr pn pt dd kk ki fo' ++ pw G Q C (List.range 16) := by
    obtain ⟨F1, F2, F3⟩ := F
    have F0 : (v.2) 0 = hm 3 u.1 := congrFun F2 0
    have FI : INV bf tf tc f oh lf ce ff C (v.2) tt pn dd kk ki := inv_mf I (congrFun F2 2) (congrFun F2 8)
    rcases hwx with ⟨h0, rfl⟩ | ⟨h0, rfl⟩
    · exact ⟨_,  fun _ => congrArg Int32.toInt64 (F3 h0), F0, FI, rfl⟩
    · exact ⟨fo,  fun q => absurd (hm_z q) h0, F0, FI, rfl⟩
  obtain ⟨fo',  hfo, hmk, I', ewx⟩ := key
  subst ewx
  obtain ⟨k5, ek5⟩ : ∃ k5, k5 = hm 3 u.1 := ⟨_, rfl⟩
  rw [← ek5] at hfo hmk ⊢
  refine lv_istore (lv' := [(5, .int k5), (0, .ref b), (1, .ref xb), (2, .ref mo), (3, .ref ou), (4, .int (nI i))]) hx hb dL_law_990 hl (by decide) rfl (fun ls hl => ?_)
  refine lv_aload_n hx hb dL_law_992 rfl (lv_at hl 3 rfl) ?_
  refine lv_aload_n hx hb dL_law_993 rfl (lv_at hl 1 rfl) ?_
  refine lv_iload hx hb dL_law_994 (lv_at hl 5 rfl) ?_
  refine lv_iconst (v := 1) hx hb dL_law_996 (by decide) ?_
  refine lv_iadd hx hb dL_law_997 ?_
  refine va_sld hx hb hX hbl hbA hS (lx_in (j := 1) hi hL (by decide)) dL_law_998 ?_
  refine k_i (ws' := WF G cJ xb tx tk pa sl fi mo te re no tr di ke ik ou qs qt pg sg bf tf tc f oh lf ce ft oht lft cet ff (v.2) tt pr pn pt dd kk ki fo' ++ pw G Q C (List.range 16)) (as := [mo, no]) cx hP hD hS [14, 17] rfl (kr_V (n := 1) (As := [.int (xs (nI i + 1).toNatClampNeg)]) (ci := 4) cx hM gL_law_X4_bestR rfl rfl rfl (by decide +kernel) ⟨Nat.le_of_ble_eq_true rfl, Nat.le_of_ble_eq_true rfl⟩ rfl rfl rfl hP hD [14, 17] rfl rfl rfl rfl hl (Nat.le_of_ble_eq_true rfl) dL_law_999 hcs) ⟨rfl, rfl⟩ rfl (fun H locs hP hD hS => ?_)
  refine lv_istore (lv' := [(6, .int (v.1)), (5, .int k5), (0, .ref b), (1, .ref xb), (2, .ref mo), (3, .ref ou), (4, .int (nI i))]) hx hb dL_law_1002 hl (by decide) rfl (fun ls hl => ?_)
  exact law_tail X hcs I' hmk hfo hP hD hS hl dL_law_1004 dL_law_1005 dL_law_1008 dL_law_1010 dL_law_1015 dL_law_1017 dL_law_1020 dL_law_1021 dL_law_1022 dL_law_1023 dL_law_1025 dL_law_1026 dL_law_1027 dL_law_1032 (by decide) kn
set_option maxRecDepth 100000 in
set_option maxHeartbeats 8000000 in
theorem lc_bestArms (X : LX p l s m meth c G cJ b L xs) (HQ : PQ Q pg sg) (hcs : cells + 1 ≤ 601024 ∧ slots + 6 ≤ 7293034) (hi : i + 4 ≤ L) (hL : L ≤ 2048) (kn : NX p l e s m below meth c b G cJ xb tx tk pa sl fi mo te re no tr di ke ik ou qs qt pg sg Q i (cells + 1) (slots + 6)) (I : INV bf tf tc f oh lf ce ff C mf tt pn dd kk ki) (hP : va_P G.1 vwCl (WF G cJ xb tx tk pa sl fi mo te re no tr di ke ik ou qs qt pg sg bf tf tc f oh lf ce ft oht lft cet ff mf tt pr pn pt dd kk ki fo ++ pw G Q C (List.range 16)) H) (hD : va_D (fun q : Nat => s.heap.size ≤ q) (WF G cJ xb tx tk pa sl fi mo te re no tr di ke ik ou qs qt pg sg bf tf tc f oh lf ce ft oht lft cet ff mf tt pr pn pt dd kk ki fo ++ pw G Q C (List.range 16))) (hS : va_S (fun q : Nat => s.heap.size ≤ q) s.heap H locs) (hl : lv_has ls 7 [(0, .ref b), (1, .ref xb), (2, .ref mo), (3, .ref ou), (4, .int (nI i))]) : W p l e room_1 s m #[Value.ref b] below meth c H locs cells slots (lw_Z below #[Value.ref b] s) (F0 m 1035 ls []) := by
  obtain ⟨hlt, cx, hKJ, hE, hN, hZ, hX, hbl⟩ := id X
  obtain ⟨hx, hb, hml, hown, hts, hr, hlocks, hK, hA⟩ := id cx
  have hbA : ¬ (fun q : Nat => s.heap.size ≤ q) b := Nat.not_le.mpr hbl
  refine lv_aload_n hx hb dL_law_1035 rfl (lv_at hl 1 rfl) ?_
  refine lv_aload_n hx hb dL_law_1036 rfl (lv_at hl 0 rfl) ?_
  refine lv_iload hx hb dL_law_1037 (lv_at hl 4 rfl) ?_
  refine lv_iconst (v := 1) hx hb dL_law_1039 (by decide) ?_
  refine lv_iadd hx hb dL_law_1040 ?_
  refine va_sld hx hb hX hbl hbA hS (lx_in (j := 1) hi hL (by decide)) dL_law_1041 ?_
  have F := q_bestArms I.2.1 bf mf (xs (nI i + 1).toNatClampNeg)
  refine lv_aload_n hx hb dL_law_1042 rfl (lv_at hl 3 rfl) ?_
  have hC := c_L_bestArms l hlt G cJ ou fo xb tx qs.1 qt.1 pa sl fi qs.2.1 qs.2.2.1 bf f oh (xs (nI i + 1).toNatClampNeg) F.1
  have hM := c_X4_bestArms l G mo te re no tr di ke ik mf pn (xs (nI i + 1).toNatClampNeg) I.2.1.pv
  generalize P_X3_bestArms bf f oh (xs (nI i + 1).toNatClampNeg) = u at F hC
  generalize P_X4_bestArms mf pn (xs (nI i + 1).toNatClampNeg) = v at F hM
  refine k_iW (ws' := WF G cJ xb tx tk pa sl fi mo te re no tr di ke ik ou qs qt pg sg bf tf tc f oh lf ce ft oht lft cet ff mf tt pr pn pt dd kk ki (vp_updL fo 0 (u.2).toInt64) ++ pw G Q C (List.range 16)) (as := [ou, xb, qs.1, qs.2.1]) cx hP hD hS [22, 0, 3, 4] rfl (kr_SL (n := 3) (As := [.ref xb, .int (xs (nI i + 1).toNatClampNeg), .ref ou]) cx hKJ hE hN hZ hS hC gL_law_L_bestArms rfl rfl rfl (by decide +kernel) ⟨Nat.le_of_ble_eq_true rfl, Nat.le_of_ble_eq_true rfl⟩ hP hD [22, 0, 3, 4] rfl rfl rfl rfl hl (Nat.le_of_ble_eq_true rfl) dL_law_1043 hcs) ⟨rfl, rfl⟩ rfl rfl (fun H locs wx hwx hP hD hS => ?_)
  have key : ∃ (fo' : Nat → Int64), (hm 3 u.1 = 0 → fo' 0 = (v.1).toInt64) ∧ (v.2) 0 = hm 3 u.1 ∧ INV bf tf tc f oh lf ce ff C (v.2) tt pn dd kk ki ∧ wx = WF G cJ xb tx tk pa sl fi mo te re no tr di ke ik ou qs qt pg sg bf tf tc f oh lf ce ft oht lft cet ff mf tt pr pn pt dd kk ki fo' ++ pw G Q C (List.range 16) := by
    obtain ⟨F1, F2, F3⟩ := F
    have F0 : (v.2) 0 = hm 3 u.1 := congrFun F2 0
    have FI : INV bf tf tc f oh lf ce ff C (v.2) tt pn dd kk ki := inv_mf I (congrFun F2 2) (congrFun F2 8)
    rcases hwx with ⟨h0, rfl⟩ | ⟨h0, rfl⟩
    · exact ⟨_,  fun _ => congrArg Int32.toInt64 (F3 h0), F0, FI, rfl⟩
    · exact ⟨fo,  fun q => absurd (hm_z q) h0, F0, FI, rfl⟩
  obtain ⟨fo',  hfo, hmk, I', ewx⟩ := key
  subst ewx
  obtain ⟨k5, ek5⟩ : ∃ k5, k5 = hm 3 u.1 := ⟨_, rfl⟩
  rw [← ek5] at hfo hmk ⊢
  refine lv_istore (lv' := [(5, .int k5), (0, .ref b), (1, .ref xb), (2, .ref mo), (3, .ref ou), (4, .int (nI i))]) hx hb dL_law_1046 hl (by decide) rfl (fun ls hl => ?_)
  refine lv_aload_n hx hb dL_law_1048 rfl (lv_at hl 3 rfl) ?_
  refine lv_aload_n hx hb dL_law_1049 rfl (lv_at hl 1 rfl) ?_
  refine lv_iload hx hb dL_law_1050 (lv_at hl 5 rfl) ?_
  refine lv_iconst (v := 1) hx hb dL_law_1052 (by decide) ?_
  refine lv_iadd hx hb dL_law_1053 ?_
  refine va_sld hx hb hX hbl hbA hS (lx_in (j := 1) hi hL (by decide)) dL_law_1054 ?_
  refine k_i (ws' := WF G cJ xb tx tk pa sl fi mo te re no tr di ke ik ou qs qt pg sg bf tf tc f oh lf ce ft oht lft cet ff (v.2) tt pr pn pt dd kk ki fo' ++ pw G Q C (List.range 16)) (as := [mo, no]) cx hP hD hS [14, 17] rfl (kr_V (n := 1) (As := [.int (xs (nI i + 1).toNatClampNeg)]) (ci := 4) cx hM gL_law_X4_bestArms rfl rfl rfl (by decide +kernel) ⟨Nat.le_of_ble_eq_true rfl, Nat.le_of_ble_eq_true rfl⟩ rfl rfl rfl hP hD [14, 17] rfl rfl rfl rfl hl (Nat.le_of_ble_eq_true rfl) dL_law_1055 hcs) ⟨rfl, rfl⟩ rfl (fun H locs hP hD hS => ?_)
  refine lv_istore (lv' := [(6, .int (v.1)), (5, .int k5), (0, .ref b), (1, .ref xb), (2, .ref mo), (3, .ref ou), (4, .int (nI i))]) hx hb dL_law_1058 hl (by decide) rfl (fun ls hl => ?_)
  exact law_tail X hcs I' hmk hfo hP hD hS hl dL_law_1060 dL_law_1061 dL_law_1064 dL_law_1066 dL_law_1071 dL_law_1073 dL_law_1076 dL_law_1077 dL_law_1078 dL_law_1079 dL_law_1081 dL_law_1082 dL_law_1083 dL_law_1088 (by decide) kn
set_option maxRecDepth 100000 in
set_option maxHeartbeats 8000000 in
theorem lc_offsetAfter (X : LX p l s m meth c G cJ b L xs) (HQ : PQ Q pg sg) (hcs : cells + 1 ≤ 601024 ∧ slots + 6 ≤ 7293034) (hi : i + 4 ≤ L) (hL : L ≤ 2048) (kn : NX p l e s m below meth c b G cJ xb tx tk pa sl fi mo te re no tr di ke ik ou qs qt pg sg Q i (cells + 1) (slots + 6)) (I : INV bf tf tc f oh lf ce ff C mf tt pn dd kk ki) (hP : va_P G.1 vwCl (WF G cJ xb tx tk pa sl fi mo te re no tr di ke ik ou qs qt pg sg bf tf tc f oh lf ce ft oht lft cet ff mf tt pr pn pt dd kk ki fo ++ pw G Q C (List.range 16)) H) (hD : va_D (fun q : Nat => s.heap.size ≤ q) (WF G cJ xb tx tk pa sl fi mo te re no tr di ke ik ou qs qt pg sg bf tf tc f oh lf ce ft oht lft cet ff mf tt pr pn pt dd kk ki fo ++ pw G Q C (List.range 16))) (hS : va_S (fun q : Nat => s.heap.size ≤ q) s.heap H locs) (hl : lv_has ls 7 [(0, .ref b), (1, .ref xb), (2, .ref mo), (3, .ref ou), (4, .int (nI i))]) : W p l e room_1 s m #[Value.ref b] below meth c H locs cells slots (lw_Z below #[Value.ref b] s) (F0 m 1117 ls []) := by
  obtain ⟨hlt, cx, hKJ, hE, hN, hZ, hX, hbl⟩ := id X
  obtain ⟨hx, hb, hml, hown, hts, hr, hlocks, hK, hA⟩ := id cx
  have hbA : ¬ (fun q : Nat => s.heap.size ≤ q) b := Nat.not_le.mpr hbl
  refine lv_aload_n hx hb dL_law_1117 rfl (lv_at hl 1 rfl) ?_
  refine lv_aload_n hx hb dL_law_1118 rfl (lv_at hl 0 rfl) ?_
  refine lv_iload hx hb dL_law_1119 (lv_at hl 4 rfl) ?_
  refine lv_iconst (v := 1) hx hb dL_law_1121 (by decide) ?_
  refine lv_iadd hx hb dL_law_1122 ?_
  refine va_sld hx hb hX hbl hbA hS (lx_in (j := 1) hi hL (by decide)) dL_law_1123 ?_
  refine lv_aload_n hx hb dL_law_1124 rfl (lv_at hl 0 rfl) ?_
  refine lv_iload hx hb dL_law_1125 (lv_at hl 4 rfl) ?_
  refine lv_iconst (v := 2) hx hb dL_law_1127 (by decide) ?_
  refine lv_iadd hx hb dL_law_1128 ?_
  refine va_sld hx hb hX hbl hbA hS (lx_in (j := 2) hi hL (by decide)) dL_law_1129 ?_
  have F := q_offsetAfter I.2.1 bf mf pt (xs (nI i + 1).toNatClampNeg) (xs (nI i + 2).toNatClampNeg)
  refine lv_aload_n hx hb dL_law_1130 rfl (lv_at hl 3 rfl) ?_
  have hC := c_L_offsetAfter l hlt G cJ ou fo xb tx qs.1 qt.1 pa sl fi qs.2.1 qs.2.2.1 bf f (xs (nI i + 1).toNatClampNeg) (xs (nI i + 2).toNatClampNeg) F.1
  have hM := c_X4_offsetAfter l G mo te re no tr di ke ik mf pn pt (xs (nI i + 1).toNatClampNeg) (xs (nI i + 2).toNatClampNeg)
  generalize P_X3_offsetAfter bf f (xs (nI i + 1).toNatClampNeg) (xs (nI i + 2).toNatClampNeg) = u at F hC
  generalize P_X4_offsetAfter mf pn pt (xs (nI i + 1).toNatClampNeg) (xs (nI i + 2).toNatClampNeg) = v at F hM
  refine k_iW (ws' := WF G cJ xb tx tk pa sl fi mo te re no tr di ke ik ou qs qt pg sg bf tf tc f oh lf ce ft oht lft cet ff mf tt pr pn pt dd kk ki (vp_updL fo 0 (u.2).toInt64) ++ pw G Q C (List.range 16)) (as := [ou, xb, qs.1]) cx hP hD hS [22, 0, 3] rfl (kr_SL (n := 4) (As := [.ref xb, .int (xs (nI i + 1).toNatClampNeg), .int (xs (nI i + 2).toNatClampNeg), .ref ou]) cx hKJ hE hN hZ hS hC gL_law_L_offsetAfter rfl rfl rfl (by decide +kernel) ⟨Nat.le_of_ble_eq_true rfl, Nat.le_of_ble_eq_true rfl⟩ hP hD [22, 0, 3] rfl rfl rfl rfl hl (Nat.le_of_ble_eq_true rfl) dL_law_1131 hcs) ⟨rfl, rfl⟩ rfl rfl (fun H locs wx hwx hP hD hS => ?_)
  have key : ∃ (fo' : Nat → Int64), (hm 1 u.1 = 0 → fo' 0 = (v.1).toInt64) ∧ (v.2.1) 0 = hm 1 u.1 ∧ INV bf tf tc f oh lf ce ff C (v.2.1) tt pn dd kk ki ∧ wx = WF G cJ xb tx tk pa sl fi mo te re no tr di ke ik ou qs qt pg sg bf tf tc f oh lf ce ft oht lft cet ff mf tt pr pn pt dd kk ki fo' ++ pw G Q C (List.range 16) := by
    obtain ⟨F1, F2, F3⟩ := F
    have F0 : (v.2.1) 0 = hm 1 u.1 := congrFun F2 0
    have FI : INV bf tf tc f oh lf ce ff C (v.2.1) tt pn dd kk ki := inv_mf I (congrFun F2 2) (congrFun F2 8)
    rcases hwx with ⟨h0, rfl⟩ | ⟨h0, rfl⟩
    · exact ⟨_,  fun _ => congrArg Int32.toInt64 (F3 h0), F0, FI, rfl⟩
    · exact ⟨fo,  fun q => absurd (hm_z q) h0, F0, FI, rfl⟩
  obtain ⟨fo',  hfo, hmk, I', ewx⟩ := key
  subst ewx
  obtain ⟨k5, ek5⟩ : ∃ k5, k5 = hm 1 u.1 := ⟨_, rfl⟩
  rw [← ek5] at hfo hmk ⊢
  refine lv_istore (lv' := [(5, .int k5), (0, .ref b), (1, .ref xb), (2, .ref mo), (3, .ref ou), (4, .int (nI i))]) hx hb dL_law_1134 hl (by decide) rfl (fun ls hl => ?_)
  refine lv_aload_n hx hb dL_law_1136 rfl (lv_at hl 3 rfl) ?_
  refine lv_aload_n hx hb dL_law_1137 rfl (lv_at hl 1 rfl) ?_
  refine lv_iload hx hb dL_law_1138 (lv_at hl 5 rfl) ?_
  refine lv_iconst (v := 1) hx hb dL_law_1140 (by decide) ?_
  refine lv_iadd hx hb dL_law_1141 ?_
  refine va_sld hx hb hX hbl hbA hS (lx_in (j := 1) hi hL (by decide)) dL_law_1142 ?_
  refine lv_aload_n hx hb dL_law_1143 rfl (lv_at hl 1 rfl) ?_
  refine lv_iload hx hb dL_law_1144 (lv_at hl 5 rfl) ?_
  refine lv_iconst (v := 2) hx hb dL_law_1146 (by decide) ?_
  refine lv_iadd hx hb dL_law_1147 ?_
  refine va_sld hx hb hX hbl hbA hS (lx_in (j := 2) hi hL (by decide)) dL_law_1148 ?_
  refine k_i (ws' := WF G cJ xb tx tk pa sl fi mo te re no tr di ke ik ou qs qt pg sg bf tf tc f oh lf ce ft oht lft cet ff (v.2.1) tt pr pn (v.2.2) dd kk ki fo' ++ pw G Q C (List.range 16)) (as := [mo, no, tr]) cx hP hD hS [14, 17, 18] rfl (kr_V (n := 2) (As := [.int (xs (nI i + 1).toNatClampNeg), .int (xs (nI i + 2).toNatClampNeg)]) (ci := 4) cx hM gL_law_X4_offsetAfter rfl rfl rfl (by decide +kernel) ⟨Nat.le_of_ble_eq_true rfl, Nat.le_of_ble_eq_true rfl⟩ rfl rfl rfl hP hD [14, 17, 18] rfl rfl rfl rfl hl (Nat.le_of_ble_eq_true rfl) dL_law_1149 hcs) ⟨rfl, rfl⟩ rfl (fun H locs hP hD hS => ?_)
  refine lv_istore (lv' := [(6, .int (v.1)), (5, .int k5), (0, .ref b), (1, .ref xb), (2, .ref mo), (3, .ref ou), (4, .int (nI i))]) hx hb dL_law_1152 hl (by decide) rfl (fun ls hl => ?_)
  exact law_tail X hcs I' hmk hfo hP hD hS hl dL_law_1154 dL_law_1155 dL_law_1158 dL_law_1160 dL_law_1165 dL_law_1167 dL_law_1170 dL_law_1171 dL_law_1172 dL_law_1173 dL_law_1175 dL_law_1176 dL_law_1177 dL_law_1182 (by decide) kn
set_option maxRecDepth 100000 in
set_option maxHeartbeats 8000000 in
theorem lc_waitFor (X : LX p l s m meth c G cJ b L xs) (HQ : PQ Q pg sg) (hcs : cells + 1 ≤ 601024 ∧ slots + 6 ≤ 7293034) (hi : i + 4 ≤ L) (hL : L ≤ 2048) (kn : NX p l e s m below meth c b G cJ xb tx tk pa sl fi mo te re no tr di ke ik ou qs qt pg sg Q i (cells + 1) (slots + 6)) (I : INV bf tf tc f oh lf ce ff C mf tt pn dd kk ki) (hP : va_P G.1 vwCl (WF G cJ xb tx tk pa sl fi mo te re no tr di ke ik ou qs qt pg sg bf tf tc f oh lf ce ft oht lft cet ff mf tt pr pn pt dd kk ki fo ++ pw G Q C (List.range 16)) H) (hD : va_D (fun q : Nat => s.heap.size ≤ q) (WF G cJ xb tx tk pa sl fi mo te re no tr di ke ik ou qs qt pg sg bf tf tc f oh lf ce ft oht lft cet ff mf tt pr pn pt dd kk ki fo ++ pw G Q C (List.range 16))) (hS : va_S (fun q : Nat => s.heap.size ≤ q) s.heap H locs) (hl : lv_has ls 7 [(0, .ref b), (1, .ref xb), (2, .ref mo), (3, .ref ou), (4, .int (nI i))]) : W p l e room_1 s m #[Value.ref b] below meth c H locs cells slots (lw_Z below #[Value.ref b] s) (F0 m 1185 ls []) := by
  obtain ⟨hlt, cx, hKJ, hE, hN, hZ, hX, hbl⟩ := id X
  obtain ⟨hx, hb, hml, hown, hts, hr, hlocks, hK, hA⟩ := id cx
  have hbA : ¬ (fun q : Nat => s.heap.size ≤ q) b := Nat.not_le.mpr hbl
  refine lv_aload_n hx hb dL_law_1185 rfl (lv_at hl 1 rfl) ?_
  refine lv_aload_n hx hb dL_law_1186 rfl (lv_at hl 0 rfl) ?_
  refine lv_iload hx hb dL_law_1187 (lv_at hl 4 rfl) ?_
  refine lv_iconst (v := 1) hx hb dL_law_1189 (by decide) ?_
  refine lv_iadd hx hb dL_law_1190 ?_
  refine va_sld hx hb hX hbl hbA hS (lx_in (j := 1) hi hL (by decide)) dL_law_1191 ?_
  have F := q_waitFor I.2.1 bf mf pt (xs (nI i + 1).toNatClampNeg)
  refine lv_aload_n hx hb dL_law_1192 rfl (lv_at hl 3 rfl) ?_
  have hC := c_L_waitFor l hlt G cJ ou fo xb tx qs.1 qt.1 pa sl fi qs.2.1 qs.2.2.1 bf f (xs (nI i + 1).toNatClampNeg) F.1
  have hM := c_X4_waitFor l G mo te re no tr di ke ik mf pn pt (xs (nI i + 1).toNatClampNeg)
  generalize P_X3_waitFor bf f (xs (nI i + 1).toNatClampNeg) = u at F hC
  generalize P_X4_waitFor mf pn pt (xs (nI i + 1).toNatClampNeg) = v at F hM
  refine k_iW (ws' := WF G cJ xb tx tk pa sl fi mo te re no tr di ke ik ou qs qt pg sg bf tf tc f oh lf ce ft oht lft cet ff mf tt pr pn pt dd kk ki (vp_updL fo 0 (u.2).toInt64) ++ pw G Q C (List.range 16)) (as := [ou, xb, qs.1]) cx hP hD hS [22, 0, 3] rfl (kr_SL (n := 3) (As := [.ref xb, .int (xs (nI i + 1).toNatClampNeg), .ref ou]) cx hKJ hE hN hZ hS hC gL_law_L_waitFor rfl rfl rfl (by decide +kernel) ⟨Nat.le_of_ble_eq_true rfl, Nat.le_of_ble_eq_true rfl⟩ hP hD [22, 0, 3] rfl rfl rfl rfl hl (Nat.le_of_ble_eq_true rfl) dL_law_1193 hcs) ⟨rfl, rfl⟩ rfl rfl (fun H locs wx hwx hP hD hS => ?_)
  have key : ∃ (fo' : Nat → Int64), (hm 1 u.1 = 0 → fo' 0 = (v.1).toInt64) ∧ (v.2.1) 0 = hm 1 u.1 ∧ INV bf tf tc f oh lf ce ff C (v.2.1) tt pn dd kk ki ∧ wx = WF G cJ xb tx tk pa sl fi mo te re no tr di ke ik ou qs qt pg sg bf tf tc f oh lf ce ft oht lft cet ff mf tt pr pn pt dd kk ki fo' ++ pw G Q C (List.range 16) := by
    obtain ⟨F1, F2, F3⟩ := F
    have F0 : (v.2.1) 0 = hm 1 u.1 := congrFun F2 0
    have FI : INV bf tf tc f oh lf ce ff C (v.2.1) tt pn dd kk ki := inv_mf I (congrFun F2 2) (congrFun F2 8)
    rcases hwx with ⟨h0, rfl⟩ | ⟨h0, rfl⟩
    · exact ⟨_,  fun _ => congrArg Int32.toInt64 (F3 h0), F0, FI, rfl⟩
    · exact ⟨fo,  fun q => absurd (hm_z q) h0, F0, FI, rfl⟩
  obtain ⟨fo',  hfo, hmk, I', ewx⟩ := key
  subst ewx
  obtain ⟨k5, ek5⟩ : ∃ k5, k5 = hm 1 u.1 := ⟨_, rfl⟩
  rw [← ek5] at hfo hmk ⊢
  refine lv_istore (lv' := [(5, .int k5), (0, .ref b), (1, .ref xb), (2, .ref mo), (3, .ref ou), (4, .int (nI i))]) hx hb dL_law_1196 hl (by decide) rfl (fun ls hl => ?_)
  refine lv_aload_n hx hb dL_law_1198 rfl (lv_at hl 3 rfl) ?_
  refine lv_aload_n hx hb dL_law_1199 rfl (lv_at hl 1 rfl) ?_
  refine lv_iload hx hb dL_law_1200 (lv_at hl 5 rfl) ?_
  refine lv_iconst (v := 1) hx hb dL_law_1202 (by decide) ?_
  refine lv_iadd hx hb dL_law_1203 ?_
  refine va_sld hx hb hX hbl hbA hS (lx_in (j := 1) hi hL (by decide)) dL_law_1204 ?_
  refine k_i (ws' := WF G cJ xb tx tk pa sl fi mo te re no tr di ke ik ou qs qt pg sg bf tf tc f oh lf ce ft oht lft cet ff (v.2.1) tt pr pn (v.2.2) dd kk ki fo' ++ pw G Q C (List.range 16)) (as := [mo, no, tr]) cx hP hD hS [14, 17, 18] rfl (kr_V (n := 1) (As := [.int (xs (nI i + 1).toNatClampNeg)]) (ci := 4) cx hM gL_law_X4_waitFor rfl rfl rfl (by decide +kernel) ⟨Nat.le_of_ble_eq_true rfl, Nat.le_of_ble_eq_true rfl⟩ rfl rfl rfl hP hD [14, 17, 18] rfl rfl rfl rfl hl (Nat.le_of_ble_eq_true rfl) dL_law_1205 hcs) ⟨rfl, rfl⟩ rfl (fun H locs hP hD hS => ?_)
  refine lv_istore (lv' := [(6, .int (v.1)), (5, .int k5), (0, .ref b), (1, .ref xb), (2, .ref mo), (3, .ref ou), (4, .int (nI i))]) hx hb dL_law_1208 hl (by decide) rfl (fun ls hl => ?_)
  exact law_tail X hcs I' hmk hfo hP hD hS hl dL_law_1210 dL_law_1211 dL_law_1214 dL_law_1216 dL_law_1221 dL_law_1223 dL_law_1226 dL_law_1227 dL_law_1228 dL_law_1229 dL_law_1231 dL_law_1232 dL_law_1233 dL_law_1238 (by decide) kn
end LC
