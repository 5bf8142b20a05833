/-! the law's cases: append, load -/
section LC
variable {p : Program} {l : Launch} {e : Env} {s : State} {m : MethodId} {below : List Frame} {meth : Method} {c : Code} {b L : Nat} {xs : Nat → Int32} {G : gG} {cJ : ClassId}
variable {xb tx tk pa sl fi mo te re no tr di ke ik ou : Nat} {qs qt : qd} {pg sg : Nat → Option Nat} {Q : Nat → qd} {i cells slots : Nat}
variable {bf tf tc f oh lf ce ft oht lft cet ff mf tt pr pn pt dd kk ki : Nat → Int32} {fo : Nat → Int64} {C : Nat → ct4} {H : Heap} {locs : List Loc} {ls : Array Slot}
set_option maxRecDepth 100000 in
set_option maxHeartbeats 8000000 in
theorem lc_append (X : LX p l s m meth c G cJ b L xs) (HQ : PQ Q pg sg) (hcs : cells + 1 ≤ 601024 ∧ slots + 6 ≤ 7293034) (hi : i + 4 ≤ L) (hL : L ≤ 2048) (kn : NX p l e s m below meth c b G cJ xb tx tk pa sl fi mo te re no tr di ke ik ou qs qt pg sg Q i (cells + 1) (slots + 6)) (I : INV bf tf tc f oh lf ce ff C mf tt pn dd kk ki) (hP : va_P G.1 vwCl (WF G cJ xb tx tk pa sl fi mo te re no tr di ke ik ou qs qt pg sg bf tf tc f oh lf ce ft oht lft cet ff mf tt pr pn pt dd kk ki fo ++ pw G Q C (List.range 16)) H) (hD : va_D (fun q : Nat => s.heap.size ≤ q) (WF G cJ xb tx tk pa sl fi mo te re no tr di ke ik ou qs qt pg sg bf tf tc f oh lf ce ft oht lft cet ff mf tt pr pn pt dd kk ki fo ++ pw G Q C (List.range 16))) (hS : va_S (fun q : Nat => s.heap.size ≤ q) s.heap H locs) (hl : lv_has ls 7 [(0, .ref b), (1, .ref xb), (2, .ref mo), (3, .ref ou), (4, .int (nI i))]) : W p l e room_1 s m #[Value.ref b] below meth c H locs cells slots (lw_Z below #[Value.ref b] s) (F0 m 164 ls []) := by
  obtain ⟨hlt, cx, hKJ, hE, hN, hZ, hX, hbl⟩ := id X
  obtain ⟨hx, hb, hml, hown, hts, hr, hlocks, hK, hA⟩ := id cx
  have hbA : ¬ (fun q : Nat => s.heap.size ≤ q) b := Nat.not_le.mpr hbl
  refine lv_aload_n hx hb dL_law_164 rfl (lv_at hl 1 rfl) ?_
  refine lv_aload_n hx hb dL_law_165 rfl (lv_at hl 0 rfl) ?_
  refine lv_iload hx hb dL_law_166 (lv_at hl 4 rfl) ?_
  refine lv_iconst (v := 1) hx hb dL_law_168 (by decide) ?_
  refine lv_iadd hx hb dL_law_169 ?_
  refine va_sld hx hb hX hbl hbA hS (lx_in (j := 1) hi hL (by decide)) dL_law_170 ?_
  have F := q_append I.1 bf (xs (nI i + 1).toNatClampNeg)
  refine lv_aload_n hx hb dL_law_171 rfl (lv_at hl 3 rfl) ?_
  have hC := c_L_append l hlt G cJ ou fo xb tx qs.1 qt.1 pa sl fi tk bf tf tc (xs (nI i + 1).toNatClampNeg) F.1
  have hM := c_X4_append l G mo te re no tr di ke ik mf tt (xs (nI i + 1).toNatClampNeg) I.1.2.1
  generalize P_X3_append bf tf tc (xs (nI i + 1).toNatClampNeg) = u at F hC
  generalize P_X4_append mf tt (xs (nI i + 1).toNatClampNeg) = v at F hM
  refine k_iW (ws' := WF G cJ xb tx tk pa sl fi mo te re no tr di ke ik ou qs qt pg sg bf (u.2.2.1) (u.2.2.2) f oh lf ce ft oht lft cet ff mf tt pr pn pt dd kk ki (vp_updL fo 0 (u.2.1).toInt64) ++ pw G Q C (List.range 16)) (as := [ou, xb, tx, tk]) cx hP hD hS [22, 0, 1, 2] rfl (kr_SL (n := 3) (As := [.ref xb, .int (xs (nI i + 1).toNatClampNeg), .ref ou]) cx hKJ hE hN hZ hS hC gL_law_L_append rfl rfl rfl (by decide +kernel) ⟨Nat.le_of_ble_eq_true rfl, Nat.le_of_ble_eq_true rfl⟩ hP hD [22, 0, 1, 2] rfl rfl rfl rfl hl (Nat.le_of_ble_eq_true rfl) dL_law_172 hcs) ⟨rfl, rfl⟩ rfl rfl (fun H locs wx hwx hP hD hS => ?_)
  have key : ∃ (fo' : Nat → Int64) (tf' : Nat → Int32) (tc' : Nat → Int32), (hm 1 u.1 = 0 → fo' 0 = (v.1).toInt64) ∧ (v.2.1) 0 = hm 1 u.1 ∧ INV bf tf' tc' f oh lf ce ff C (v.2.1) (v.2.2) pn dd kk ki ∧ wx = WF G cJ xb tx tk pa sl fi mo te re no tr di ke ik ou qs qt pg sg bf tf' tc' f oh lf ce ft oht lft cet ff mf tt pr pn pt dd kk ki fo' ++ pw G Q C (List.range 16) := by
    obtain ⟨F1, F2, F3, F4, F5⟩ := F
    have F0 : (v.2.1) 0 = hm 1 u.1 := F3 0 (by decide)
    have F8 : (v.2.1) 8 = mf 8 := F3 8 (by decide)
    rcases hwx with ⟨h0, rfl⟩ | ⟨h0, rfl⟩
    · exact ⟨_, _, _, fun _ => congrArg Int32.toInt64 (F4 h0), F0, ⟨F2, I.2.1, dr_mf I.2.2.1 F8, I.2.2.2⟩, rfl⟩
    · have F5 := F5 h0
      obtain ⟨t, u2⟩ := u
      have F5 : u2 = _ := F5
      subst F5
      exact ⟨fo, _, _, fun q => absurd (hm_z q) h0, F0, ⟨F2, I.2.1, dr_mf I.2.2.1 F8, I.2.2.2⟩, rfl⟩
  obtain ⟨fo', tf', tc', hfo, hmk, I', ewx⟩ := key
  subst ewx
  obtain ⟨k5, ek5⟩ : ∃ k5, k5 = hm 1 u.1 := ⟨_, rfl⟩
  rw [← ek5] at hfo hmk ⊢
  refine lv_istore (lv' := [(5, .int k5), (0, .ref b), (1, .ref xb), (2, .ref mo), (3, .ref ou), (4, .int (nI i))]) hx hb dL_law_175 hl (by decide) rfl (fun ls hl => ?_)
  refine lv_aload_n hx hb dL_law_177 rfl (lv_at hl 3 rfl) ?_
  refine lv_aload_n hx hb dL_law_178 rfl (lv_at hl 1 rfl) ?_
  refine lv_iload hx hb dL_law_179 (lv_at hl 5 rfl) ?_
  refine lv_iconst (v := 1) hx hb dL_law_181 (by decide) ?_
  refine lv_iadd hx hb dL_law_182 ?_
  refine va_sld hx hb hX hbl hbA hS (lx_in (j := 1) hi hL (by decide)) dL_law_183 ?_
  refine k_i (ws' := WF G cJ xb tx tk pa sl fi mo te re no tr di ke ik ou qs qt pg sg bf tf' tc' f oh lf ce ft oht lft cet ff (v.2.1) (v.2.2) pr pn pt dd kk ki fo' ++ pw G Q C (List.range 16)) (as := [mo, te]) cx hP hD hS [14, 15] rfl (kr_V (n := 1) (As := [.int (xs (nI i + 1).toNatClampNeg)]) (ci := 4) cx hM gL_law_X4_append rfl rfl rfl (by decide +kernel) ⟨Nat.le_of_ble_eq_true rfl, Nat.le_of_ble_eq_true rfl⟩ rfl rfl rfl hP hD [14, 15] rfl rfl rfl rfl hl (Nat.le_of_ble_eq_true rfl) dL_law_184 hcs) ⟨rfl, rfl⟩ rfl (fun H locs hP hD hS => ?_)
  refine lv_istore (lv' := [(6, .int (v.1)), (5, .int k5), (0, .ref b), (1, .ref xb), (2, .ref mo), (3, .ref ou), (4, .int (nI i))]) hx hb dL_law_187 hl (by decide) rfl (fun ls hl => ?_)
  exact law_tail X hcs I' hmk hfo hP hD hS hl dL_law_189 dL_law_190 dL_law_193 dL_law_195 dL_law_200 dL_law_202 dL_law_205 dL_law_206 dL_law_207 dL_law_208 dL_law_210 dL_law_211 dL_law_212 dL_law_217 (by decide) kn
set_option maxRecDepth 100000 in
set_option maxHeartbeats 8000000 in
theorem lc_load (X : LX p l s m meth c G cJ b L xs) (HQ : PQ Q pg sg) (hcs : cells + 1 ≤ 601024 ∧ slots + 6 ≤ 7293034) (hi : i + 4 ≤ L) (hL : L ≤ 2048) (kn : NX p l e s m below meth c b G cJ xb tx tk pa sl fi mo te re no tr di ke ik ou qs qt pg sg Q i (cells + 1) (slots + 6)) (I : INV bf tf tc f oh lf ce ff C mf tt pn dd kk ki) (hP : va_P G.1 vwCl (WF G cJ xb tx tk pa sl fi mo te re no tr di ke ik ou qs qt pg sg bf tf tc f oh lf ce ft oht lft cet ff mf tt pr pn pt dd kk ki fo ++ pw G Q C (List.range 16)) H) (hD : va_D (fun q : Nat => s.heap.size ≤ q) (WF G cJ xb tx tk pa sl fi mo te re no tr di ke ik ou qs qt pg sg bf tf tc f oh lf ce ft oht lft cet ff mf tt pr pn pt dd kk ki fo ++ pw G Q C (List.range 16))) (hS : va_S (fun q : Nat => s.heap.size ≤ q) s.heap H locs) (hl : lv_has ls 7 [(0, .ref b), (1, .ref xb), (2, .ref mo), (3, .ref ou), (4, .int (nI i))]) : W p l e room_1 s m #[Value.ref b] below meth c H locs cells slots (lw_Z below #[Value.ref b] s) (F0 m 246 ls []) := by
  obtain ⟨hlt, cx, hKJ, hE, hN, hZ, hX, hbl⟩ := id X
  obtain ⟨hx, hb, hml, hown, hts, hr, hlocks, hK, hA⟩ := id cx
  have hbA : ¬ (fun q : Nat => s.heap.size ≤ q) b := Nat.not_le.mpr hbl
  refine lv_aload_n hx hb dL_law_246 rfl (lv_at hl 1 rfl) ?_
  have F := a_load I pr 
  refine lv_aload_n hx hb dL_law_247 rfl (lv_at hl 3 rfl) ?_
  have hC := c_L_load l hlt G cJ ou fo xb tx qs.1 qt.1 pa sl fi tk qs.2.1 qs.2.2.1 qs.2.2.2 bf tf tc f oh lf ce ff I.1.ch F.1
  have hM := c_X4_load l G mo te re no tr di ke ik mf pr pn tt ki I.1.2.1
  generalize P_X3_load bf tf tc f oh lf ce ff = u at F hC
  generalize P_X4_load mf pr pn tt ki = v at F hM
  refine k_iW (ws' := WF G cJ xb tx tk pa sl fi mo te re no tr di ke ik ou qs qt pg sg (u.2.2.1) tf tc (u.2.2.2.1) (u.2.2.2.2.1) (u.2.2.2.2.2.1) ce ft oht lft cet (u.2.2.2.2.2.2) mf tt pr pn pt dd kk ki (vp_updL fo 0 (u.2.1).toInt64) ++ pw G Q C (List.range 16)) (as := [ou, xb, tx, tk, qs.1, qs.2.1, qs.2.2.1, qs.2.2.2, fi]) cx hP hD hS [22, 0, 1, 2, 3, 4, 5, 6, 13] rfl (kr_SL (n := 2) (As := [.ref xb, .ref ou]) cx hKJ hE hN hZ hS hC gL_law_L_load rfl rfl rfl (by decide +kernel) ⟨Nat.le_of_ble_eq_true rfl, Nat.le_of_ble_eq_true rfl⟩ hP hD [22, 0, 1, 2, 3, 4, 5, 6, 13] rfl rfl rfl rfl hl (Nat.le_of_ble_eq_true rfl) dL_law_248 hcs) ⟨rfl, rfl⟩ rfl rfl (fun H locs wx hwx hP hD hS => ?_)
  have key : ∃ (fo' : Nat → Int64) (bf' : Nat → Int32) (f' : Nat → Int32) (oh' : Nat → Int32) (lf' : Nat → Int32) (ff' : Nat → Int32), (hm 2 u.1 = 0 → fo' 0 = (v.1).toInt64) ∧ (v.2.1) 0 = hm 2 u.1 ∧ INV bf' tf tc f' oh' lf' ce ff' C (v.2.1) tt (v.2.2.2.1) dd kk (v.2.2.2.2) ∧ wx = WF G cJ xb tx tk pa sl fi mo te re no tr di ke ik ou qs qt pg sg bf' tf tc f' oh' lf' ce ft oht lft cet ff' mf tt pr pn pt dd kk ki fo' ++ pw G Q C (List.range 16) := by
    obtain ⟨F1, F0, F3, F4, F5⟩ := F
    rcases hwx with ⟨h0, rfl⟩ | ⟨h0, rfl⟩
    · exact ⟨_, _, _, _, _, _, fun _ => congrArg Int32.toInt64 (F3 h0), F0, F5, rfl⟩
    · have F4 := F4 h0
      obtain ⟨t, u2⟩ := u
      have F4 : u2 = _ := F4
      subst F4
      exact ⟨fo, _, _, _, _, _, fun q => absurd (hm_z q) h0, F0, F5, rfl⟩
  obtain ⟨fo', bf', f', oh', lf', ff', hfo, hmk, I', ewx⟩ := key
  subst ewx
  obtain ⟨k5, ek5⟩ : ∃ k5, k5 = hm 2 u.1 := ⟨_, rfl⟩
  rw [← ek5] at hfo hmk ⊢
  refine lv_istore (lv' := [(5, .int k5), (0, .ref b), (1, .ref xb), (2, .ref mo), (3, .ref ou), (4, .int (nI i))]) hx hb dL_law_251 hl (by decide) rfl (fun ls hl => ?_)
  refine lv_aload_n hx hb dL_law_253 rfl (lv_at hl 3 rfl) ?_
  refine k_i (ws' := WF G cJ xb tx tk pa sl fi mo te re no tr di ke ik ou qs qt pg sg bf' tf tc f' oh' lf' ce ft oht lft cet ff' (v.2.1) tt (v.2.2.1) (v.2.2.2.1) pt dd kk (v.2.2.2.2) fo' ++ pw G Q C (List.range 16)) (as := [mo, re, no, te, ik]) cx hP hD hS [14, 16, 17, 15, 21] rfl (kr_V (n := 0) (As := []) (ci := 4) cx hM gL_law_X4_load rfl rfl rfl (by decide +kernel) ⟨Nat.le_of_ble_eq_true rfl, Nat.le_of_ble_eq_true rfl⟩ rfl rfl rfl hP hD [14, 16, 17, 15, 21] rfl rfl rfl rfl hl (Nat.le_of_ble_eq_true rfl) dL_law_254 hcs) ⟨rfl, rfl⟩ rfl (fun H locs hP hD hS => ?_)
  refine lv_istore (lv' := [(6, .int (v.1)), (5, .int k5), (0, .ref b), (1, .ref xb), (2, .ref mo), (3, .ref ou), (4, .int (nI i))]) hx hb dL_law_257 hl (by decide) rfl (fun ls hl => ?_)
  exact law_tail X hcs I' hmk hfo hP hD hS hl dL_law_259 dL_law_260 dL_law_263 dL_law_265 dL_law_270 dL_law_272 dL_law_275 dL_law_276 dL_law_277 dL_law_278 dL_law_280 dL_law_281 dL_law_282 dL_law_287 (by decide) kn
end LC
