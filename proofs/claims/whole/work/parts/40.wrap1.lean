/-! the law: its wrappers -/
abbrev rmL_pair : Room := { frames := 7, cells := 1, slots := 6, locals := 109 }
set_option maxHeartbeats 4000000 in
set_option maxRecDepth 100000 in
theorem c_L_pair (l : Launch) (hlt : l.stackTraces = false) (G : gG) (cJ : ClassId) (out : Nat) (fo : Nat → Int64) (b : Nat) (tx : Nat) (h : Nat) (ht : Nat) (pa : Nat) (sl : Nat) (fi : Nat) (o : Nat) (g : Nat) (k : Nat) (h2 : Nat) (o2 : Nat) (g2 : Nat) (k2 : Nat) (bf : Nat → Int32) (pg : Nat → Option Nat) (f : Nat → Int32) (oh : Nat → Int32) (lf : Nat → Int32) (ce : Nat → Int32) (f2 : Nat → Int32) (oh2 : Nat → Int32) (lf2 : Nat → Int32) (ce2 : Nat → Int32) (hst : f 9 = 0 ∨ f 9 = 1) (hpg : P_X3_entry 14 pg (bf 5) = some h2) (htc : (P_X3_pair bf pg f oh lf ce f2 oh2 lf2 ce2).1 = 0 ∨ (P_X3_pair bf pg f oh lf ce f2 oh2 lf2 ce2).1 = 2) : kL l G cJ yL_pair wsL_pair rmL_pair [.ref b, .ref out] [oJ cJ out fo, oBr b tx h ht pa sl fi bf, aS G pa 14 pg, oSt h o g f, aI G o 6 oh, oLed g k lf, aI G k 80 ce, oSt h2 o2 g2 f2, aI G o2 6 oh2, oLed g2 k2 lf2, aI G k2 80 ce2] (qW G (hm 2 (P_X3_pair bf pg f oh lf ce f2 oh2 lf2 ce2).1) (P_X3_pair bf pg f oh lf ce f2 oh2 lf2 ce2).1 [oJ cJ out (vp_updL fo 0 ((P_X3_pair bf pg f oh lf ce f2 oh2 lf2 ce2).2.1).toInt64), oBr b tx h ht pa sl fi ((P_X3_pair bf pg f oh lf ce f2 oh2 lf2 ce2).2.2.1), aS G pa 14 pg, oSt h o g ((P_X3_pair bf pg f oh lf ce f2 oh2 lf2 ce2).2.2.2.1), aI G o 6 oh, oLed g k ((P_X3_pair bf pg f oh lf ce f2 oh2 lf2 ce2).2.2.2.2.1), aI G k 80 ((P_X3_pair bf pg f oh lf ce f2 oh2 lf2 ce2).2.2.2.2.2.1), oSt h2 o2 g2 ((P_X3_pair bf pg f oh lf ce f2 oh2 lf2 ce2).2.2.2.2.2.2.1), aI G o2 6 ((P_X3_pair bf pg f oh lf ce f2 oh2 lf2 ce2).2.2.2.2.2.2.2.1), oLed g2 k2 ((P_X3_pair bf pg f oh lf ce f2 oh2 lf2 ce2).2.2.2.2.2.2.2.2.1), aI G k2 80 ((P_X3_pair bf pg f oh lf ce f2 oh2 lf2 ce2).2.2.2.2.2.2.2.2.2)] [oJ cJ out fo, oBr b tx h ht pa sl fi bf, aS G pa 14 pg, oSt h o g f, aI G o 6 oh, oLed g k lf, aI G k 80 ce, oSt h2 o2 g2 f2, aI G o2 6 oh2, oLed g2 k2 lf2, aI G k2 80 ce2]) := by
  refine k_bodyL (cc := cL_pair) (nL := 3) (ret := some .int) (hh := [(0, 8, 11, 15)]) (by decide) rfl (Nat.le_of_ble_eq_true rfl) ?_
  intro p e s m args below meth c A cx ct hP hD hS ls hl
  obtain ⟨hx, hb, hml, hown, hts, hr, hlocks, hK, hA⟩ := id cx
  obtain ⟨hKJ, htab, hE, hN, hZ⟩ := ct
  obtain ⟨H, hH⟩ : ∃ H, H = s.heap := ⟨_, rfl⟩
  obtain ⟨locs, hL⟩ : ∃ locs : List Loc, locs = [] := ⟨_, rfl⟩
  have hS : va_S A s.heap H locs := by rw [hH, hL]; exact hS
  rw [← hH] at hP ⊢
  rw [← hL]
  clear hH hL
  have hl : lv_has ls 3 [(0, .ref b), (1, .ref out)] := hl
  have hC := c_X3_pair l hlt G b tx h ht pa sl fi o g k h2 o2 g2 k2 bf pg f oh lf ce f2 oh2 lf2 ce2 hst hpg
  generalize hu : P_X3_pair bf pg f oh lf ce f2 oh2 lf2 ce2 = u at hC htc ⊢
  refine lv_aload_n hx hb dL_pair_0 rfl (lv_at hl 1 rfl) ?_
  refine lv_iconst (v := 0) hx hb dL_pair_1 (by decide) ?_
  refine lv_aload_n hx hb dL_pair_2 rfl (lv_at hl 0 rfl) ?_
  refine k_iX (t := u.1) (r := u.2.1) (ws' := [oJ cJ out fo, oBr b tx h ht pa sl fi (u.2.2.1), aS G pa 14 pg, oSt h o g (u.2.2.2.1), aI G o 6 oh, oLed g k (u.2.2.2.2.1), aI G k 80 (u.2.2.2.2.2.1), oSt h2 o2 g2 (u.2.2.2.2.2.2.1), aI G o2 6 (u.2.2.2.2.2.2.2.1), oLed g2 k2 (u.2.2.2.2.2.2.2.2.1), aI G k2 80 (u.2.2.2.2.2.2.2.2.2)]) (as := [b, pa, h, o, g, k, h2, o2, g2, k2]) cx hP hD hS [1, 2, 3, 4, 5, 6, 7, 8, 9, 10] rfl (kr_VX (n := 0) (As := []) (ci := 3) cx hE hZ hS hC gL_pair_X3_pair rfl rfl rfl (by decide +kernel) ⟨Nat.le_of_ble_eq_true rfl, Nat.le_of_ble_eq_true rfl⟩ rfl rfl rfl hP hD [1, 2, 3, 4, 5, 6, 7, 8, 9, 10] rfl rfl rfl rfl hl (Nat.le_of_ble_eq_true rfl) dL_pair_3 ⟨Nat.le_of_ble_eq_true rfl, Nat.le_of_ble_eq_true rfl⟩) ⟨rfl, rfl⟩ rfl rfl (fun E ce9 q9 H locs hE9 hP hD hS hce hvm hcl => ?_) (fun H locs h0 hP hD hS => ?_)
  · rcases htc with h9 | h9
    · rw [h9] at hE9; have hE9 : (none : Option String) = some E := hE9; cases hE9
    · rw [h9] at hE9
      have hE9 : some "java/lang/IllegalStateException" = some E := hE9
      cases hE9
      refine vx_catch (E := "java/lang/IllegalStateException") (name := "java/lang/IllegalStateException") hown [] ⟨0, 8, 11, 15⟩ [] (by rw [htab]; rfl) (fun z hz => absurd hz List.not_mem_nil) (by decide) (by decide) (hts _ (by decide +kernel)) ((hE.1 (.castable "java/lang/IllegalStateException" "java/lang/IllegalStateException") (by decide +kernel)).use rfl) hce hvm hcl ?_
      refine lv_astore_n (lv' := [(2, .ref q9), (0, .ref b), (1, .ref out)]) hx hb dL_pair_11 rfl hl (by decide) rfl (fun ls hl => ?_)
      refine lv_iconst (v := 1) hx hb dL_pair_12 (by decide) ?_
      exact k_iretW (wf := [oJ cJ out fo, oBr b tx h ht pa sl fi bf, aS G pa 14 pg, oSt h o g f, aI G o 6 oh, oLed g k lf, aI G k 80 ce, oSt h2 o2 g2 f2, aI G o2 6 oh2, oLed g2 k2 lf2, aI G k2 80 ce2]) cx (by rw [h9]; rfl) (by rw [h9]; rfl) hP hS dL_pair_13
  · refine lv_i2l hx hb dL_pair_6 rfl ?_
    refine k_last (ws' := [oJ cJ out (vp_updL fo 0 (u.2.1).toInt64), oBr b tx h ht pa sl fi (u.2.2.1), aS G pa 14 pg, oSt h o g (u.2.2.2.1), aI G o 6 oh, oLed g k (u.2.2.2.2.1), aI G k 80 (u.2.2.2.2.2.1), oSt h2 o2 g2 (u.2.2.2.2.2.2.1), aI G o2 6 (u.2.2.2.2.2.2.2.1), oLed g2 k2 (u.2.2.2.2.2.2.2.2.1), aI G k2 80 (u.2.2.2.2.2.2.2.2.2)]) cx hKJ hP hD hS 0 rfl (by unfold vp_in; decide) rfl dL_pair_7 (fun H locs hP hD hS => ?_)
    refine lv_goto (tgt := 14) hx hb dL_pair_8 (by decide) ?_
    refine lv_iconst (v := 0) hx hb dL_pair_14 (by decide) ?_
    exact k_iretW (wf := [oJ cJ out (vp_updL fo 0 (u.2.1).toInt64), oBr b tx h ht pa sl fi (u.2.2.1), aS G pa 14 pg, oSt h o g (u.2.2.2.1), aI G o 6 oh, oLed g k (u.2.2.2.2.1), aI G k 80 (u.2.2.2.2.2.1), oSt h2 o2 g2 (u.2.2.2.2.2.2.1), aI G o2 6 (u.2.2.2.2.2.2.2.1), oLed g2 k2 (u.2.2.2.2.2.2.2.2.1), aI G k2 80 (u.2.2.2.2.2.2.2.2.2)]) cx (by rw [h0]; rfl) (by rw [h0]; rfl) hP hS dL_pair_15

abbrev rmL_pause : Room := { frames := 7, cells := 1, slots := 6, locals := 103 }
set_option maxHeartbeats 4000000 in
set_option maxRecDepth 100000 in
theorem c_L_pause (l : Launch) (hlt : l.stackTraces = false) (G : gG) (cJ : ClassId) (out : Nat) (fo : Nat → Int64) (b : Nat) (tx : Nat) (h : Nat) (ht : Nat) (pa : Nat) (sl : Nat) (fi : Nat) (o : Nat) (g : Nat) (k : Nat) (h2 : Nat) (o2 : Nat) (g2 : Nat) (k2 : Nat) (bf : Nat → Int32) (pg : Nat → Option Nat) (f : Nat → Int32) (oh : Nat → Int32) (lf : Nat → Int32) (ce : Nat → Int32) (f2 : Nat → Int32) (oh2 : Nat → Int32) (lf2 : Nat → Int32) (ce2 : Nat → Int32) (tk : Int32) (hst : f 9 = 0 ∨ f 9 = 1) (hpg : P_X3_entry 14 pg (bf 5) = some h2) (htc : (P_X3_pause bf pg f oh lf ce f2 oh2 lf2 ce2 tk).1 = 0 ∨ (P_X3_pause bf pg f oh lf ce f2 oh2 lf2 ce2 tk).1 = 1) : kL l G cJ yL_pause wsL_pause rmL_pause [.ref b, .int tk, .ref out] [oJ cJ out fo, oBr b tx h ht pa sl fi bf, aS G pa 14 pg, oSt h o g f, aI G o 6 oh, oLed g k lf, aI G k 80 ce, oSt h2 o2 g2 f2, aI G o2 6 oh2, oLed g2 k2 lf2, aI G k2 80 ce2] (qW G (hm 1 (P_X3_pause bf pg f oh lf ce f2 oh2 lf2 ce2 tk).1) (P_X3_pause bf pg f oh lf ce f2 oh2 lf2 ce2 tk).1 [oJ cJ out (vp_updL fo 0 ((P_X3_pause bf pg f oh lf ce f2 oh2 lf2 ce2 tk).2.1).toInt64), oBr b tx h ht pa sl fi ((P_X3_pause bf pg f oh lf ce f2 oh2 lf2 ce2 tk).2.2.1), aS G pa 14 pg, oSt h o g ((P_X3_pause bf pg f oh lf ce f2 oh2 lf2 ce2 tk).2.2.2.1), aI G o 6 oh, oLed g k lf, aI G k 80 ce, oSt h2 o2 g2 ((P_X3_pause bf pg f oh lf ce f2 oh2 lf2 ce2 tk).2.2.2.2.1), aI G o2 6 ((P_X3_pause bf pg f oh lf ce f2 oh2 lf2 ce2 tk).2.2.2.2.2.1), oLed g2 k2 ((P_X3_pause bf pg f oh lf ce f2 oh2 lf2 ce2 tk).2.2.2.2.2.2.1), aI G k2 80 ((P_X3_pause bf pg f oh lf ce f2 oh2 lf2 ce2 tk).2.2.2.2.2.2.2)] [oJ cJ out fo, oBr b tx h ht pa sl fi bf, aS G pa 14 pg, oSt h o g f, aI G o 6 oh, oLed g k lf, aI G k 80 ce, oSt h2 o2 g2 f2, aI G o2 6 oh2, oLed g2 k2 lf2, aI G k2 80 ce2]) := by
  refine k_bodyL (cc := cL_pause) (nL := 4) (ret := some .int) (hh := [(0, 9, 12, 13)]) (by decide) rfl (Nat.le_of_ble_eq_true rfl) ?_
  intro p e s m args below meth c A cx ct hP hD hS ls hl
  obtain ⟨hx, hb, hml, hown, hts, hr, hlocks, hK, hA⟩ := id cx
  obtain ⟨hKJ, htab, hE, hN, hZ⟩ := ct
  obtain ⟨H, hH⟩ : ∃ H, H = s.heap := ⟨_, rfl⟩
  obtain ⟨locs, hL⟩ : ∃ locs : List Loc, locs = [] := ⟨_, rfl⟩
  have hS : va_S A s.heap H locs := by rw [hH, hL]; exact hS
  rw [← hH] at hP ⊢
  rw [← hL]
  clear hH hL
  have hl : lv_has ls 4 [(0, .ref b), (1, .int tk), (2, .ref out)] := hl
  have hC := c_X3_pause l hlt G b tx h ht pa sl fi o g k h2 o2 g2 k2 bf pg f oh lf ce f2 oh2 lf2 ce2 tk hst hpg
  generalize hu : P_X3_pause bf pg f oh lf ce f2 oh2 lf2 ce2 tk = u at hC htc ⊢
  refine lv_aload_n hx hb dL_pause_0 rfl (lv_at hl 2 rfl) ?_
  refine lv_iconst (v := 0) hx hb dL_pause_1 (by decide) ?_
  refine lv_aload_n hx hb dL_pause_2 rfl (lv_at hl 0 rfl) ?_
  refine lv_iload_n hx hb dL_pause_3 rfl (lv_at hl 1 rfl) ?_
  refine k_iX (t := u.1) (r := u.2.1) (ws' := [oJ cJ out fo, oBr b tx h ht pa sl fi (u.2.2.1), aS G pa 14 pg, oSt h o g (u.2.2.2.1), aI G o 6 oh, oLed g k lf, aI G k 80 ce, oSt h2 o2 g2 (u.2.2.2.2.1), aI G o2 6 (u.2.2.2.2.2.1), oLed g2 k2 (u.2.2.2.2.2.2.1), aI G k2 80 (u.2.2.2.2.2.2.2)]) (as := [b, pa, h, o, g, k, h2, o2, g2, k2]) cx hP hD hS [1, 2, 3, 4, 5, 6, 7, 8, 9, 10] rfl (kr_VX (n := 1) (As := [.int tk]) (ci := 3) cx hE hZ hS hC gL_pause_X3_pause rfl rfl rfl (by decide +kernel) ⟨Nat.le_of_ble_eq_true rfl, Nat.le_of_ble_eq_true rfl⟩ rfl rfl rfl hP hD [1, 2, 3, 4, 5, 6, 7, 8, 9, 10] rfl rfl rfl rfl hl (Nat.le_of_ble_eq_true rfl) dL_pause_4 ⟨Nat.le_of_ble_eq_true rfl, Nat.le_of_ble_eq_true rfl⟩) ⟨rfl, rfl⟩ rfl rfl (fun E ce9 q9 H locs hE9 hP hD hS hce hvm hcl => ?_) (fun H locs h0 hP hD hS => ?_)
  · rcases htc with h9 | h9
    · rw [h9] at hE9; have hE9 : (none : Option String) = some E := hE9; cases hE9
    · rw [h9] at hE9
      have hE9 : some "java/lang/IllegalArgumentException" = some E := hE9
      cases hE9
      refine vx_catch (E := "java/lang/IllegalArgumentException") (name := "java/lang/IllegalArgumentException") hown [] ⟨0, 9, 12, 13⟩ [] (by rw [htab]; rfl) (fun z hz => absurd hz List.not_mem_nil) (by decide) (by decide) (hts _ (by decide +kernel)) ((hE.1 (.castable "java/lang/IllegalArgumentException" "java/lang/IllegalArgumentException") (by decide +kernel)).use rfl) hce hvm hcl ?_
      refine lv_astore_n (lv' := [(3, .ref q9), (0, .ref b), (1, .int tk), (2, .ref out)]) hx hb dL_pause_12 rfl hl (by decide) rfl (fun ls hl => ?_)
      refine lv_iconst (v := 1) hx hb dL_pause_13 (by decide) ?_
      exact k_iretW (wf := [oJ cJ out fo, oBr b tx h ht pa sl fi bf, aS G pa 14 pg, oSt h o g f, aI G o 6 oh, oLed g k lf, aI G k 80 ce, oSt h2 o2 g2 f2, aI G o2 6 oh2, oLed g2 k2 lf2, aI G k2 80 ce2]) cx (by rw [h9]; rfl) (by rw [h9]; rfl) hP hS dL_pause_14
  · refine lv_i2l hx hb dL_pause_7 rfl ?_
    refine k_last (ws' := [oJ cJ out (vp_updL fo 0 (u.2.1).toInt64), oBr b tx h ht pa sl fi (u.2.2.1), aS G pa 14 pg, oSt h o g (u.2.2.2.1), aI G o 6 oh, oLed g k lf, aI G k 80 ce, oSt h2 o2 g2 (u.2.2.2.2.1), aI G o2 6 (u.2.2.2.2.2.1), oLed g2 k2 (u.2.2.2.2.2.2.1), aI G k2 80 (u.2.2.2.2.2.2.2)]) cx hKJ hP hD hS 0 rfl (by unfold vp_in; decide) rfl dL_pause_8 (fun H locs hP hD hS => ?_)
    refine lv_goto (tgt := 15) hx hb dL_pause_9 (by decide) ?_
    refine lv_iconst (v := 0) hx hb dL_pause_15 (by decide) ?_
    exact k_iretW (wf := [oJ cJ out (vp_updL fo 0 (u.2.1).toInt64), oBr b tx h ht pa sl fi (u.2.2.1), aS G pa 14 pg, oSt h o g (u.2.2.2.1), aI G o 6 oh, oLed g k lf, aI G k 80 ce, oSt h2 o2 g2 (u.2.2.2.2.1), aI G o2 6 (u.2.2.2.2.2.1), oLed g2 k2 (u.2.2.2.2.2.2.1), aI G k2 80 (u.2.2.2.2.2.2.2)]) cx (by rw [h0]; rfl) (by rw [h0]; rfl) hP hS dL_pause_16

abbrev rmL_set : Room := { frames := 7, cells := 1, slots := 6, locals := 105 }
set_option maxHeartbeats 4000000 in
set_option maxRecDepth 100000 in
theorem c_L_set (l : Launch) (hlt : l.stackTraces = false) (G : gG) (cJ : ClassId) (out : Nat) (fo : Nat → Int64) (b : Nat) (tx : Nat) (h : Nat) (ht : Nat) (pa : Nat) (sl : Nat) (fi : Nat) (o : Nat) (g : Nat) (k : Nat) (h2 : Nat) (o2 : Nat) (g2 : Nat) (k2 : Nat) (bf : Nat → Int32) (pg : Nat → Option Nat) (f : Nat → Int32) (oh : Nat → Int32) (lf : Nat → Int32) (ce : Nat → Int32) (f2 : Nat → Int32) (oh2 : Nat → Int32) (lf2 : Nat → Int32) (ce2 : Nat → Int32) (what : Int32) (v : Int32) (hst : f 9 = 0 ∨ f 9 = 1) (hpg : P_X3_entry 14 pg (bf 5) = some h2) (htc : (P_X3_set bf pg f oh lf ce f2 oh2 lf2 ce2 what v).1 = 0 ∨ (P_X3_set bf pg f oh lf ce f2 oh2 lf2 ce2 what v).1 = 1) : kL l G cJ yL_set wsL_set rmL_set [.ref b, .int what, .int v, .ref out] [oJ cJ out fo, oBr b tx h ht pa sl fi bf, aS G pa 14 pg, oSt h o g f, aI G o 6 oh, oLed g k lf, aI G k 80 ce, oSt h2 o2 g2 f2, aI G o2 6 oh2, oLed g2 k2 lf2, aI G k2 80 ce2] (qW G (hm 1 (P_X3_set bf pg f oh lf ce f2 oh2 lf2 ce2 what v).1) (P_X3_set bf pg f oh lf ce f2 oh2 lf2 ce2 what v).1 [oJ cJ out (vp_updL fo 0 ((P_X3_set bf pg f oh lf ce f2 oh2 lf2 ce2 what v).2.1).toInt64), oBr b tx h ht pa sl fi ((P_X3_set bf pg f oh lf ce f2 oh2 lf2 ce2 what v).2.2.1), aS G pa 14 pg, oSt h o g ((P_X3_set bf pg f oh lf ce f2 oh2 lf2 ce2 what v).2.2.2.1), aI G o 6 oh, oLed g k lf, aI G k 80 ce, oSt h2 o2 g2 ((P_X3_set bf pg f oh lf ce f2 oh2 lf2 ce2 what v).2.2.2.2.1), aI G o2 6 ((P_X3_set bf pg f oh lf ce f2 oh2 lf2 ce2 what v).2.2.2.2.2.1), oLed g2 k2 ((P_X3_set bf pg f oh lf ce f2 oh2 lf2 ce2 what v).2.2.2.2.2.2.1), aI G k2 80 ((P_X3_set bf pg f oh lf ce f2 oh2 lf2 ce2 what v).2.2.2.2.2.2.2)] [oJ cJ out fo, oBr b tx h ht pa sl fi bf, aS G pa 14 pg, oSt h o g f, aI G o 6 oh, oLed g k lf, aI G k 80 ce, oSt h2 o2 g2 f2, aI G o2 6 oh2, oLed g2 k2 lf2, aI G k2 80 ce2]) := by
  refine k_bodyL (cc := cL_set) (nL := 5) (ret := some .int) (hh := [(0, 10, 13, 13)]) (by decide) rfl (Nat.le_of_ble_eq_true rfl) ?_
  intro p e s m args below meth c A cx ct hP hD hS ls hl
  obtain ⟨hx, hb, hml, hown, hts, hr, hlocks, hK, hA⟩ := id cx
  obtain ⟨hKJ, htab, hE, hN, hZ⟩ := ct
  obtain ⟨H, hH⟩ : ∃ H, H = s.heap := ⟨_, rfl⟩
  obtain ⟨locs, hL⟩ : ∃ locs : List Loc, locs = [] := ⟨_, rfl⟩
  have hS : va_S A s.heap H locs := by rw [hH, hL]; exact hS
  rw [← hH] at hP ⊢
  rw [← hL]
  clear hH hL
  have hl : lv_has ls 5 [(0, .ref b), (1, .int what), (2, .int v), (3, .ref out)] := hl
  have hC := c_X3_set l hlt G b tx h ht pa sl fi o g k h2 o2 g2 k2 bf pg f oh lf ce f2 oh2 lf2 ce2 what v hst hpg
  generalize hu : P_X3_set bf pg f oh lf ce f2 oh2 lf2 ce2 what v = u at hC htc ⊢
  refine lv_aload_n hx hb dL_set_0 rfl (lv_at hl 3 rfl) ?_
  refine lv_iconst (v := 0) hx hb dL_set_1 (by decide) ?_
  refine lv_aload_n hx hb dL_set_2 rfl (lv_at hl 0 rfl) ?_
  refine lv_iload_n hx hb dL_set_3 rfl (lv_at hl 1 rfl) ?_
  refine lv_iload_n hx hb dL_set_4 rfl (lv_at hl 2 rfl) ?_
  refine k_iX (t := u.1) (r := u.2.1) (ws' := [oJ cJ out fo, oBr b tx h ht pa sl fi (u.2.2.1), aS G pa 14 pg, oSt h o g (u.2.2.2.1), aI G o 6 oh, oLed g k lf, aI G k 80 ce, oSt h2 o2 g2 (u.2.2.2.2.1), aI G o2 6 (u.2.2.2.2.2.1), oLed g2 k2 (u.2.2.2.2.2.2.1), aI G k2 80 (u.2.2.2.2.2.2.2)]) (as := [b, pa, h, o, g, k, h2, o2, g2, k2]) cx hP hD hS [1, 2, 3, 4, 5, 6, 7, 8, 9, 10] rfl (kr_VX (n := 2) (As := [.int what, .int v]) (ci := 3) cx hE hZ hS hC gL_set_X3_set rfl rfl rfl (by decide +kernel) ⟨Nat.le_of_ble_eq_true rfl, Nat.le_of_ble_eq_true rfl⟩ rfl rfl rfl hP hD [1, 2, 3, 4, 5, 6, 7, 8, 9, 10] rfl rfl rfl rfl hl (Nat.le_of_ble_eq_true rfl) dL_set_5 ⟨Nat.le_of_ble_eq_true rfl, Nat.le_of_ble_eq_true rfl⟩) ⟨rfl, rfl⟩ rfl rfl (fun E ce9 q9 H locs hE9 hP hD hS hce hvm hcl => ?_) (fun H locs h0 hP hD hS => ?_)
  · rcases htc with h9 | h9
    · rw [h9] at hE9; have hE9 : (none : Option String) = some E := hE9; cases hE9
    · rw [h9] at hE9
      have hE9 : some "java/lang/IllegalArgumentException" = some E := hE9
      cases hE9
      refine vx_catch (E := "java/lang/IllegalArgumentException") (name := "java/lang/IllegalArgumentException") hown [] ⟨0, 10, 13, 13⟩ [] (by rw [htab]; rfl) (fun z hz => absurd hz List.not_mem_nil) (by decide) (by decide) (hts _ (by decide +kernel)) ((hE.1 (.castable "java/lang/IllegalArgumentException" "java/lang/IllegalArgumentException") (by decide +kernel)).use rfl) hce hvm hcl ?_
      refine lv_astore (lv' := [(4, .ref q9), (0, .ref b), (1, .int what), (2, .int v), (3, .ref out)]) hx hb dL_set_13 hl (by decide) rfl (fun ls hl => ?_)
      refine lv_iconst (v := 1) hx hb dL_set_15 (by decide) ?_
      exact k_iretW (wf := [oJ cJ out fo, oBr b tx h ht pa sl fi bf, aS G pa 14 pg, oSt h o g f, aI G o 6 oh, oLed g k lf, aI G k 80 ce, oSt h2 o2 g2 f2, aI G o2 6 oh2, oLed g2 k2 lf2, aI G k2 80 ce2]) cx (by rw [h9]; rfl) (by rw [h9]; rfl) hP hS dL_set_16
  · refine lv_i2l hx hb dL_set_8 rfl ?_
    refine k_last (ws' := [oJ cJ out (vp_updL fo 0 (u.2.1).toInt64), oBr b tx h ht pa sl fi (u.2.2.1), aS G pa 14 pg, oSt h o g (u.2.2.2.1), aI G o 6 oh, oLed g k lf, aI G k 80 ce, oSt h2 o2 g2 (u.2.2.2.2.1), aI G o2 6 (u.2.2.2.2.2.1), oLed g2 k2 (u.2.2.2.2.2.2.1), aI G k2 80 (u.2.2.2.2.2.2.2)]) cx hKJ hP hD hS 0 rfl (by unfold vp_in; decide) rfl dL_set_9 (fun H locs hP hD hS => ?_)
    refine lv_goto (tgt := 17) hx hb dL_set_10 (by decide) ?_
    refine lv_iconst (v := 0) hx hb dL_set_17 (by decide) ?_
    exact k_iretW (wf := [oJ cJ out (vp_updL fo 0 (u.2.1).toInt64), oBr b tx h ht pa sl fi (u.2.2.1), aS G pa 14 pg, oSt h o g (u.2.2.2.1), aI G o 6 oh, oLed g k lf, aI G k 80 ce, oSt h2 o2 g2 (u.2.2.2.2.1), aI G o2 6 (u.2.2.2.2.2.1), oLed g2 k2 (u.2.2.2.2.2.2.1), aI G k2 80 (u.2.2.2.2.2.2.2)]) cx (by rw [h0]; rfl) (by rw [h0]; rfl) hP hS dL_set_18

abbrev rmL_choose : Room := { frames := 7, cells := 1, slots := 6, locals := 104 }
set_option maxHeartbeats 4000000 in
set_option maxRecDepth 100000 in
theorem c_L_choose (l : Launch) (hlt : l.stackTraces = false) (G : gG) (cJ : ClassId) (out : Nat) (fo : Nat → Int64) (b : Nat) (tx : Nat) (h : Nat) (ht : Nat) (pa : Nat) (sl : Nat) (fi : Nat) (o : Nat) (g : Nat) (k : Nat) (h2 : Nat) (o2 : Nat) (g2 : Nat) (k2 : Nat) (bf : Nat → Int32) (pg : Nat → Option Nat) (f : Nat → Int32) (oh : Nat → Int32) (lf : Nat → Int32) (ce : Nat → Int32) (f2 : Nat → Int32) (oh2 : Nat → Int32) (lf2 : Nat → Int32) (ce2 : Nat → Int32) (i : Int32) (hst : f 9 = 0 ∨ f 9 = 1) (hpg : P_X3_entry 14 pg (bf 5) = some h2) (htc : (P_X3_choose bf pg f oh lf ce f2 oh2 lf2 ce2 i).1 = 0 ∨ (P_X3_choose bf pg f oh lf ce f2 oh2 lf2 ce2 i).1 = 3) : kL l G cJ yL_choose wsL_choose rmL_choose [.ref b, .int i, .ref out] [oJ cJ out fo, oBr b tx h ht pa sl fi bf, aS G pa 14 pg, oSt h o g f, aI G o 6 oh, oLed g k lf, aI G k 80 ce, oSt h2 o2 g2 f2, aI G o2 6 oh2, oLed g2 k2 lf2, aI G k2 80 ce2] (qW G (hm 3 (P_X3_choose bf pg f oh lf ce f2 oh2 lf2 ce2 i).1) (P_X3_choose bf pg f oh lf ce f2 oh2 lf2 ce2 i).1 [oJ cJ out (vp_updL fo 0 ((P_X3_choose bf pg f oh lf ce f2 oh2 lf2 ce2 i).2.1).toInt64), oBr b tx h ht pa sl fi ((P_X3_choose bf pg f oh lf ce f2 oh2 lf2 ce2 i).2.2.1), aS G pa 14 pg, oSt h o g ((P_X3_choose bf pg f oh lf ce f2 oh2 lf2 ce2 i).2.2.2.1), aI G o 6 oh, oLed g k lf, aI G k 80 ce, oSt h2 o2 g2 ((P_X3_choose bf pg f oh lf ce f2 oh2 lf2 ce2 i).2.2.2.2.1), aI G o2 6 ((P_X3_choose bf pg f oh lf ce f2 oh2 lf2 ce2 i).2.2.2.2.2.1), oLed g2 k2 ((P_X3_choose bf pg f oh lf ce f2 oh2 lf2 ce2 i).2.2.2.2.2.2.1), aI G k2 80 ((P_X3_choose bf pg f oh lf ce f2 oh2 lf2 ce2 i).2.2.2.2.2.2.2)] [oJ cJ out fo, oBr b tx h ht pa sl fi bf, aS G pa 14 pg, oSt h o g f, aI G o 6 oh, oLed g k lf, aI G k 80 ce, oSt h2 o2 g2 f2, aI G o2 6 oh2, oLed g2 k2 lf2, aI G k2 80 ce2]) := by
  refine k_bodyL (cc := cL_choose) (nL := 4) (ret := some .int) (hh := [(0, 9, 12, 47)]) (by decide) rfl (Nat.le_of_ble_eq_true rfl) ?_
  intro p e s m args below meth c A cx ct hP hD hS ls hl
  obtain ⟨hx, hb, hml, hown, hts, hr, hlocks, hK, hA⟩ := id cx
  obtain ⟨hKJ, htab, hE, hN, hZ⟩ := ct
  obtain ⟨H, hH⟩ : ∃ H, H = s.heap := ⟨_, rfl⟩
  obtain ⟨locs, hL⟩ : ∃ locs : List Loc, locs = [] := ⟨_, rfl⟩
  have hS : va_S A s.heap H locs := by rw [hH, hL]; exact hS
  rw [← hH] at hP ⊢
  rw [← hL]
  clear hH hL
  have hl : lv_has ls 4 [(0, .ref b), (1, .int i), (2, .ref out)] := hl
  have hC := c_X3_choose l hlt G b tx h ht pa sl fi o g k h2 o2 g2 k2 bf pg f oh lf ce f2 oh2 lf2 ce2 i hst hpg
  generalize hu : P_X3_choose bf pg f oh lf ce f2 oh2 lf2 ce2 i = u at hC htc ⊢
  refine lv_aload_n hx hb dL_choose_0 rfl (lv_at hl 2 rfl) ?_
  refine lv_iconst (v := 0) hx hb dL_choose_1 (by decide) ?_
  refine lv_aload_n hx hb dL_choose_2 rfl (lv_at hl 0 rfl) ?_
  refine lv_iload_n hx hb dL_choose_3 rfl (lv_at hl 1 rfl) ?_
  refine k_iX (t := u.1) (r := u.2.1) (ws' := [oJ cJ out fo, oBr b tx h ht pa sl fi (u.2.2.1), aS G pa 14 pg, oSt h o g (u.2.2.2.1), aI G o 6 oh, oLed g k lf, aI G k 80 ce, oSt h2 o2 g2 (u.2.2.2.2.1), aI G o2 6 (u.2.2.2.2.2.1), oLed g2 k2 (u.2.2.2.2.2.2.1), aI G k2 80 (u.2.2.2.2.2.2.2)]) (as := [b, pa, h, o, g, k, h2, o2, g2, k2]) cx hP hD hS [1, 2, 3, 4, 5, 6, 7, 8, 9, 10] rfl (kr_VX (n := 1) (As := [.int i]) (ci := 3) cx hE hZ hS hC gL_choose_X3_choose rfl rfl rfl (by decide +kernel) ⟨Nat.le_of_ble_eq_true rfl, Nat.le_of_ble_eq_true rfl⟩ rfl rfl rfl hP hD [1, 2, 3, 4, 5, 6, 7, 8, 9, 10] rfl rfl rfl rfl hl (Nat.le_of_ble_eq_true rfl) dL_choose_4 ⟨Nat.le_of_ble_eq_true rfl, Nat.le_of_ble_eq_true rfl⟩) ⟨rfl, rfl⟩ rfl rfl (fun E ce9 q9 H locs hE9 hP hD hS hce hvm hcl => ?_) (fun H locs h0 hP hD hS => ?_)
  · rcases htc with h9 | h9
    · rw [h9] at hE9; have hE9 : (none : Option String) = some E := hE9; cases hE9
    · rw [h9] at hE9
      have hE9 : some "java/lang/IndexOutOfBoundsException" = some E := hE9
      cases hE9
      refine vx_catch (E := "java/lang/IndexOutOfBoundsException") (name := "java/lang/IndexOutOfBoundsException") hown [] ⟨0, 9, 12, 47⟩ [] (by rw [htab]; rfl) (fun z hz => absurd hz List.not_mem_nil) (by decide) (by decide) (hts _ (by decide +kernel)) ((hE.1 (.castable "java/lang/IndexOutOfBoundsException" "java/lang/IndexOutOfBoundsException") (by decide +kernel)).use rfl) hce hvm hcl ?_
      refine lv_astore_n (lv' := [(3, .ref q9), (0, .ref b), (1, .int i), (2, .ref out)]) hx hb dL_choose_12 rfl hl (by decide) rfl (fun ls hl => ?_)
      refine lv_iconst (v := 1) hx hb dL_choose_13 (by decide) ?_
      exact k_iretW (wf := [oJ cJ out fo, oBr b tx h ht pa sl fi bf, aS G pa 14 pg, oSt h o g f, aI G o 6 oh, oLed g k lf, aI G k 80 ce, oSt h2 o2 g2 f2, aI G o2 6 oh2, oLed g2 k2 lf2, aI G k2 80 ce2]) cx (by rw [h9]; rfl) (by rw [h9]; rfl) hP hS dL_choose_14
  · refine lv_i2l hx hb dL_choose_7 rfl ?_
    refine k_last (ws' := [oJ cJ out (vp_updL fo 0 (u.2.1).toInt64), oBr b tx h ht pa sl fi (u.2.2.1), aS G pa 14 pg, oSt h o g (u.2.2.2.1), aI G o 6 oh, oLed g k lf, aI G k 80 ce, oSt h2 o2 g2 (u.2.2.2.2.1), aI G o2 6 (u.2.2.2.2.2.1), oLed g2 k2 (u.2.2.2.2.2.2.1), aI G k2 80 (u.2.2.2.2.2.2.2)]) cx hKJ hP hD hS 0 rfl (by unfold vp_in; decide) rfl dL_choose_8 (fun H locs hP hD hS => ?_)
    refine lv_goto (tgt := 15) hx hb dL_choose_9 (by decide) ?_
    refine lv_iconst (v := 0) hx hb dL_choose_15 (by decide) ?_
    exact k_iretW (wf := [oJ cJ out (vp_updL fo 0 (u.2.1).toInt64), oBr b tx h ht pa sl fi (u.2.2.1), aS G pa 14 pg, oSt h o g (u.2.2.2.1), aI G o 6 oh, oLed g k lf, aI G k 80 ce, oSt h2 o2 g2 (u.2.2.2.2.1), aI G o2 6 (u.2.2.2.2.2.1), oLed g2 k2 (u.2.2.2.2.2.2.1), aI G k2 80 (u.2.2.2.2.2.2.2)]) cx (by rw [h0]; rfl) (by rw [h0]; rfl) hP hS dL_choose_16

abbrev rmL_add : Room := { frames := 7, cells := 1, slots := 6, locals := 103 }
set_option maxHeartbeats 4000000 in
set_option maxRecDepth 100000 in
theorem c_L_add (l : Launch) (hlt : l.stackTraces = false) (G : gG) (cJ : ClassId) (out : Nat) (fo : Nat → Int64) (b : Nat) (tx : Nat) (h : Nat) (ht : Nat) (pa : Nat) (sl : Nat) (fi : Nat) (o : Nat) (g : Nat) (k : Nat) (h2 : Nat) (o2 : Nat) (g2 : Nat) (k2 : Nat) (bf : Nat → Int32) (pg : Nat → Option Nat) (f : Nat → Int32) (oh : Nat → Int32) (lf : Nat → Int32) (ce : Nat → Int32) (f2 : Nat → Int32) (oh2 : Nat → Int32) (lf2 : Nat → Int32) (ce2 : Nat → Int32) (oh0 : Int32) (hst : f 9 = 0 ∨ f 9 = 1) (hpg : P_X3_entry 14 pg (bf 5) = some h2) (htc : (P_X3_add bf pg f oh lf ce f2 oh2 lf2 ce2 oh0).1 = 0 ∨ (P_X3_add bf pg f oh lf ce f2 oh2 lf2 ce2 oh0).1 = 1 ∨ (P_X3_add bf pg f oh lf ce f2 oh2 lf2 ce2 oh0).1 = 2) : kL l G cJ yL_add wsL_add rmL_add [.ref b, .int oh0, .ref out] [oJ cJ out fo, oBr b tx h ht pa sl fi bf, aS G pa 14 pg, oSt h o g f, aI G o 6 oh, oLed g k lf, aI G k 80 ce, oSt h2 o2 g2 f2, aI G o2 6 oh2, oLed g2 k2 lf2, aI G k2 80 ce2] (qW G (hm 1 (P_X3_add bf pg f oh lf ce f2 oh2 lf2 ce2 oh0).1) (P_X3_add bf pg f oh lf ce f2 oh2 lf2 ce2 oh0).1 [oJ cJ out (vp_updL fo 0 ((P_X3_add bf pg f oh lf ce f2 oh2 lf2 ce2 oh0).2.1).toInt64), oBr b tx h ht pa sl fi ((P_X3_add bf pg f oh lf ce f2 oh2 lf2 ce2 oh0).2.2.1), aS G pa 14 pg, oSt h o g ((P_X3_add bf pg f oh lf ce f2 oh2 lf2 ce2 oh0).2.2.2.1), aI G o 6 ((P_X3_add bf pg f oh lf ce f2 oh2 lf2 ce2 oh0).2.2.2.2.1), oLed g k lf, aI G k 80 ce, oSt h2 o2 g2 ((P_X3_add bf pg f oh lf ce f2 oh2 lf2 ce2 oh0).2.2.2.2.2.1), aI G o2 6 ((P_X3_add bf pg f oh lf ce f2 oh2 lf2 ce2 oh0).2.2.2.2.2.2.1), oLed g2 k2 ((P_X3_add bf pg f oh lf ce f2 oh2 lf2 ce2 oh0).2.2.2.2.2.2.2.1), aI G k2 80 ((P_X3_add bf pg f oh lf ce f2 oh2 lf2 ce2 oh0).2.2.2.2.2.2.2.2)] [oJ cJ out fo, oBr b tx h ht pa sl fi bf, aS G pa 14 pg, oSt h o g f, aI G o 6 oh, oLed g k lf, aI G k 80 ce, oSt h2 o2 g2 f2, aI G o2 6 oh2, oLed g2 k2 lf2, aI G k2 80 ce2]) := by
  refine k_bodyL (cc := cL_add) (nL := 4) (ret := some .int) (hh := [(0, 9, 12, 13), (0, 9, 15, 15)]) (by decide) rfl (Nat.le_of_ble_eq_true rfl) ?_
  intro p e s m args below meth c A cx ct hP hD hS ls hl
  obtain ⟨hx, hb, hml, hown, hts, hr, hlocks, hK, hA⟩ := id cx
  obtain ⟨hKJ, htab, hE, hN, hZ⟩ := ct
  obtain ⟨H, hH⟩ : ∃ H, H = s.heap := ⟨_, rfl⟩
  obtain ⟨locs, hL⟩ : ∃ locs : List Loc, locs = [] := ⟨_, rfl⟩
  have hS : va_S A s.heap H locs := by rw [hH, hL]; exact hS
  rw [← hH] at hP ⊢
  rw [← hL]
  clear hH hL
  have hl : lv_has ls 4 [(0, .ref b), (1, .int oh0), (2, .ref out)] := hl
  have hC := c_X3_add l hlt G b tx h ht pa sl fi o g k h2 o2 g2 k2 bf pg f oh lf ce f2 oh2 lf2 ce2 oh0 hst hpg
  generalize hu : P_X3_add bf pg f oh lf ce f2 oh2 lf2 ce2 oh0 = u at hC htc ⊢
  refine lv_aload_n hx hb dL_add_0 rfl (lv_at hl 2 rfl) ?_
  refine lv_iconst (v := 0) hx hb dL_add_1 (by decide) ?_
  refine lv_aload_n hx hb dL_add_2 rfl (lv_at hl 0 rfl) ?_
  refine lv_iload_n hx hb dL_add_3 rfl (lv_at hl 1 rfl) ?_
  refine k_iX (t := u.1) (r := u.2.1) (ws' := [oJ cJ out fo, oBr b tx h ht pa sl fi (u.2.2.1), aS G pa 14 pg, oSt h o g (u.2.2.2.1), aI G o 6 (u.2.2.2.2.1), oLed g k lf, aI G k 80 ce, oSt h2 o2 g2 (u.2.2.2.2.2.1), aI G o2 6 (u.2.2.2.2.2.2.1), oLed g2 k2 (u.2.2.2.2.2.2.2.1), aI G k2 80 (u.2.2.2.2.2.2.2.2)]) (as := [b, pa, h, o, g, k, h2, o2, g2, k2]) cx hP hD hS [1, 2, 3, 4, 5, 6, 7, 8, 9, 10] rfl (kr_VX (n := 1) (As := [.int oh0]) (ci := 3) cx hE hZ hS hC gL_add_X3_add rfl rfl rfl (by decide +kernel) ⟨Nat.le_of_ble_eq_true rfl, Nat.le_of_ble_eq_true rfl⟩ rfl rfl rfl hP hD [1, 2, 3, 4, 5, 6, 7, 8, 9, 10] rfl rfl rfl rfl hl (Nat.le_of_ble_eq_true rfl) dL_add_4 ⟨Nat.le_of_ble_eq_true rfl, Nat.le_of_ble_eq_true rfl⟩) ⟨rfl, rfl⟩ rfl rfl (fun E ce9 q9 H locs hE9 hP hD hS hce hvm hcl => ?_) (fun H locs h0 hP hD hS => ?_)
  · rcases htc with h9 | h9 | h9
    · rw [h9] at hE9; have hE9 : (none : Option String) = some E := hE9; cases hE9
    · rw [h9] at hE9
      have hE9 : some "java/lang/IllegalArgumentException" = some E := hE9
      cases hE9
      refine vx_catch (E := "java/lang/IllegalArgumentException") (name := "java/lang/IllegalArgumentException") hown [] ⟨0, 9, 12, 13⟩ [⟨0, 9, 15, 15⟩] (by rw [htab]; rfl) (fun z hz => absurd hz List.not_mem_nil) (by decide) (by decide) (hts _ (by decide +kernel)) ((hE.1 (.castable "java/lang/IllegalArgumentException" "java/lang/IllegalArgumentException") (by decide +kernel)).use rfl) hce hvm hcl ?_
      refine lv_astore_n (lv' := [(3, .ref q9), (0, .ref b), (1, .int oh0), (2, .ref out)]) hx hb dL_add_12 rfl hl (by decide) rfl (fun ls hl => ?_)
      refine lv_iconst (v := 1) hx hb dL_add_13 (by decide) ?_
      exact k_iretW (wf := [oJ cJ out fo, oBr b tx h ht pa sl fi bf, aS G pa 14 pg, oSt h o g f, aI G o 6 oh, oLed g k lf, aI G k 80 ce, oSt h2 o2 g2 f2, aI G o2 6 oh2, oLed g2 k2 lf2, aI G k2 80 ce2]) cx (by rw [h9]; rfl) (by rw [h9]; rfl) hP hS dL_add_14
    · rw [h9] at hE9
      have hE9 : some "java/lang/IllegalStateException" = some E := hE9
      cases hE9
      refine vx_catch (E := "java/lang/IllegalStateException") (name := "java/lang/IllegalStateException") hown [⟨0, 9, 12, 13⟩] ⟨0, 9, 15, 15⟩ [] (by rw [htab]; rfl) (fun z hz => by rw [List.mem_singleton.mp hz]; exact Or.inr ⟨by decide, "java/lang/IllegalArgumentException", hts _ (by decide +kernel), hN.1⟩) (by decide) (by decide) (hts _ (by decide +kernel)) ((hE.1 (.castable "java/lang/IllegalStateException" "java/lang/IllegalStateException") (by decide +kernel)).use rfl) hce hvm hcl ?_
      refine lv_astore_n (lv' := [(3, .ref q9), (0, .ref b), (1, .int oh0), (2, .ref out)]) hx hb dL_add_15 rfl hl (by decide) rfl (fun ls hl => ?_)
      refine lv_iconst (v := 2) hx hb dL_add_16 (by decide) ?_
      exact k_iretW (wf := [oJ cJ out fo, oBr b tx h ht pa sl fi bf, aS G pa 14 pg, oSt h o g f, aI G o 6 oh, oLed g k lf, aI G k 80 ce, oSt h2 o2 g2 f2, aI G o2 6 oh2, oLed g2 k2 lf2, aI G k2 80 ce2]) cx (by rw [h9]; rfl) (by rw [h9]; rfl) hP hS dL_add_17
  · refine lv_i2l hx hb dL_add_7 rfl ?_
    refine k_last (ws' := [oJ cJ out (vp_updL fo 0 (u.2.1).toInt64), oBr b tx h ht pa sl fi (u.2.2.1), aS G pa 14 pg, oSt h o g (u.2.2.2.1), aI G o 6 (u.2.2.2.2.1), oLed g k lf, aI G k 80 ce, oSt h2 o2 g2 (u.2.2.2.2.2.1), aI G o2 6 (u.2.2.2.2.2.2.1), oLed g2 k2 (u.2.2.2.2.2.2.2.1), aI G k2 80 (u.2.2.2.2.2.2.2.2)]) cx hKJ hP hD hS 0 rfl (by unfold vp_in; decide) rfl dL_add_8 (fun H locs hP hD hS => ?_)
    refine lv_goto (tgt := 18) hx hb dL_add_9 (by decide) ?_
    refine lv_iconst (v := 0) hx hb dL_add_18 (by decide) ?_
    exact k_iretW (wf := [oJ cJ out (vp_updL fo 0 (u.2.1).toInt64), oBr b tx h ht pa sl fi (u.2.2.1), aS G pa 14 pg, oSt h o g (u.2.2.2.1), aI G o 6 (u.2.2.2.2.1), oLed g k lf, aI G k 80 ce, oSt h2 o2 g2 (u.2.2.2.2.2.1), aI G o2 6 (u.2.2.2.2.2.2.1), oLed g2 k2 (u.2.2.2.2.2.2.2.1), aI G k2 80 (u.2.2.2.2.2.2.2.2)]) cx (by rw [h0]; rfl) (by rw [h0]; rfl) hP hS dL_add_19

abbrev rmL_balance : Room := { frames := 7, cells := 1, slots := 6, locals := 133 }
set_option maxHeartbeats 4000000 in
set_option maxRecDepth 100000 in
theorem c_L_balance (l : Launch) (hlt : l.stackTraces = false) (G : gG) (cJ : ClassId) (out : Nat) (fo : Nat → Int64) (b : Nat) (tx : Nat) (h : Nat) (ht : Nat) (pa : Nat) (sl : Nat) (fi : Nat) (o : Nat) (g : Nat) (k : Nat) (h2 : Nat) (o2 : Nat) (g2 : Nat) (k2 : Nat) (bf : Nat → Int32) (pg : Nat → Option Nat) (f : Nat → Int32) (oh : Nat → Int32) (lf : Nat → Int32) (ce : Nat → Int32) (f2 : Nat → Int32) (oh2 : Nat → Int32) (lf2 : Nat → Int32) (ce2 : Nat → Int32) (hst : f 9 = 0 ∨ f 9 = 1) (hpg : P_X3_entry 14 pg (bf 5) = some h2) (htc : (P_X3_balance bf pg f oh lf ce f2 oh2 lf2 ce2).1 = 0 ∨ (P_X3_balance bf pg f oh lf ce f2 oh2 lf2 ce2).1 = 2) : kL l G cJ yL_balance wsL_balance rmL_balance [.ref b, .ref out] [oJ cJ out fo, oBr b tx h ht pa sl fi bf, aS G pa 14 pg, oSt h o g f, aI G o 6 oh, oLed g k lf, aI G k 80 ce, oSt h2 o2 g2 f2, aI G o2 6 oh2, oLed g2 k2 lf2, aI G k2 80 ce2] (qW G (hm 2 (P_X3_balance bf pg f oh lf ce f2 oh2 lf2 ce2).1) (P_X3_balance bf pg f oh lf ce f2 oh2 lf2 ce2).1 [oJ cJ out (vp_updL fo 0 ((P_X3_balance bf pg f oh lf ce f2 oh2 lf2 ce2).2.1).toInt64), oBr b tx h ht pa sl fi ((P_X3_balance bf pg f oh lf ce f2 oh2 lf2 ce2).2.2.1), aS G pa 14 pg, oSt h o g ((P_X3_balance bf pg f oh lf ce f2 oh2 lf2 ce2).2.2.2.1), aI G o 6 oh, oLed g k ((P_X3_balance bf pg f oh lf ce f2 oh2 lf2 ce2).2.2.2.2.1), aI G k 80 ((P_X3_balance bf pg f oh lf ce f2 oh2 lf2 ce2).2.2.2.2.2.1), oSt h2 o2 g2 ((P_X3_balance bf pg f oh lf ce f2 oh2 lf2 ce2).2.2.2.2.2.2.1), aI G o2 6 ((P_X3_balance bf pg f oh lf ce f2 oh2 lf2 ce2).2.2.2.2.2.2.2.1), oLed g2 k2 ((P_X3_balance bf pg f oh lf ce f2 oh2 lf2 ce2).2.2.2.2.2.2.2.2.1), aI G k2 80 ((P_X3_balance bf pg f oh lf ce f2 oh2 lf2 ce2).2.2.2.2.2.2.2.2.2)] [oJ cJ out fo, oBr b tx h ht pa sl fi bf, aS G pa 14 pg, oSt h o g f, aI G o 6 oh, oLed g k lf, aI G k 80 ce, oSt h2 o2 g2 f2, aI G o2 6 oh2, oLed g2 k2 lf2, aI G k2 80 ce2]) := by
  refine k_bodyL (cc := cL_balance) (nL := 3) (ret := some .int) (hh := [(0, 8, 11, 15)]) (by decide) rfl (Nat.le_of_ble_eq_true rfl) ?_
  intro p e s m args below meth c A cx ct hP hD hS ls hl
  obtain ⟨hx, hb, hml, hown, hts, hr, hlocks, hK, hA⟩ := id cx
  obtain ⟨hKJ, htab, hE, hN, hZ⟩ := ct
  obtain ⟨H, hH⟩ : ∃ H, H = s.heap := ⟨_, rfl⟩
  obtain ⟨locs, hL⟩ : ∃ locs : List Loc, locs = [] := ⟨_, rfl⟩
  have hS : va_S A s.heap H locs := by rw [hH, hL]; exact hS
  rw [← hH] at hP ⊢
  rw [← hL]
  clear hH hL
  have hl : lv_has ls 3 [(0, .ref b), (1, .ref out)] := hl
  have hC := c_X3_balance l hlt G b tx h ht pa sl fi o g k h2 o2 g2 k2 bf pg f oh lf ce f2 oh2 lf2 ce2 hst hpg
  generalize hu : P_X3_balance bf pg f oh lf ce f2 oh2 lf2 ce2 = u at hC htc ⊢
  refine lv_aload_n hx hb dL_balance_0 rfl (lv_at hl 1 rfl) ?_
  refine lv_iconst (v := 0) hx hb dL_balance_1 (by decide) ?_
  refine lv_aload_n hx hb dL_balance_2 rfl (lv_at hl 0 rfl) ?_
  refine k_iX (t := u.1) (r := u.2.1) (ws' := [oJ cJ out fo, oBr b tx h ht pa sl fi (u.2.2.1), aS G pa 14 pg, oSt h o g (u.2.2.2.1), aI G o 6 oh, oLed g k (u.2.2.2.2.1), aI G k 80 (u.2.2.2.2.2.1), oSt h2 o2 g2 (u.2.2.2.2.2.2.1), aI G o2 6 (u.2.2.2.2.2.2.2.1), oLed g2 k2 (u.2.2.2.2.2.2.2.2.1), aI G k2 80 (u.2.2.2.2.2.2.2.2.2)]) (as := [b, pa, h, o, g, k, h2, o2, g2, k2]) cx hP hD hS [1, 2, 3, 4, 5, 6, 7, 8, 9, 10] rfl (kr_VX (n := 0) (As := []) (ci := 3) cx hE hZ hS hC gL_balance_X3_balance rfl rfl rfl (by decide +kernel) ⟨Nat.le_of_ble_eq_true rfl, Nat.le_of_ble_eq_true rfl⟩ rfl rfl rfl hP hD [1, 2, 3, 4, 5, 6, 7, 8, 9, 10] rfl rfl rfl rfl hl (Nat.le_of_ble_eq_true rfl) dL_balance_3 ⟨Nat.le_of_ble_eq_true rfl, Nat.le_of_ble_eq_true rfl⟩) ⟨rfl, rfl⟩ rfl rfl (fun E ce9 q9 H locs hE9 hP hD hS hce hvm hcl => ?_) (fun H locs h0 hP hD hS => ?_)
  · rcases htc with h9 | h9
    · rw [h9] at hE9; have hE9 : (none : Option String) = some E := hE9; cases hE9
    · rw [h9] at hE9
      have hE9 : some "java/lang/IllegalStateException" = some E := hE9
      cases hE9
      refine vx_catch (E := "java/lang/IllegalStateException") (name := "java/lang/IllegalStateException") hown [] ⟨0, 8, 11, 15⟩ [] (by rw [htab]; rfl) (fun z hz => absurd hz List.not_mem_nil) (by decide) (by decide) (hts _ (by decide +kernel)) ((hE.1 (.castable "java/lang/IllegalStateException" "java/lang/IllegalStateException") (by decide +kernel)).use rfl) hce hvm hcl ?_
      refine lv_astore_n (lv' := [(2, .ref q9), (0, .ref b), (1, .ref out)]) hx hb dL_balance_11 rfl hl (by decide) rfl (fun ls hl => ?_)
      refine lv_iconst (v := 1) hx hb dL_balance_12 (by decide) ?_
      exact k_iretW (wf := [oJ cJ out fo, oBr b tx h ht pa sl fi bf, aS G pa 14 pg, oSt h o g f, aI G o 6 oh, oLed g k lf, aI G k 80 ce, oSt h2 o2 g2 f2, aI G o2 6 oh2, oLed g2 k2 lf2, aI G k2 80 ce2]) cx (by rw [h9]; rfl) (by rw [h9]; rfl) hP hS dL_balance_13
  · refine lv_i2l hx hb dL_balance_6 rfl ?_
    refine k_last (ws' := [oJ cJ out (vp_updL fo 0 (u.2.1).toInt64), oBr b tx h ht pa sl fi (u.2.2.1), aS G pa 14 pg, oSt h o g (u.2.2.2.1), aI G o 6 oh, oLed g k (u.2.2.2.2.1), aI G k 80 (u.2.2.2.2.2.1), oSt h2 o2 g2 (u.2.2.2.2.2.2.1), aI G o2 6 (u.2.2.2.2.2.2.2.1), oLed g2 k2 (u.2.2.2.2.2.2.2.2.1), aI G k2 80 (u.2.2.2.2.2.2.2.2.2)]) cx hKJ hP hD hS 0 rfl (by unfold vp_in; decide) rfl dL_balance_7 (fun H locs hP hD hS => ?_)
    refine lv_goto (tgt := 14) hx hb dL_balance_8 (by decide) ?_
    refine lv_iconst (v := 0) hx hb dL_balance_14 (by decide) ?_
    exact k_iretW (wf := [oJ cJ out (vp_updL fo 0 (u.2.1).toInt64), oBr b tx h ht pa sl fi (u.2.2.1), aS G pa 14 pg, oSt h o g (u.2.2.2.1), aI G o 6 oh, oLed g k (u.2.2.2.2.1), aI G k 80 (u.2.2.2.2.2.1), oSt h2 o2 g2 (u.2.2.2.2.2.2.1), aI G o2 6 (u.2.2.2.2.2.2.2.1), oLed g2 k2 (u.2.2.2.2.2.2.2.2.1), aI G k2 80 (u.2.2.2.2.2.2.2.2.2)]) cx (by rw [h0]; rfl) (by rw [h0]; rfl) hP hS dL_balance_15

