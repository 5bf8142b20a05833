/-! the law: its wrappers -/
abbrev rmL_undo : Room := { frames := 7, cells := 1, slots := 6, locals := 102 }
set_option maxHeartbeats 4000000 in
set_option maxRecDepth 100000 in
theorem c_L_undo (l : Launch) (hlt : l.stackTraces = false) (G : gG) (cJ : ClassId) (out : Nat) (fo : Nat → Int64) (b : Nat) (tx : Nat) (h : Nat) (ht : Nat) (pa : Nat) (sl : Nat) (fi : Nat) (o : Nat) (g : Nat) (k : Nat) (h2 : Nat) (o2 : Nat) (g2 : Nat) (k2 : Nat) (bf : Nat → Int32) (pg : Nat → Option Nat) (f : Nat → Int32) (oh : Nat → Int32) (lf : Nat → Int32) (ce : Nat → Int32) (f2 : Nat → Int32) (oh2 : Nat → Int32) (lf2 : Nat → Int32) (ce2 : Nat → Int32) (hst2 : f2 9 = 0 ∨ f2 9 = 1) (hpg : P_X3_entry 14 pg (if bf 5 ≤ 0 then 13 else bf 5 - 1) = some h2) (htc : (P_X3_undo bf pg f oh lf ce f2 oh2 lf2 ce2).1 = 0 ∨ (P_X3_undo bf pg f oh lf ce f2 oh2 lf2 ce2).1 = 2) : kL l G cJ yL_undo wsL_undo rmL_undo [.ref b, .ref out] [oJ cJ out fo, oBr b tx h ht pa sl fi bf, aS G pa 14 pg, oSt h o g f, aI G o 6 oh, oLed g k lf, aI G k 80 ce, oSt h2 o2 g2 f2, aI G o2 6 oh2, oLed g2 k2 lf2, aI G k2 80 ce2] (qW G (hm 2 (P_X3_undo bf pg f oh lf ce f2 oh2 lf2 ce2).1) (P_X3_undo bf pg f oh lf ce f2 oh2 lf2 ce2).1 [oJ cJ out (vp_updL fo 0 ((P_X3_undo bf pg f oh lf ce f2 oh2 lf2 ce2).2.1).toInt64), oBr b tx h ht pa sl fi ((P_X3_undo bf pg f oh lf ce f2 oh2 lf2 ce2).2.2.1), aS G pa 14 pg, oSt h o g ((P_X3_undo bf pg f oh lf ce f2 oh2 lf2 ce2).2.2.2.1), aI G o 6 ((P_X3_undo bf pg f oh lf ce f2 oh2 lf2 ce2).2.2.2.2.1), oLed g k ((P_X3_undo bf pg f oh lf ce f2 oh2 lf2 ce2).2.2.2.2.2.1), aI G k 80 ((P_X3_undo bf pg f oh lf ce f2 oh2 lf2 ce2).2.2.2.2.2.2), oSt h2 o2 g2 f2, aI G o2 6 oh2, oLed g2 k2 lf2, aI G k2 80 ce2] [oJ cJ out fo, oBr b tx h ht pa sl fi bf, aS G pa 14 pg, oSt h o g f, aI G o 6 oh, oLed g k lf, aI G k 80 ce, oSt h2 o2 g2 f2, aI G o2 6 oh2, oLed g2 k2 lf2, aI G k2 80 ce2]) := by
  refine k_bodyL (cc := cL_undo) (nL := 3) (ret := some .int) (hh := [(0, 8, 11, 15)]) (by decide) rfl (Nat.le_of_ble_eq_true rfl) ?_
  intro p e s m args below meth c A cx ct hP hD hS ls hl
  obtain ⟨hx, hb, hml, hown, hts, hr, hlocks, hK, hA⟩ := id cx
  obtain ⟨hKJ, htab, hE, hN, hZ⟩ := ct
  obtain ⟨H, hH⟩ : ∃ H, H = s.heap := ⟨_, rfl⟩
  obtain ⟨locs, hL⟩ : ∃ locs : List Loc, locs = [] := ⟨_, rfl⟩
  have hS : va_S A s.heap H locs := by rw [hH, hL]; exact hS
  rw [← hH] at hP ⊢
  rw [← hL]
  clear hH hL
  have hl : lv_has ls 3 [(0, .ref b), (1, .ref out)] := hl
  have hC := c_X3_undo l hlt G b tx h ht pa sl fi o g k h2 o2 g2 k2 bf pg f oh lf ce f2 oh2 lf2 ce2 hst2 hpg
  generalize hu : P_X3_undo bf pg f oh lf ce f2 oh2 lf2 ce2 = u at hC htc ⊢
  refine lv_aload_n hx hb dL_undo_0 rfl (lv_at hl 1 rfl) ?_
  refine lv_iconst (v := 0) hx hb dL_undo_1 (by decide) ?_
  refine lv_aload_n hx hb dL_undo_2 rfl (lv_at hl 0 rfl) ?_
  refine k_iX (t := u.1) (r := u.2.1) (ws' := [oJ cJ out fo, oBr b tx h ht pa sl fi (u.2.2.1), aS G pa 14 pg, oSt h o g (u.2.2.2.1), aI G o 6 (u.2.2.2.2.1), oLed g k (u.2.2.2.2.2.1), aI G k 80 (u.2.2.2.2.2.2), oSt h2 o2 g2 f2, aI G o2 6 oh2, oLed g2 k2 lf2, aI G k2 80 ce2]) (as := [b, pa, h, o, g, k, h2, o2, g2, k2]) cx hP hD hS [1, 2, 3, 4, 5, 6, 7, 8, 9, 10] rfl (kr_VX (n := 0) (As := []) (ci := 3) cx hE hZ hS hC gL_undo_X3_undo rfl rfl rfl (by decide +kernel) ⟨Nat.le_of_ble_eq_true rfl, Nat.le_of_ble_eq_true rfl⟩ rfl rfl rfl hP hD [1, 2, 3, 4, 5, 6, 7, 8, 9, 10] rfl rfl rfl rfl hl (Nat.le_of_ble_eq_true rfl) dL_undo_3 ⟨Nat.le_of_ble_eq_true rfl, Nat.le_of_ble_eq_true rfl⟩) ⟨rfl, rfl⟩ rfl rfl (fun E ce9 q9 H locs hE9 hP hD hS hce hvm hcl => ?_) (fun H locs h0 hP hD hS => ?_)
  · rcases htc with h9 | h9
    · rw [h9] at hE9; have hE9 : (none : Option String) = some E := hE9; cases hE9
    · rw [h9] at hE9
      have hE9 : some "java/lang/IllegalStateException" = some E := hE9
      cases hE9
      refine vx_catch (E := "java/lang/IllegalStateException") (name := "java/lang/IllegalStateException") hown [] ⟨0, 8, 11, 15⟩ [] (by rw [htab]; rfl) (fun z hz => absurd hz List.not_mem_nil) (by decide) (by decide) (hts _ (by decide +kernel)) ((hE.1 (.castable "java/lang/IllegalStateException" "java/lang/IllegalStateException") (by decide +kernel)).use rfl) hce hvm hcl ?_
      refine lv_astore_n (lv' := [(2, .ref q9), (0, .ref b), (1, .ref out)]) hx hb dL_undo_11 rfl hl (by decide) rfl (fun ls hl => ?_)
      refine lv_iconst (v := 1) hx hb dL_undo_12 (by decide) ?_
      exact k_iretW (wf := [oJ cJ out fo, oBr b tx h ht pa sl fi bf, aS G pa 14 pg, oSt h o g f, aI G o 6 oh, oLed g k lf, aI G k 80 ce, oSt h2 o2 g2 f2, aI G o2 6 oh2, oLed g2 k2 lf2, aI G k2 80 ce2]) cx (by rw [h9]; rfl) (by rw [h9]; rfl) hP hS dL_undo_13
  · refine lv_i2l hx hb dL_undo_6 rfl ?_
    refine k_last (ws' := [oJ cJ out (vp_updL fo 0 (u.2.1).toInt64), oBr b tx h ht pa sl fi (u.2.2.1), aS G pa 14 pg, oSt h o g (u.2.2.2.1), aI G o 6 (u.2.2.2.2.1), oLed g k (u.2.2.2.2.2.1), aI G k 80 (u.2.2.2.2.2.2), oSt h2 o2 g2 f2, aI G o2 6 oh2, oLed g2 k2 lf2, aI G k2 80 ce2]) cx hKJ hP hD hS 0 rfl (by unfold vp_in; decide) rfl dL_undo_7 (fun H locs hP hD hS => ?_)
    refine lv_goto (tgt := 14) hx hb dL_undo_8 (by decide) ?_
    refine lv_iconst (v := 0) hx hb dL_undo_14 (by decide) ?_
    exact k_iretW (wf := [oJ cJ out (vp_updL fo 0 (u.2.1).toInt64), oBr b tx h ht pa sl fi (u.2.2.1), aS G pa 14 pg, oSt h o g (u.2.2.2.1), aI G o 6 (u.2.2.2.2.1), oLed g k (u.2.2.2.2.2.1), aI G k 80 (u.2.2.2.2.2.2), oSt h2 o2 g2 f2, aI G o2 6 oh2, oLed g2 k2 lf2, aI G k2 80 ce2]) cx (by rw [h0]; rfl) (by rw [h0]; rfl) hP hS dL_undo_15

abbrev rmL_value : Room := { frames := 7, cells := 1, slots := 6, locals := 105 }
set_option maxHeartbeats 4000000 in
set_option maxRecDepth 100000 in
theorem c_L_value (l : Launch) (hlt : l.stackTraces = false) (G : gG) (cJ : ClassId) (out : Nat) (fo : Nat → Int64) (b : Nat) (tx : Nat) (h : Nat) (ht : Nat) (pa : Nat) (sl : Nat) (fi : Nat) (o : Nat) (g : Nat) (bf : Nat → Int32) (f : Nat → Int32) (lim : Int32)  (htc : (P_X3_value bf f lim).1 = 0 ∨ (P_X3_value bf f lim).1 = 1) : kL l G cJ yL_value wsL_value rmL_value [.ref b, .int lim, .ref out] [oJ cJ out fo, oBr b tx h ht pa sl fi bf, oSt h o g f] (qW G (hm 1 (P_X3_value bf f lim).1) (P_X3_value bf f lim).1 [oJ cJ out (vp_updL fo 0 ((P_X3_value bf f lim).2).toInt64), oBr b tx h ht pa sl fi bf, oSt h o g f] [oJ cJ out fo, oBr b tx h ht pa sl fi bf, oSt h o g f]) := by
  refine k_bodyL (cc := cL_value) (nL := 4) (ret := some .int) (hh := [(0, 9, 12, 13)]) (by decide) rfl (Nat.le_of_ble_eq_true rfl) ?_
  intro p e s m args below meth c A cx ct hP hD hS ls hl
  obtain ⟨hx, hb, hml, hown, hts, hr, hlocks, hK, hA⟩ := id cx
  obtain ⟨hKJ, htab, hE, hN, hZ⟩ := ct
  obtain ⟨H, hH⟩ : ∃ H, H = s.heap := ⟨_, rfl⟩
  obtain ⟨locs, hL⟩ : ∃ locs : List Loc, locs = [] := ⟨_, rfl⟩
  have hS : va_S A s.heap H locs := by rw [hH, hL]; exact hS
  rw [← hH] at hP ⊢
  rw [← hL]
  clear hH hL
  have hl : lv_has ls 4 [(0, .ref b), (1, .int lim), (2, .ref out)] := hl
  have hC := c_X3_value l hlt G b tx h ht pa sl fi o g bf f lim
  generalize hu : P_X3_value bf f lim = u at hC htc ⊢
  refine lv_aload_n hx hb dL_value_0 rfl (lv_at hl 2 rfl) ?_
  refine lv_iconst (v := 0) hx hb dL_value_1 (by decide) ?_
  refine lv_aload_n hx hb dL_value_2 rfl (lv_at hl 0 rfl) ?_
  refine lv_iload_n hx hb dL_value_3 rfl (lv_at hl 1 rfl) ?_
  refine k_iX (t := u.1) (r := u.2) (ws' := [oJ cJ out fo, oBr b tx h ht pa sl fi bf, oSt h o g f]) (as := [b, h]) cx hP hD hS [1, 2] rfl (kr_VX (n := 1) (As := [.int lim]) (ci := 3) cx hE hZ hS hC gL_value_X3_value rfl rfl rfl (by decide +kernel) ⟨Nat.le_of_ble_eq_true rfl, Nat.le_of_ble_eq_true rfl⟩ rfl rfl rfl hP hD [1, 2] rfl rfl rfl rfl hl (Nat.le_of_ble_eq_true rfl) dL_value_4 ⟨Nat.le_of_ble_eq_true rfl, Nat.le_of_ble_eq_true rfl⟩) ⟨rfl, rfl⟩ rfl rfl (fun E ce9 q9 H locs hE9 hP hD hS hce hvm hcl => ?_) (fun H locs h0 hP hD hS => ?_)
  · rcases htc with h9 | h9
    · rw [h9] at hE9; have hE9 : (none : Option String) = some E := hE9; cases hE9
    · rw [h9] at hE9
      have hE9 : some "java/lang/IllegalArgumentException" = some E := hE9
      cases hE9
      refine vx_catch (E := "java/lang/IllegalArgumentException") (name := "java/lang/IllegalArgumentException") hown [] ⟨0, 9, 12, 13⟩ [] (by rw [htab]; rfl) (fun z hz => absurd hz List.not_mem_nil) (by decide) (by decide) (hts _ (by decide +kernel)) ((hE.1 (.castable "java/lang/IllegalArgumentException" "java/lang/IllegalArgumentException") (by decide +kernel)).use rfl) hce hvm hcl ?_
      refine lv_astore_n (lv' := [(3, .ref q9), (0, .ref b), (1, .int lim), (2, .ref out)]) hx hb dL_value_12 rfl hl (by decide) rfl (fun ls hl => ?_)
      refine lv_iconst (v := 1) hx hb dL_value_13 (by decide) ?_
      exact k_iretW (wf := [oJ cJ out fo, oBr b tx h ht pa sl fi bf, oSt h o g f]) cx (by rw [h9]; rfl) (by rw [h9]; rfl) hP hS dL_value_14
  · refine lv_i2l hx hb dL_value_7 rfl ?_
    refine k_last (ws' := [oJ cJ out (vp_updL fo 0 (u.2).toInt64), oBr b tx h ht pa sl fi bf, oSt h o g f]) cx hKJ hP hD hS 0 rfl (by unfold vp_in; decide) rfl dL_value_8 (fun H locs hP hD hS => ?_)
    refine lv_goto (tgt := 15) hx hb dL_value_9 (by decide) ?_
    refine lv_iconst (v := 0) hx hb dL_value_15 (by decide) ?_
    exact k_iretW (wf := [oJ cJ out (vp_updL fo 0 (u.2).toInt64), oBr b tx h ht pa sl fi bf, oSt h o g f]) cx (by rw [h0]; rfl) (by rw [h0]; rfl) hP hS dL_value_16

abbrev rmL_bestR : Room := { frames := 7, cells := 1, slots := 6, locals := 107 }
set_option maxHeartbeats 4000000 in
set_option maxRecDepth 100000 in
theorem c_L_bestR (l : Launch) (hlt : l.stackTraces = false) (G : gG) (cJ : ClassId) (out : Nat) (fo : Nat → Int64) (b : Nat) (tx : Nat) (h : Nat) (ht : Nat) (pa : Nat) (sl : Nat) (fi : Nat) (o : Nat) (g : Nat) (bf : Nat → Int32) (f : Nat → Int32) (oh : Nat → Int32) (i : Int32)  (htc : (P_X3_bestR bf f oh i).1 = 0 ∨ (P_X3_bestR bf f oh i).1 = 3) : kL l G cJ yL_bestR wsL_bestR rmL_bestR [.ref b, .int i, .ref out] [oJ cJ out fo, oBr b tx h ht pa sl fi bf, oSt h o g f, aI G o 6 oh] (qW G (hm 3 (P_X3_bestR bf f oh i).1) (P_X3_bestR bf f oh i).1 [oJ cJ out (vp_updL fo 0 ((P_X3_bestR bf f oh i).2).toInt64), oBr b tx h ht pa sl fi bf, oSt h o g f, aI G o 6 oh] [oJ cJ out fo, oBr b tx h ht pa sl fi bf, oSt h o g f, aI G o 6 oh]) := by
  refine k_bodyL (cc := cL_bestR) (nL := 4) (ret := some .int) (hh := [(0, 9, 12, 47)]) (by decide) rfl (Nat.le_of_ble_eq_true rfl) ?_
  intro p e s m args below meth c A cx ct hP hD hS ls hl
  obtain ⟨hx, hb, hml, hown, hts, hr, hlocks, hK, hA⟩ := id cx
  obtain ⟨hKJ, htab, hE, hN, hZ⟩ := ct
  obtain ⟨H, hH⟩ : ∃ H, H = s.heap := ⟨_, rfl⟩
  obtain ⟨locs, hL⟩ : ∃ locs : List Loc, locs = [] := ⟨_, rfl⟩
  have hS : va_S A s.heap H locs := by rw [hH, hL]; exact hS
  rw [← hH] at hP ⊢
  rw [← hL]
  clear hH hL
  have hl : lv_has ls 4 [(0, .ref b), (1, .int i), (2, .ref out)] := hl
  have hC := c_X3_bestR l hlt G b tx h ht pa sl fi o g bf f oh i
  generalize hu : P_X3_bestR bf f oh i = u at hC htc ⊢
  refine lv_aload_n hx hb dL_bestR_0 rfl (lv_at hl 2 rfl) ?_
  refine lv_iconst (v := 0) hx hb dL_bestR_1 (by decide) ?_
  refine lv_aload_n hx hb dL_bestR_2 rfl (lv_at hl 0 rfl) ?_
  refine lv_iload_n hx hb dL_bestR_3 rfl (lv_at hl 1 rfl) ?_
  refine k_iX (t := u.1) (r := u.2) (ws' := [oJ cJ out fo, oBr b tx h ht pa sl fi bf, oSt h o g f, aI G o 6 oh]) (as := [b, h, o]) cx hP hD hS [1, 2, 3] rfl (kr_VX (n := 1) (As := [.int i]) (ci := 3) cx hE hZ hS hC gL_bestR_X3_bestR rfl rfl rfl (by decide +kernel) ⟨Nat.le_of_ble_eq_true rfl, Nat.le_of_ble_eq_true rfl⟩ rfl rfl rfl hP hD [1, 2, 3] rfl rfl rfl rfl hl (Nat.le_of_ble_eq_true rfl) dL_bestR_4 ⟨Nat.le_of_ble_eq_true rfl, Nat.le_of_ble_eq_true rfl⟩) ⟨rfl, rfl⟩ rfl rfl (fun E ce9 q9 H locs hE9 hP hD hS hce hvm hcl => ?_) (fun H locs h0 hP hD hS => ?_)
  · rcases htc with h9 | h9
    · rw [h9] at hE9; have hE9 : (none : Option String) = some E := hE9; cases hE9
    · rw [h9] at hE9
      have hE9 : some "java/lang/IndexOutOfBoundsException" = some E := hE9
      cases hE9
      refine vx_catch (E := "java/lang/IndexOutOfBoundsException") (name := "java/lang/IndexOutOfBoundsException") hown [] ⟨0, 9, 12, 47⟩ [] (by rw [htab]; rfl) (fun z hz => absurd hz List.not_mem_nil) (by decide) (by decide) (hts _ (by decide +kernel)) ((hE.1 (.castable "java/lang/IndexOutOfBoundsException" "java/lang/IndexOutOfBoundsException") (by decide +kernel)).use rfl) hce hvm hcl ?_
      refine lv_astore_n (lv' := [(3, .ref q9), (0, .ref b), (1, .int i), (2, .ref out)]) hx hb dL_bestR_12 rfl hl (by decide) rfl (fun ls hl => ?_)
      refine lv_iconst (v := 1) hx hb dL_bestR_13 (by decide) ?_
      exact k_iretW (wf := [oJ cJ out fo, oBr b tx h ht pa sl fi bf, oSt h o g f, aI G o 6 oh]) cx (by rw [h9]; rfl) (by rw [h9]; rfl) hP hS dL_bestR_14
  · refine lv_i2l hx hb dL_bestR_7 rfl ?_
    refine k_last (ws' := [oJ cJ out (vp_updL fo 0 (u.2).toInt64), oBr b tx h ht pa sl fi bf, oSt h o g f, aI G o 6 oh]) cx hKJ hP hD hS 0 rfl (by unfold vp_in; decide) rfl dL_bestR_8 (fun H locs hP hD hS => ?_)
    refine lv_goto (tgt := 15) hx hb dL_bestR_9 (by decide) ?_
    refine lv_iconst (v := 0) hx hb dL_bestR_15 (by decide) ?_
    exact k_iretW (wf := [oJ cJ out (vp_updL fo 0 (u.2).toInt64), oBr b tx h ht pa sl fi bf, oSt h o g f, aI G o 6 oh]) cx (by rw [h0]; rfl) (by rw [h0]; rfl) hP hS dL_bestR_16

abbrev rmL_bestArms : Room := { frames := 7, cells := 1, slots := 6, locals := 105 }
set_option maxHeartbeats 4000000 in
set_option maxRecDepth 100000 in
theorem c_L_bestArms (l : Launch) (hlt : l.stackTraces = false) (G : gG) (cJ : ClassId) (out : Nat) (fo : Nat → Int64) (b : Nat) (tx : Nat) (h : Nat) (ht : Nat) (pa : Nat) (sl : Nat) (fi : Nat) (o : Nat) (g : Nat) (bf : Nat → Int32) (f : Nat → Int32) (oh : Nat → Int32) (i : Int32)  (htc : (P_X3_bestArms bf f oh i).1 = 0 ∨ (P_X3_bestArms bf f oh i).1 = 3) : kL l G cJ yL_bestArms wsL_bestArms rmL_bestArms [.ref b, .int i, .ref out] [oJ cJ out fo, oBr b tx h ht pa sl fi bf, oSt h o g f, aI G o 6 oh] (qW G (hm 3 (P_X3_bestArms bf f oh i).1) (P_X3_bestArms bf f oh i).1 [oJ cJ out (vp_updL fo 0 ((P_X3_bestArms bf f oh i).2).toInt64), oBr b tx h ht pa sl fi bf, oSt h o g f, aI G o 6 oh] [oJ cJ out fo, oBr b tx h ht pa sl fi bf, oSt h o g f, aI G o 6 oh]) := by
  refine k_bodyL (cc := cL_bestArms) (nL := 4) (ret := some .int) (hh := [(0, 9, 12, 47)]) (by decide) rfl (Nat.le_of_ble_eq_true rfl) ?_
  intro p e s m args below meth c A cx ct hP hD hS ls hl
  obtain ⟨hx, hb, hml, hown, hts, hr, hlocks, hK, hA⟩ := id cx
  obtain ⟨hKJ, htab, hE, hN, hZ⟩ := ct
  obtain ⟨H, hH⟩ : ∃ H, H = s.heap := ⟨_, rfl⟩
  obtain ⟨locs, hL⟩ : ∃ locs : List Loc, locs = [] := ⟨_, rfl⟩
  have hS : va_S A s.heap H locs := by rw [hH, hL]; exact hS
  rw [← hH] at hP ⊢
  rw [← hL]
  clear hH hL
  have hl : lv_has ls 4 [(0, .ref b), (1, .int i), (2, .ref out)] := hl
  have hC := c_X3_bestArms l hlt G b tx h ht pa sl fi o g bf f oh i
  generalize hu : P_X3_bestArms bf f oh i = u at hC htc ⊢
  refine lv_aload_n hx hb dL_bestArms_0 rfl (lv_at hl 2 rfl) ?_
  refine lv_iconst (v := 0) hx hb dL_bestArms_1 (by decide) ?_
  refine lv_aload_n hx hb dL_bestArms_2 rfl (lv_at hl 0 rfl) ?_
  refine lv_iload_n hx hb dL_bestArms_3 rfl (lv_at hl 1 rfl) ?_
  refine k_iX (t := u.1) (r := u.2) (ws' := [oJ cJ out fo, oBr b tx h ht pa sl fi bf, oSt h o g f, aI G o 6 oh]) (as := [b, h, o]) cx hP hD hS [1, 2, 3] rfl (kr_VX (n := 1) (As := [.int i]) (ci := 3) cx hE hZ hS hC gL_bestArms_X3_bestArms rfl rfl rfl (by decide +kernel) ⟨Nat.le_of_ble_eq_true rfl, Nat.le_of_ble_eq_true rfl⟩ rfl rfl rfl hP hD [1, 2, 3] rfl rfl rfl rfl hl (Nat.le_of_ble_eq_true rfl) dL_bestArms_4 ⟨Nat.le_of_ble_eq_true rfl, Nat.le_of_ble_eq_true rfl⟩) ⟨rfl, rfl⟩ rfl rfl (fun E ce9 q9 H locs hE9 hP hD hS hce hvm hcl => ?_) (fun H locs h0 hP hD hS => ?_)
  · rcases htc with h9 | h9
    · rw [h9] at hE9; have hE9 : (none : Option String) = some E := hE9; cases hE9
    · rw [h9] at hE9
      have hE9 : some "java/lang/IndexOutOfBoundsException" = some E := hE9
      cases hE9
      refine vx_catch (E := "java/lang/IndexOutOfBoundsException") (name := "java/lang/IndexOutOfBoundsException") hown [] ⟨0, 9, 12, 47⟩ [] (by rw [htab]; rfl) (fun z hz => absurd hz List.not_mem_nil) (by decide) (by decide) (hts _ (by decide +kernel)) ((hE.1 (.castable "java/lang/IndexOutOfBoundsException" "java/lang/IndexOutOfBoundsException") (by decide +kernel)).use rfl) hce hvm hcl ?_
      refine lv_astore_n (lv' := [(3, .ref q9), (0, .ref b), (1, .int i), (2, .ref out)]) hx hb dL_bestArms_12 rfl hl (by decide) rfl (fun ls hl => ?_)
      refine lv_iconst (v := 1) hx hb dL_bestArms_13 (by decide) ?_
      exact k_iretW (wf := [oJ cJ out fo, oBr b tx h ht pa sl fi bf, oSt h o g f, aI G o 6 oh]) cx (by rw [h9]; rfl) (by rw [h9]; rfl) hP hS dL_bestArms_14
  · refine lv_i2l hx hb dL_bestArms_7 rfl ?_
    refine k_last (ws' := [oJ cJ out (vp_updL fo 0 (u.2).toInt64), oBr b tx h ht pa sl fi bf, oSt h o g f, aI G o 6 oh]) cx hKJ hP hD hS 0 rfl (by unfold vp_in; decide) rfl dL_bestArms_8 (fun H locs hP hD hS => ?_)
    refine lv_goto (tgt := 15) hx hb dL_bestArms_9 (by decide) ?_
    refine lv_iconst (v := 0) hx hb dL_bestArms_15 (by decide) ?_
    exact k_iretW (wf := [oJ cJ out (vp_updL fo 0 (u.2).toInt64), oBr b tx h ht pa sl fi bf, oSt h o g f, aI G o 6 oh]) cx (by rw [h0]; rfl) (by rw [h0]; rfl) hP hS dL_bestArms_16

abbrev rmL_offsetAfter : Room := { frames := 7, cells := 1, slots := 6, locals := 106 }
set_option maxHeartbeats 4000000 in
set_option maxRecDepth 100000 in
theorem c_L_offsetAfter (l : Launch) (hlt : l.stackTraces = false) (G : gG) (cJ : ClassId) (out : Nat) (fo : Nat → Int64) (b : Nat) (tx : Nat) (h : Nat) (ht : Nat) (pa : Nat) (sl : Nat) (fi : Nat) (o : Nat) (g : Nat) (bf : Nat → Int32) (f : Nat → Int32) (pr : Int32) (wt : Int32)  (htc : (P_X3_offsetAfter bf f pr wt).1 = 0 ∨ (P_X3_offsetAfter bf f pr wt).1 = 1) : kL l G cJ yL_offsetAfter wsL_offsetAfter rmL_offsetAfter [.ref b, .int pr, .int wt, .ref out] [oJ cJ out fo, oBr b tx h ht pa sl fi bf, oSt h o g f] (qW G (hm 1 (P_X3_offsetAfter bf f pr wt).1) (P_X3_offsetAfter bf f pr wt).1 [oJ cJ out (vp_updL fo 0 ((P_X3_offsetAfter bf f pr wt).2).toInt64), oBr b tx h ht pa sl fi bf, oSt h o g f] [oJ cJ out fo, oBr b tx h ht pa sl fi bf, oSt h o g f]) := by
  refine k_bodyL (cc := cL_offsetAfter) (nL := 5) (ret := some .int) (hh := [(0, 10, 13, 13)]) (by decide) rfl (Nat.le_of_ble_eq_true rfl) ?_
  intro p e s m args below meth c A cx ct hP hD hS ls hl
  obtain ⟨hx, hb, hml, hown, hts, hr, hlocks, hK, hA⟩ := id cx
  obtain ⟨hKJ, htab, hE, hN, hZ⟩ := ct
  obtain ⟨H, hH⟩ : ∃ H, H = s.heap := ⟨_, rfl⟩
  obtain ⟨locs, hL⟩ : ∃ locs : List Loc, locs = [] := ⟨_, rfl⟩
  have hS : va_S A s.heap H locs := by rw [hH, hL]; exact hS
  rw [← hH] at hP ⊢
  rw [← hL]
  clear hH hL
  have hl : lv_has ls 5 [(0, .ref b), (1, .int pr), (2, .int wt), (3, .ref out)] := hl
  have hC := c_X3_offsetAfter l hlt G b tx h ht pa sl fi o g bf f pr wt
  generalize hu : P_X3_offsetAfter bf f pr wt = u at hC htc ⊢
  refine lv_aload_n hx hb dL_offsetAfter_0 rfl (lv_at hl 3 rfl) ?_
  refine lv_iconst (v := 0) hx hb dL_offsetAfter_1 (by decide) ?_
  refine lv_aload_n hx hb dL_offsetAfter_2 rfl (lv_at hl 0 rfl) ?_
  refine lv_iload_n hx hb dL_offsetAfter_3 rfl (lv_at hl 1 rfl) ?_
  refine lv_iload_n hx hb dL_offsetAfter_4 rfl (lv_at hl 2 rfl) ?_
  refine k_iX (t := u.1) (r := u.2) (ws' := [oJ cJ out fo, oBr b tx h ht pa sl fi bf, oSt h o g f]) (as := [b, h]) cx hP hD hS [1, 2] rfl (kr_VX (n := 2) (As := [.int pr, .int wt]) (ci := 3) cx hE hZ hS hC gL_offsetAfter_X3_offsetAfter rfl rfl rfl (by decide +kernel) ⟨Nat.le_of_ble_eq_true rfl, Nat.le_of_ble_eq_true rfl⟩ rfl rfl rfl hP hD [1, 2] rfl rfl rfl rfl hl (Nat.le_of_ble_eq_true rfl) dL_offsetAfter_5 ⟨Nat.le_of_ble_eq_true rfl, Nat.le_of_ble_eq_true rfl⟩) ⟨rfl, rfl⟩ rfl rfl (fun E ce9 q9 H locs hE9 hP hD hS hce hvm hcl => ?_) (fun H locs h0 hP hD hS => ?_)
  · rcases htc with h9 | h9
    · rw [h9] at hE9; have hE9 : (none : Option String) = some E := hE9; cases hE9
    · rw [h9] at hE9
      have hE9 : some "java/lang/IllegalArgumentException" = some E := hE9
      cases hE9
      refine vx_catch (E := "java/lang/IllegalArgumentException") (name := "java/lang/IllegalArgumentException") hown [] ⟨0, 10, 13, 13⟩ [] (by rw [htab]; rfl) (fun z hz => absurd hz List.not_mem_nil) (by decide) (by decide) (hts _ (by decide +kernel)) ((hE.1 (.castable "java/lang/IllegalArgumentException" "java/lang/IllegalArgumentException") (by decide +kernel)).use rfl) hce hvm hcl ?_
      refine lv_astore (lv' := [(4, .ref q9), (0, .ref b), (1, .int pr), (2, .int wt), (3, .ref out)]) hx hb dL_offsetAfter_13 hl (by decide) rfl (fun ls hl => ?_)
      refine lv_iconst (v := 1) hx hb dL_offsetAfter_15 (by decide) ?_
      exact k_iretW (wf := [oJ cJ out fo, oBr b tx h ht pa sl fi bf, oSt h o g f]) cx (by rw [h9]; rfl) (by rw [h9]; rfl) hP hS dL_offsetAfter_16
  · refine lv_i2l hx hb dL_offsetAfter_8 rfl ?_
    refine k_last (ws' := [oJ cJ out (vp_updL fo 0 (u.2).toInt64), oBr b tx h ht pa sl fi bf, oSt h o g f]) cx hKJ hP hD hS 0 rfl (by unfold vp_in; decide) rfl dL_offsetAfter_9 (fun H locs hP hD hS => ?_)
    refine lv_goto (tgt := 17) hx hb dL_offsetAfter_10 (by decide) ?_
    refine lv_iconst (v := 0) hx hb dL_offsetAfter_17 (by decide) ?_
    exact k_iretW (wf := [oJ cJ out (vp_updL fo 0 (u.2).toInt64), oBr b tx h ht pa sl fi bf, oSt h o g f]) cx (by rw [h0]; rfl) (by rw [h0]; rfl) hP hS dL_offsetAfter_18

abbrev rmL_waitFor : Room := { frames := 7, cells := 1, slots := 6, locals := 105 }
set_option maxHeartbeats 4000000 in
set_option maxRecDepth 100000 in
theorem c_L_waitFor (l : Launch) (hlt : l.stackTraces = false) (G : gG) (cJ : ClassId) (out : Nat) (fo : Nat → Int64) (b : Nat) (tx : Nat) (h : Nat) (ht : Nat) (pa : Nat) (sl : Nat) (fi : Nat) (o : Nat) (g : Nat) (bf : Nat → Int32) (f : Nat → Int32) (off : Int32)  (htc : (P_X3_waitFor bf f off).1 = 0 ∨ (P_X3_waitFor bf f off).1 = 1) : kL l G cJ yL_waitFor wsL_waitFor rmL_waitFor [.ref b, .int off, .ref out] [oJ cJ out fo, oBr b tx h ht pa sl fi bf, oSt h o g f] (qW G (hm 1 (P_X3_waitFor bf f off).1) (P_X3_waitFor bf f off).1 [oJ cJ out (vp_updL fo 0 ((P_X3_waitFor bf f off).2).toInt64), oBr b tx h ht pa sl fi bf, oSt h o g f] [oJ cJ out fo, oBr b tx h ht pa sl fi bf, oSt h o g f]) := by
  refine k_bodyL (cc := cL_waitFor) (nL := 4) (ret := some .int) (hh := [(0, 9, 12, 13)]) (by decide) rfl (Nat.le_of_ble_eq_true rfl) ?_
  intro p e s m args below meth c A cx ct hP hD hS ls hl
  obtain ⟨hx, hb, hml, hown, hts, hr, hlocks, hK, hA⟩ := id cx
  obtain ⟨hKJ, htab, hE, hN, hZ⟩ := ct
  obtain ⟨H, hH⟩ : ∃ H, H = s.heap := ⟨_, rfl⟩
  obtain ⟨locs, hL⟩ : ∃ locs : List Loc, locs = [] := ⟨_, rfl⟩
  have hS : va_S A s.heap H locs := by rw [hH, hL]; exact hS
  rw [← hH] at hP ⊢
  rw [← hL]
  clear hH hL
  have hl : lv_has ls 4 [(0, .ref b), (1, .int off), (2, .ref out)] := hl
  have hC := c_X3_waitFor l hlt G b tx h ht pa sl fi o g bf f off
  generalize hu : P_X3_waitFor bf f off = u at hC htc ⊢
  refine lv_aload_n hx hb dL_waitFor_0 rfl (lv_at hl 2 rfl) ?_
  refine lv_iconst (v := 0) hx hb dL_waitFor_1 (by decide) ?_
  refine lv_aload_n hx hb dL_waitFor_2 rfl (lv_at hl 0 rfl) ?_
  refine lv_iload_n hx hb dL_waitFor_3 rfl (lv_at hl 1 rfl) ?_
  refine k_iX (t := u.1) (r := u.2) (ws' := [oJ cJ out fo, oBr b tx h ht pa sl fi bf, oSt h o g f]) (as := [b, h]) cx hP hD hS [1, 2] rfl (kr_VX (n := 1) (As := [.int off]) (ci := 3) cx hE hZ hS hC gL_waitFor_X3_waitFor rfl rfl rfl (by decide +kernel) ⟨Nat.le_of_ble_eq_true rfl, Nat.le_of_ble_eq_true rfl⟩ rfl rfl rfl hP hD [1, 2] rfl rfl rfl rfl hl (Nat.le_of_ble_eq_true rfl) dL_waitFor_4 ⟨Nat.le_of_ble_eq_true rfl, Nat.le_of_ble_eq_true rfl⟩) ⟨rfl, rfl⟩ rfl rfl (fun E ce9 q9 H locs hE9 hP hD hS hce hvm hcl => ?_) (fun H locs h0 hP hD hS => ?_)
  · rcases htc with h9 | h9
    · rw [h9] at hE9; have hE9 : (none : Option String) = some E := hE9; cases hE9
    · rw [h9] at hE9
      have hE9 : some "java/lang/IllegalArgumentException" = some E := hE9
      cases hE9
      refine vx_catch (E := "java/lang/IllegalArgumentException") (name := "java/lang/IllegalArgumentException") hown [] ⟨0, 9, 12, 13⟩ [] (by rw [htab]; rfl) (fun z hz => absurd hz List.not_mem_nil) (by decide) (by decide) (hts _ (by decide +kernel)) ((hE.1 (.castable "java/lang/IllegalArgumentException" "java/lang/IllegalArgumentException") (by decide +kernel)).use rfl) hce hvm hcl ?_
      refine lv_astore_n (lv' := [(3, .ref q9), (0, .ref b), (1, .int off), (2, .ref out)]) hx hb dL_waitFor_12 rfl hl (by decide) rfl (fun ls hl => ?_)
      refine lv_iconst (v := 1) hx hb dL_waitFor_13 (by decide) ?_
      exact k_iretW (wf := [oJ cJ out fo, oBr b tx h ht pa sl fi bf, oSt h o g f]) cx (by rw [h9]; rfl) (by rw [h9]; rfl) hP hS dL_waitFor_14
  · refine lv_i2l hx hb dL_waitFor_7 rfl ?_
    refine k_last (ws' := [oJ cJ out (vp_updL fo 0 (u.2).toInt64), oBr b tx h ht pa sl fi bf, oSt h o g f]) cx hKJ hP hD hS 0 rfl (by unfold vp_in; decide) rfl dL_waitFor_8 (fun H locs hP hD hS => ?_)
    refine lv_goto (tgt := 15) hx hb dL_waitFor_9 (by decide) ?_
    refine lv_iconst (v := 0) hx hb dL_waitFor_15 (by decide) ?_
    exact k_iretW (wf := [oJ cJ out (vp_updL fo 0 (u.2).toInt64), oBr b tx h ht pa sl fi bf, oSt h o g f]) cx (by rw [h0]; rfl) (by rw [h0]; rfl) hP hS dL_waitFor_16

