/-! the law: its wrappers -/
abbrev rmL_balanced : Room := { frames := 7, cells := 1, slots := 6, locals := 134 }
set_option maxHeartbeats 4000000 in
set_option maxRecDepth 100000 in
theorem c_L_balanced (l : Launch) (hlt : l.stackTraces = false) (G : gG) (cJ : ClassId) (out : Nat) (fo : Nat → Int64) (b : Nat) (tx : Nat) (h : Nat) (ht : Nat) (pa : Nat) (sl : Nat) (fi : Nat) (o : Nat) (g : Nat) (k : Nat) (ot : Nat) (gt : Nat) (kt : Nat) (bf : Nat → Int32) (f : Nat → Int32) (oh : Nat → Int32) (lf : Nat → Int32) (ce : Nat → Int32) (ft : Nat → Int32) (oht : Nat → Int32) (lft : Nat → Int32) (cet : Nat → Int32) (what : Int32) (hst : f 9 = 0 ∨ f 9 = 1) (htc : (P_X3_balanced bf f oh lf ce ft oht lft cet what).1 = 0 ∨ (P_X3_balanced bf f oh lf ce ft oht lft cet what).1 = 1) : kL l G cJ yL_balanced wsL_balanced rmL_balanced [.ref b, .int what, .ref out] [oJ cJ out fo, oBr b tx h ht pa sl fi bf, oSt h o g f, aI G o 6 oh, oLed g k lf, aI G k 80 ce, oSt ht ot gt ft, aI G ot 6 oht, oLed gt kt lft, aI G kt 80 cet] (qW G (hm 1 (P_X3_balanced bf f oh lf ce ft oht lft cet what).1) (P_X3_balanced bf f oh lf ce ft oht lft cet what).1 [oJ cJ out (vp_updL fo 0 ((P_X3_balanced bf f oh lf ce ft oht lft cet what).2.1).toInt64), oBr b tx h ht pa sl fi bf, oSt h o g f, aI G o 6 oh, oLed g k lf, aI G k 80 ce, oSt ht ot gt ((P_X3_balanced bf f oh lf ce ft oht lft cet what).2.2.1), aI G ot 6 ((P_X3_balanced bf f oh lf ce ft oht lft cet what).2.2.2.1), oLed gt kt ((P_X3_balanced bf f oh lf ce ft oht lft cet what).2.2.2.2.1), aI G kt 80 ((P_X3_balanced bf f oh lf ce ft oht lft cet what).2.2.2.2.2)] [oJ cJ out fo, oBr b tx h ht pa sl fi bf, oSt h o g f, aI G o 6 oh, oLed g k lf, aI G k 80 ce, oSt ht ot gt ft, aI G ot 6 oht, oLed gt kt lft, aI G kt 80 cet]) := by
  refine k_bodyL (cc := cL_balanced) (nL := 4) (ret := some .int) (hh := [(0, 9, 12, 13)]) (by decide) rfl (Nat.le_of_ble_eq_true rfl) ?_
  intro p e s m args below meth c A cx ct hP hD hS ls hl
  obtain ⟨hx, hb, hml, hown, hts, hr, hlocks, hK, hA⟩ := id cx
  obtain ⟨hKJ, htab, hE, hN, hZ⟩ := ct
  obtain ⟨H, hH⟩ : ∃ H, H = s.heap := ⟨_, rfl⟩
  obtain ⟨locs, hL⟩ : ∃ locs : List Loc, locs = [] := ⟨_, rfl⟩
  have hS : va_S A s.heap H locs := by rw [hH, hL]; exact hS
  rw [← hH] at hP ⊢
  rw [← hL]
  clear hH hL
  have hl : lv_has ls 4 [(0, .ref b), (1, .int what), (2, .ref out)] := hl
  have hC := c_X3_balanced l hlt G b tx h ht pa sl fi o g k ot gt kt bf f oh lf ce ft oht lft cet what hst
  generalize hu : P_X3_balanced bf f oh lf ce ft oht lft cet what = u at hC htc ⊢
  refine lv_aload_n hx hb dL_balanced_0 rfl (lv_at hl 2 rfl) ?_
  refine lv_iconst (v := 0) hx hb dL_balanced_1 (by decide) ?_
  refine lv_aload_n hx hb dL_balanced_2 rfl (lv_at hl 0 rfl) ?_
  refine lv_iload_n hx hb dL_balanced_3 rfl (lv_at hl 1 rfl) ?_
  refine k_iX (t := u.1) (r := u.2.1) (ws' := [oJ cJ out fo, oBr b tx h ht pa sl fi bf, oSt h o g f, aI G o 6 oh, oLed g k lf, aI G k 80 ce, oSt ht ot gt (u.2.2.1), aI G ot 6 (u.2.2.2.1), oLed gt kt (u.2.2.2.2.1), aI G kt 80 (u.2.2.2.2.2)]) (as := [b, h, o, g, k, ht, ot, gt, kt]) cx hP hD hS [1, 2, 3, 4, 5, 6, 7, 8, 9] rfl (kr_VX (n := 1) (As := [.int what]) (ci := 3) cx hE hZ hS hC gL_balanced_X3_balanced rfl rfl rfl (by decide +kernel) ⟨Nat.le_of_ble_eq_true rfl, Nat.le_of_ble_eq_true rfl⟩ rfl rfl rfl hP hD [1, 2, 3, 4, 5, 6, 7, 8, 9] rfl rfl rfl rfl hl (Nat.le_of_ble_eq_true rfl) dL_balanced_4 ⟨Nat.le_of_ble_eq_true rfl, Nat.le_of_ble_eq_true rfl⟩) ⟨rfl, rfl⟩ rfl rfl (fun E ce9 q9 H locs hE9 hP hD hS hce hvm hcl => ?_) (fun H locs h0 hP hD hS => ?_)
  · rcases htc with h9 | h9
    · rw [h9] at hE9; have hE9 : (none : Option String) = some E := hE9; cases hE9
    · rw [h9] at hE9
      have hE9 : some "java/lang/IllegalArgumentException" = some E := hE9
      cases hE9
      refine vx_catch (E := "java/lang/IllegalArgumentException") (name := "java/lang/IllegalArgumentException") hown [] ⟨0, 9, 12, 13⟩ [] (by rw [htab]; rfl) (fun z hz => absurd hz List.not_mem_nil) (by decide) (by decide) (hts _ (by decide +kernel)) ((hE.1 (.castable "java/lang/IllegalArgumentException" "java/lang/IllegalArgumentException") (by decide +kernel)).use rfl) hce hvm hcl ?_
      refine lv_astore_n (lv' := [(3, .ref q9), (0, .ref b), (1, .int what), (2, .ref out)]) hx hb dL_balanced_12 rfl hl (by decide) rfl (fun ls hl => ?_)
      refine lv_iconst (v := 1) hx hb dL_balanced_13 (by decide) ?_
      exact k_iretW (wf := [oJ cJ out fo, oBr b tx h ht pa sl fi bf, oSt h o g f, aI G o 6 oh, oLed g k lf, aI G k 80 ce, oSt ht ot gt ft, aI G ot 6 oht, oLed gt kt lft, aI G kt 80 cet]) cx (by rw [h9]; rfl) (by rw [h9]; rfl) hP hS dL_balanced_14
  · refine lv_i2l hx hb dL_balanced_7 rfl ?_
    refine k_last (ws' := [oJ cJ out (vp_updL fo 0 (u.2.1).toInt64), oBr b tx h ht pa sl fi bf, oSt h o g f, aI G o 6 oh, oLed g k lf, aI G k 80 ce, oSt ht ot gt (u.2.2.1), aI G ot 6 (u.2.2.2.1), oLed gt kt (u.2.2.2.2.1), aI G kt 80 (u.2.2.2.2.2)]) cx hKJ hP hD hS 0 rfl (by unfold vp_in; decide) rfl dL_balanced_8 (fun H locs hP hD hS => ?_)
    refine lv_goto (tgt := 15) hx hb dL_balanced_9 (by decide) ?_
    refine lv_iconst (v := 0) hx hb dL_balanced_15 (by decide) ?_
    exact k_iretW (wf := [oJ cJ out (vp_updL fo 0 (u.2.1).toInt64), oBr b tx h ht pa sl fi bf, oSt h o g f, aI G o 6 oh, oLed g k lf, aI G k 80 ce, oSt ht ot gt (u.2.2.1), aI G ot 6 (u.2.2.2.1), oLed gt kt (u.2.2.2.2.1), aI G kt 80 (u.2.2.2.2.2)]) cx (by rw [h0]; rfl) (by rw [h0]; rfl) hP hS dL_balanced_16

abbrev rmL_runScript : Room := { frames := 7, cells := 1, slots := 6, locals := 162 }
set_option maxHeartbeats 4000000 in
set_option maxRecDepth 100000 in
theorem c_L_runScript (l : Launch) (hlt : l.stackTraces = false) (G : gG) (cJ : ClassId) (out : Nat) (fo : Nat → Int64) (b : Nat) (tx : Nat) (h : Nat) (ht : Nat) (pa : Nat) (sl : Nat) (fi : Nat) (o : Nat) (g : Nat) (k : Nat) (ot : Nat) (gt : Nat) (kt : Nat) (bf : Nat → Int32) (f : Nat → Int32) (oh : Nat → Int32) (lf : Nat → Int32) (ce : Nat → Int32) (ft : Nat → Int32) (oht : Nat → Int32) (lft : Nat → Int32) (cet : Nat → Int32) (nn : Int32) (sc : Int64) (hst : f 9 = 0 ∨ f 9 = 1) (htc : (P_X3_runScript bf f oh lf ce ft oht lft cet nn sc).1 = 0 ∨ (P_X3_runScript bf f oh lf ce ft oht lft cet nn sc).1 = 1) : kL l G cJ yL_runScript wsL_runScript rmL_runScript [.ref b, .int nn, .long sc, .ref out] [oJ cJ out fo, oBr b tx h ht pa sl fi bf, oSt h o g f, aI G o 6 oh, oLed g k lf, aI G k 80 ce, oSt ht ot gt ft, aI G ot 6 oht, oLed gt kt lft, aI G kt 80 cet] (qW G (hm 1 (P_X3_runScript bf f oh lf ce ft oht lft cet nn sc).1) (P_X3_runScript bf f oh lf ce ft oht lft cet nn sc).1 [oJ cJ out (vp_updL fo 0 ((P_X3_runScript bf f oh lf ce ft oht lft cet nn sc).2.1).toInt64), oBr b tx h ht pa sl fi bf, oSt h o g f, aI G o 6 oh, oLed g k lf, aI G k 80 ce, oSt ht ot gt ((P_X3_runScript bf f oh lf ce ft oht lft cet nn sc).2.2.1), aI G ot 6 ((P_X3_runScript bf f oh lf ce ft oht lft cet nn sc).2.2.2.1), oLed gt kt ((P_X3_runScript bf f oh lf ce ft oht lft cet nn sc).2.2.2.2.1), aI G kt 80 ((P_X3_runScript bf f oh lf ce ft oht lft cet nn sc).2.2.2.2.2)] [oJ cJ out fo, oBr b tx h ht pa sl fi bf, oSt h o g f, aI G o 6 oh, oLed g k lf, aI G k 80 ce, oSt ht ot gt ft, aI G ot 6 oht, oLed gt kt lft, aI G kt 80 cet]) := by
  refine k_bodyL (cc := cL_runScript) (nL := 6) (ret := some .int) (hh := [(0, 11, 14, 13)]) (by decide) rfl (Nat.le_of_ble_eq_true rfl) ?_
  intro p e s m args below meth c A cx ct hP hD hS ls hl
  obtain ⟨hx, hb, hml, hown, hts, hr, hlocks, hK, hA⟩ := id cx
  obtain ⟨hKJ, htab, hE, hN, hZ⟩ := ct
  obtain ⟨H, hH⟩ : ∃ H, H = s.heap := ⟨_, rfl⟩
  obtain ⟨locs, hL⟩ : ∃ locs : List Loc, locs = [] := ⟨_, rfl⟩
  have hS : va_S A s.heap H locs := by rw [hH, hL]; exact hS
  rw [← hH] at hP ⊢
  rw [← hL]
  clear hH hL
  have hl : lv_has ls 6 [(0, .ref b), (1, .int nn), (2, .long sc), (4, .ref out)] := hl
  have hC := c_X3_runScript l hlt G b tx h ht pa sl fi o g k ot gt kt bf f oh lf ce ft oht lft cet nn sc hst
  generalize hu : P_X3_runScript bf f oh lf ce ft oht lft cet nn sc = u at hC htc ⊢
  refine lv_aload hx hb dL_runScript_0 (lv_at hl 3 rfl) ?_
  refine lv_iconst (v := 0) hx hb dL_runScript_2 (by decide) ?_
  refine lv_aload_n hx hb dL_runScript_3 rfl (lv_at hl 0 rfl) ?_
  refine lv_iload_n hx hb dL_runScript_4 rfl (lv_at hl 1 rfl) ?_
  refine lv_lload_n hx hb dL_runScript_5 rfl (lv_at hl 2 rfl) ?_
  refine k_iX (t := u.1) (r := u.2.1) (ws' := [oJ cJ out fo, oBr b tx h ht pa sl fi bf, oSt h o g f, aI G o 6 oh, oLed g k lf, aI G k 80 ce, oSt ht ot gt (u.2.2.1), aI G ot 6 (u.2.2.2.1), oLed gt kt (u.2.2.2.2.1), aI G kt 80 (u.2.2.2.2.2)]) (as := [b, h, o, g, k, ht, ot, gt, kt]) cx hP hD hS [1, 2, 3, 4, 5, 6, 7, 8, 9] rfl (kr_VX (n := 2) (As := [.int nn, .long sc]) (ci := 3) cx hE hZ hS hC gL_runScript_X3_runScript rfl rfl rfl (by decide +kernel) ⟨Nat.le_of_ble_eq_true rfl, Nat.le_of_ble_eq_true rfl⟩ rfl rfl rfl hP hD [1, 2, 3, 4, 5, 6, 7, 8, 9] rfl rfl rfl rfl hl (Nat.le_of_ble_eq_true rfl) dL_runScript_6 ⟨Nat.le_of_ble_eq_true rfl, Nat.le_of_ble_eq_true rfl⟩) ⟨rfl, rfl⟩ rfl rfl (fun E ce9 q9 H locs hE9 hP hD hS hce hvm hcl => ?_) (fun H locs h0 hP hD hS => ?_)
  · rcases htc with h9 | h9
    · rw [h9] at hE9; have hE9 : (none : Option String) = some E := hE9; cases hE9
    · rw [h9] at hE9
      have hE9 : some "java/lang/IllegalArgumentException" = some E := hE9
      cases hE9
      refine vx_catch (E := "java/lang/IllegalArgumentException") (name := "java/lang/IllegalArgumentException") hown [] ⟨0, 11, 14, 13⟩ [] (by rw [htab]; rfl) (fun z hz => absurd hz List.not_mem_nil) (by decide) (by decide) (hts _ (by decide +kernel)) ((hE.1 (.castable "java/lang/IllegalArgumentException" "java/lang/IllegalArgumentException") (by decide +kernel)).use rfl) hce hvm hcl ?_
      refine lv_astore (lv' := [(5, .ref q9), (0, .ref b), (1, .int nn), (2, .long sc), (4, .ref out)]) hx hb dL_runScript_14 hl (by decide) rfl (fun ls hl => ?_)
      refine lv_iconst (v := 1) hx hb dL_runScript_16 (by decide) ?_
      exact k_iretW (wf := [oJ cJ out fo, oBr b tx h ht pa sl fi bf, oSt h o g f, aI G o 6 oh, oLed g k lf, aI G k 80 ce, oSt ht ot gt ft, aI G ot 6 oht, oLed gt kt lft, aI G kt 80 cet]) cx (by rw [h9]; rfl) (by rw [h9]; rfl) hP hS dL_runScript_17
  · refine lv_i2l hx hb dL_runScript_9 rfl ?_
    refine k_last (ws' := [oJ cJ out (vp_updL fo 0 (u.2.1).toInt64), oBr b tx h ht pa sl fi bf, oSt h o g f, aI G o 6 oh, oLed g k lf, aI G k 80 ce, oSt ht ot gt (u.2.2.1), aI G ot 6 (u.2.2.2.1), oLed gt kt (u.2.2.2.2.1), aI G kt 80 (u.2.2.2.2.2)]) cx hKJ hP hD hS 0 rfl (by unfold vp_in; decide) rfl dL_runScript_10 (fun H locs hP hD hS => ?_)
    refine lv_goto (tgt := 18) hx hb dL_runScript_11 (by decide) ?_
    refine lv_iconst (v := 0) hx hb dL_runScript_18 (by decide) ?_
    exact k_iretW (wf := [oJ cJ out (vp_updL fo 0 (u.2.1).toInt64), oBr b tx h ht pa sl fi bf, oSt h o g f, aI G o 6 oh, oLed g k lf, aI G k 80 ce, oSt ht ot gt (u.2.2.1), aI G ot 6 (u.2.2.2.1), oLed gt kt (u.2.2.2.2.1), aI G kt 80 (u.2.2.2.2.2)]) cx (by rw [h0]; rfl) (by rw [h0]; rfl) hP hS dL_runScript_19

abbrev rmL_simulate : Room := { frames := 7, cells := 1, slots := 6, locals := 124 }
set_option maxHeartbeats 4000000 in
set_option maxRecDepth 100000 in
theorem c_L_simulate (l : Launch) (hlt : l.stackTraces = false) (G : gG) (cJ : ClassId) (out : Nat) (fo : Nat → Int64) (b : Nat) (tx : Nat) (h : Nat) (ht : Nat) (pa : Nat) (sl : Nat) (fi : Nat) (o : Nat) (g : Nat) (k : Nat) (ot : Nat) (gt : Nat) (kt : Nat) (bf : Nat → Int32) (f : Nat → Int32) (oh : Nat → Int32) (lf : Nat → Int32) (ce : Nat → Int32) (ft : Nat → Int32) (oht : Nat → Int32) (lft : Nat → Int32) (cet : Nat → Int32) (sd : Int64) (mm : Int32) (hst : f 9 = 0 ∨ f 9 = 1) (htc : (P_X3_simulate bf f oh lf ce ft oht lft cet sd mm).1 = 0 ∨ (P_X3_simulate bf f oh lf ce ft oht lft cet sd mm).1 = 1) : kL l G cJ yL_simulate wsL_simulate rmL_simulate [.ref b, .long sd, .int mm, .ref out] [oJ cJ out fo, oBr b tx h ht pa sl fi bf, oSt h o g f, aI G o 6 oh, oLed g k lf, aI G k 80 ce, oSt ht ot gt ft, aI G ot 6 oht, oLed gt kt lft, aI G kt 80 cet] (qW G (hm 1 (P_X3_simulate bf f oh lf ce ft oht lft cet sd mm).1) (P_X3_simulate bf f oh lf ce ft oht lft cet sd mm).1 [oJ cJ out (vp_updL fo 0 ((P_X3_simulate bf f oh lf ce ft oht lft cet sd mm).2.1).toInt64), oBr b tx h ht pa sl fi bf, oSt h o g f, aI G o 6 oh, oLed g k lf, aI G k 80 ce, oSt ht ot gt ((P_X3_simulate bf f oh lf ce ft oht lft cet sd mm).2.2.1), aI G ot 6 ((P_X3_simulate bf f oh lf ce ft oht lft cet sd mm).2.2.2.1), oLed gt kt ((P_X3_simulate bf f oh lf ce ft oht lft cet sd mm).2.2.2.2.1), aI G kt 80 ((P_X3_simulate bf f oh lf ce ft oht lft cet sd mm).2.2.2.2.2)] [oJ cJ out fo, oBr b tx h ht pa sl fi bf, oSt h o g f, aI G o 6 oh, oLed g k lf, aI G k 80 ce, oSt ht ot gt ft, aI G ot 6 oht, oLed gt kt lft, aI G kt 80 cet]) := by
  refine k_bodyL (cc := cL_simulate) (nL := 6) (ret := some .int) (hh := [(0, 11, 14, 13)]) (by decide) rfl (Nat.le_of_ble_eq_true rfl) ?_
  intro p e s m args below meth c A cx ct hP hD hS ls hl
  obtain ⟨hx, hb, hml, hown, hts, hr, hlocks, hK, hA⟩ := id cx
  obtain ⟨hKJ, htab, hE, hN, hZ⟩ := ct
  obtain ⟨H, hH⟩ : ∃ H, H = s.heap := ⟨_, rfl⟩
  obtain ⟨locs, hL⟩ : ∃ locs : List Loc, locs = [] := ⟨_, rfl⟩
  have hS : va_S A s.heap H locs := by rw [hH, hL]; exact hS
  rw [← hH] at hP ⊢
  rw [← hL]
  clear hH hL
  have hl : lv_has ls 6 [(0, .ref b), (1, .long sd), (3, .int mm), (4, .ref out)] := hl
  have hC := c_X3_simulate l hlt G b tx h ht pa sl fi o g k ot gt kt bf f oh lf ce ft oht lft cet sd mm hst
  generalize hu : P_X3_simulate bf f oh lf ce ft oht lft cet sd mm = u at hC htc ⊢
  refine lv_aload hx hb dL_simulate_0 (lv_at hl 3 rfl) ?_
  refine lv_iconst (v := 0) hx hb dL_simulate_2 (by decide) ?_
  refine lv_aload_n hx hb dL_simulate_3 rfl (lv_at hl 0 rfl) ?_
  refine lv_lload_n hx hb dL_simulate_4 rfl (lv_at hl 1 rfl) ?_
  refine lv_iload_n hx hb dL_simulate_5 rfl (lv_at hl 2 rfl) ?_
  refine k_iX (t := u.1) (r := u.2.1) (ws' := [oJ cJ out fo, oBr b tx h ht pa sl fi bf, oSt h o g f, aI G o 6 oh, oLed g k lf, aI G k 80 ce, oSt ht ot gt (u.2.2.1), aI G ot 6 (u.2.2.2.1), oLed gt kt (u.2.2.2.2.1), aI G kt 80 (u.2.2.2.2.2)]) (as := [b, h, o, g, k, ht, ot, gt, kt]) cx hP hD hS [1, 2, 3, 4, 5, 6, 7, 8, 9] rfl (kr_VX (n := 2) (As := [.long sd, .int mm]) (ci := 3) cx hE hZ hS hC gL_simulate_X3_simulate rfl rfl rfl (by decide +kernel) ⟨Nat.le_of_ble_eq_true rfl, Nat.le_of_ble_eq_true rfl⟩ rfl rfl rfl hP hD [1, 2, 3, 4, 5, 6, 7, 8, 9] rfl rfl rfl rfl hl (Nat.le_of_ble_eq_true rfl) dL_simulate_6 ⟨Nat.le_of_ble_eq_true rfl, Nat.le_of_ble_eq_true rfl⟩) ⟨rfl, rfl⟩ rfl rfl (fun E ce9 q9 H locs hE9 hP hD hS hce hvm hcl => ?_) (fun H locs h0 hP hD hS => ?_)
  · rcases htc with h9 | h9
    · rw [h9] at hE9; have hE9 : (none : Option String) = some E := hE9; cases hE9
    · rw [h9] at hE9
      have hE9 : some "java/lang/IllegalArgumentException" = some E := hE9
      cases hE9
      refine vx_catch (E := "java/lang/IllegalArgumentException") (name := "java/lang/IllegalArgumentException") hown [] ⟨0, 11, 14, 13⟩ [] (by rw [htab]; rfl) (fun z hz => absurd hz List.not_mem_nil) (by decide) (by decide) (hts _ (by decide +kernel)) ((hE.1 (.castable "java/lang/IllegalArgumentException" "java/lang/IllegalArgumentException") (by decide +kernel)).use rfl) hce hvm hcl ?_
      refine lv_astore (lv' := [(5, .ref q9), (0, .ref b), (1, .long sd), (3, .int mm), (4, .ref out)]) hx hb dL_simulate_14 hl (by decide) rfl (fun ls hl => ?_)
      refine lv_iconst (v := 1) hx hb dL_simulate_16 (by decide) ?_
      exact k_iretW (wf := [oJ cJ out fo, oBr b tx h ht pa sl fi bf, oSt h o g f, aI G o 6 oh, oLed g k lf, aI G k 80 ce, oSt ht ot gt ft, aI G ot 6 oht, oLed gt kt lft, aI G kt 80 cet]) cx (by rw [h9]; rfl) (by rw [h9]; rfl) hP hS dL_simulate_17
  · refine lv_i2l hx hb dL_simulate_9 rfl ?_
    refine k_last (ws' := [oJ cJ out (vp_updL fo 0 (u.2.1).toInt64), oBr b tx h ht pa sl fi bf, oSt h o g f, aI G o 6 oh, oLed g k lf, aI G k 80 ce, oSt ht ot gt (u.2.2.1), aI G ot 6 (u.2.2.2.1), oLed gt kt (u.2.2.2.2.1), aI G kt 80 (u.2.2.2.2.2)]) cx hKJ hP hD hS 0 rfl (by unfold vp_in; decide) rfl dL_simulate_10 (fun H locs hP hD hS => ?_)
    refine lv_goto (tgt := 18) hx hb dL_simulate_11 (by decide) ?_
    refine lv_iconst (v := 0) hx hb dL_simulate_18 (by decide) ?_
    exact k_iretW (wf := [oJ cJ out (vp_updL fo 0 (u.2.1).toInt64), oBr b tx h ht pa sl fi bf, oSt h o g f, aI G o 6 oh, oLed g k lf, aI G k 80 ce, oSt ht ot gt (u.2.2.1), aI G ot 6 (u.2.2.2.1), oLed gt kt (u.2.2.2.2.1), aI G kt 80 (u.2.2.2.2.2)]) cx (by rw [h0]; rfl) (by rw [h0]; rfl) hP hS dL_simulate_19

abbrev rmL_save : Room := { frames := 7, cells := 1, slots := 6, locals := 104 }
set_option maxHeartbeats 4000000 in
set_option maxRecDepth 100000 in
theorem c_L_save (l : Launch) (hlt : l.stackTraces = false) (G : gG) (cJ : ClassId) (out : Nat) (fo : Nat → Int64) (b : Nat) (tx : Nat) (h : Nat) (ht : Nat) (pa : Nat) (sl : Nat) (fi : Nat) (o : Nat) (g : Nat) (k : Nat) (h2 : Nat) (o2 : Nat) (g2 : Nat) (k2 : Nat) (bf : Nat → Int32) (sg : Nat → Option Nat) (ff : Nat → Int32) (f : Nat → Int32) (oh : Nat → Int32) (lf : Nat → Int32) (ce : Nat → Int32) (f2 : Nat → Int32) (oh2 : Nat → Int32) (lf2 : Nat → Int32) (ce2 : Nat → Int32) (slt : Int32) (hst : f 9 = 0 ∨ f 9 = 1) (hsl : P_X3_outside slt 0 1 = 0 → P_X3_entry 2 sg slt = some h2) (htc : (P_X3_save bf sg ff f oh lf ce f2 oh2 lf2 ce2 slt).1 = 0 ∨ (P_X3_save bf sg ff f oh lf ce f2 oh2 lf2 ce2 slt).1 = 3) : kL l G cJ yL_save wsL_save rmL_save [.ref b, .int slt, .ref out] [oJ cJ out fo, oBr b tx h ht pa sl fi bf, aS G sl 2 sg, aZ G fi 2 ff, oSt h o g f, aI G o 6 oh, oLed g k lf, aI G k 80 ce, oSt h2 o2 g2 f2, aI G o2 6 oh2, oLed g2 k2 lf2, aI G k2 80 ce2] (qW G (hm 3 (P_X3_save bf sg ff f oh lf ce f2 oh2 lf2 ce2 slt).1) (P_X3_save bf sg ff f oh lf ce f2 oh2 lf2 ce2 slt).1 [oJ cJ out (vp_updL fo 0 ((P_X3_save bf sg ff f oh lf ce f2 oh2 lf2 ce2 slt).2.1).toInt64), oBr b tx h ht pa sl fi bf, aS G sl 2 sg, aZ G fi 2 ((P_X3_save bf sg ff f oh lf ce f2 oh2 lf2 ce2 slt).2.2.1), oSt h o g f, aI G o 6 oh, oLed g k lf, aI G k 80 ce, oSt h2 o2 g2 ((P_X3_save bf sg ff f oh lf ce f2 oh2 lf2 ce2 slt).2.2.2.1), aI G o2 6 ((P_X3_save bf sg ff f oh lf ce f2 oh2 lf2 ce2 slt).2.2.2.2.1), oLed g2 k2 ((P_X3_save bf sg ff f oh lf ce f2 oh2 lf2 ce2 slt).2.2.2.2.2.1), aI G k2 80 ((P_X3_save bf sg ff f oh lf ce f2 oh2 lf2 ce2 slt).2.2.2.2.2.2)] [oJ cJ out fo, oBr b tx h ht pa sl fi bf, aS G sl 2 sg, aZ G fi 2 ff, oSt h o g f, aI G o 6 oh, oLed g k lf, aI G k 80 ce, oSt h2 o2 g2 f2, aI G o2 6 oh2, oLed g2 k2 lf2, aI G k2 80 ce2]) := by
  refine k_bodyL (cc := cL_save) (nL := 4) (ret := some .int) (hh := [(0, 9, 12, 47)]) (by decide) rfl (Nat.le_of_ble_eq_true rfl) ?_
  intro p e s m args below meth c A cx ct hP hD hS ls hl
  obtain ⟨hx, hb, hml, hown, hts, hr, hlocks, hK, hA⟩ := id cx
  obtain ⟨hKJ, htab, hE, hN, hZ⟩ := ct
  obtain ⟨H, hH⟩ : ∃ H, H = s.heap := ⟨_, rfl⟩
  obtain ⟨locs, hL⟩ : ∃ locs : List Loc, locs = [] := ⟨_, rfl⟩
  have hS : va_S A s.heap H locs := by rw [hH, hL]; exact hS
  rw [← hH] at hP ⊢
  rw [← hL]
  clear hH hL
  have hl : lv_has ls 4 [(0, .ref b), (1, .int slt), (2, .ref out)] := hl
  have hC := c_X3_save l hlt G b tx h ht pa sl fi o g k h2 o2 g2 k2 bf sg ff f oh lf ce f2 oh2 lf2 ce2 slt hst hsl
  generalize hu : P_X3_save bf sg ff f oh lf ce f2 oh2 lf2 ce2 slt = u at hC htc ⊢
  refine lv_aload_n hx hb dL_save_0 rfl (lv_at hl 2 rfl) ?_
  refine lv_iconst (v := 0) hx hb dL_save_1 (by decide) ?_
  refine lv_aload_n hx hb dL_save_2 rfl (lv_at hl 0 rfl) ?_
  refine lv_iload_n hx hb dL_save_3 rfl (lv_at hl 1 rfl) ?_
  refine k_iX (t := u.1) (r := u.2.1) (ws' := [oJ cJ out fo, oBr b tx h ht pa sl fi bf, aS G sl 2 sg, aZ G fi 2 (u.2.2.1), oSt h o g f, aI G o 6 oh, oLed g k lf, aI G k 80 ce, oSt h2 o2 g2 (u.2.2.2.1), aI G o2 6 (u.2.2.2.2.1), oLed g2 k2 (u.2.2.2.2.2.1), aI G k2 80 (u.2.2.2.2.2.2)]) (as := [b, sl, fi, h, o, g, k, h2, o2, g2, k2]) cx hP hD hS [1, 2, 3, 4, 5, 6, 7, 8, 9, 10, 11] rfl (kr_VX (n := 1) (As := [.int slt]) (ci := 3) cx hE hZ hS hC gL_save_X3_save rfl rfl rfl (by decide +kernel) ⟨Nat.le_of_ble_eq_true rfl, Nat.le_of_ble_eq_true rfl⟩ rfl rfl rfl hP hD [1, 2, 3, 4, 5, 6, 7, 8, 9, 10, 11] rfl rfl rfl rfl hl (Nat.le_of_ble_eq_true rfl) dL_save_4 ⟨Nat.le_of_ble_eq_true rfl, Nat.le_of_ble_eq_true rfl⟩) ⟨rfl, rfl⟩ rfl rfl (fun E ce9 q9 H locs hE9 hP hD hS hce hvm hcl => ?_) (fun H locs h0 hP hD hS => ?_)
  · rcases htc with h9 | h9
    · rw [h9] at hE9; have hE9 : (none : Option String) = some E := hE9; cases hE9
    · rw [h9] at hE9
      have hE9 : some "java/lang/IndexOutOfBoundsException" = some E := hE9
      cases hE9
      refine vx_catch (E := "java/lang/IndexOutOfBoundsException") (name := "java/lang/IndexOutOfBoundsException") hown [] ⟨0, 9, 12, 47⟩ [] (by rw [htab]; rfl) (fun z hz => absurd hz List.not_mem_nil) (by decide) (by decide) (hts _ (by decide +kernel)) ((hE.1 (.castable "java/lang/IndexOutOfBoundsException" "java/lang/IndexOutOfBoundsException") (by decide +kernel)).use rfl) hce hvm hcl ?_
      refine lv_astore_n (lv' := [(3, .ref q9), (0, .ref b), (1, .int slt), (2, .ref out)]) hx hb dL_save_12 rfl hl (by decide) rfl (fun ls hl => ?_)
      refine lv_iconst (v := 1) hx hb dL_save_13 (by decide) ?_
      exact k_iretW (wf := [oJ cJ out fo, oBr b tx h ht pa sl fi bf, aS G sl 2 sg, aZ G fi 2 ff, oSt h o g f, aI G o 6 oh, oLed g k lf, aI G k 80 ce, oSt h2 o2 g2 f2, aI G o2 6 oh2, oLed g2 k2 lf2, aI G k2 80 ce2]) cx (by rw [h9]; rfl) (by rw [h9]; rfl) hP hS dL_save_14
  · refine lv_i2l hx hb dL_save_7 rfl ?_
    refine k_last (ws' := [oJ cJ out (vp_updL fo 0 (u.2.1).toInt64), oBr b tx h ht pa sl fi bf, aS G sl 2 sg, aZ G fi 2 (u.2.2.1), oSt h o g f, aI G o 6 oh, oLed g k lf, aI G k 80 ce, oSt h2 o2 g2 (u.2.2.2.1), aI G o2 6 (u.2.2.2.2.1), oLed g2 k2 (u.2.2.2.2.2.1), aI G k2 80 (u.2.2.2.2.2.2)]) cx hKJ hP hD hS 0 rfl (by unfold vp_in; decide) rfl dL_save_8 (fun H locs hP hD hS => ?_)
    refine lv_goto (tgt := 15) hx hb dL_save_9 (by decide) ?_
    refine lv_iconst (v := 0) hx hb dL_save_15 (by decide) ?_
    exact k_iretW (wf := [oJ cJ out (vp_updL fo 0 (u.2.1).toInt64), oBr b tx h ht pa sl fi bf, aS G sl 2 sg, aZ G fi 2 (u.2.2.1), oSt h o g f, aI G o 6 oh, oLed g k lf, aI G k 80 ce, oSt h2 o2 g2 (u.2.2.2.1), aI G o2 6 (u.2.2.2.2.1), oLed g2 k2 (u.2.2.2.2.2.1), aI G k2 80 (u.2.2.2.2.2.2)]) cx (by rw [h0]; rfl) (by rw [h0]; rfl) hP hS dL_save_16

abbrev rmL_restore : Room := { frames := 7, cells := 1, slots := 6, locals := 103 }
set_option maxHeartbeats 4000000 in
set_option maxRecDepth 100000 in
theorem c_L_restore (l : Launch) (hlt : l.stackTraces = false) (G : gG) (cJ : ClassId) (out : Nat) (fo : Nat → Int64) (b : Nat) (tx : Nat) (h : Nat) (ht : Nat) (pa : Nat) (sl : Nat) (fi : Nat) (o : Nat) (g : Nat) (k : Nat) (h2 : Nat) (o2 : Nat) (g2 : Nat) (k2 : Nat) (bf : Nat → Int32) (sg : Nat → Option Nat) (ff : Nat → Int32) (f : Nat → Int32) (oh : Nat → Int32) (lf : Nat → Int32) (ce : Nat → Int32) (f2 : Nat → Int32) (oh2 : Nat → Int32) (lf2 : Nat → Int32) (ce2 : Nat → Int32) (slt : Int32) (hst2 : f2 9 = 0 ∨ f2 9 = 1) (hsl : P_X3_outside slt 0 1 = 0 → P_X3_entry 2 sg slt = some h2) (htc : (P_X3_restore bf sg ff f oh lf ce f2 oh2 lf2 ce2 slt).1 = 0 ∨ (P_X3_restore bf sg ff f oh lf ce f2 oh2 lf2 ce2 slt).1 = 3 ∨ (P_X3_restore bf sg ff f oh lf ce f2 oh2 lf2 ce2 slt).1 = 2) : kL l G cJ yL_restore wsL_restore rmL_restore [.ref b, .int slt, .ref out] [oJ cJ out fo, oBr b tx h ht pa sl fi bf, aS G sl 2 sg, aZ G fi 2 ff, oSt h o g f, aI G o 6 oh, oLed g k lf, aI G k 80 ce, oSt h2 o2 g2 f2, aI G o2 6 oh2, oLed g2 k2 lf2, aI G k2 80 ce2] (qW G (hm 3 (P_X3_restore bf sg ff f oh lf ce f2 oh2 lf2 ce2 slt).1) (P_X3_restore bf sg ff f oh lf ce f2 oh2 lf2 ce2 slt).1 [oJ cJ out (vp_updL fo 0 ((P_X3_restore bf sg ff f oh lf ce f2 oh2 lf2 ce2 slt).2.1).toInt64), oBr b tx h ht pa sl fi ((P_X3_restore bf sg ff f oh lf ce f2 oh2 lf2 ce2 slt).2.2.1), aS G sl 2 sg, aZ G fi 2 ff, oSt h o g ((P_X3_restore bf sg ff f oh lf ce f2 oh2 lf2 ce2 slt).2.2.2.1), aI G o 6 ((P_X3_restore bf sg ff f oh lf ce f2 oh2 lf2 ce2 slt).2.2.2.2.1), oLed g k ((P_X3_restore bf sg ff f oh lf ce f2 oh2 lf2 ce2 slt).2.2.2.2.2.1), aI G k 80 ((P_X3_restore bf sg ff f oh lf ce f2 oh2 lf2 ce2 slt).2.2.2.2.2.2), oSt h2 o2 g2 f2, aI G o2 6 oh2, oLed g2 k2 lf2, aI G k2 80 ce2] [oJ cJ out fo, oBr b tx h ht pa sl fi bf, aS G sl 2 sg, aZ G fi 2 ff, oSt h o g f, aI G o 6 oh, oLed g k lf, aI G k 80 ce, oSt h2 o2 g2 f2, aI G o2 6 oh2, oLed g2 k2 lf2, aI G k2 80 ce2]) := by
  refine k_bodyL (cc := cL_restore) (nL := 4) (ret := some .int) (hh := [(0, 9, 12, 47), (0, 9, 15, 15)]) (by decide) rfl (Nat.le_of_ble_eq_true rfl) ?_
  intro p e s m args below meth c A cx ct hP hD hS ls hl
  obtain ⟨hx, hb, hml, hown, hts, hr, hlocks, hK, hA⟩ := id cx
  obtain ⟨hKJ, htab, hE, hN, hZ⟩ := ct
  obtain ⟨H, hH⟩ : ∃ H, H = s.heap := ⟨_, rfl⟩
  obtain ⟨locs, hL⟩ : ∃ locs : List Loc, locs = [] := ⟨_, rfl⟩
  have hS : va_S A s.heap H locs := by rw [hH, hL]; exact hS
  rw [← hH] at hP ⊢
  rw [← hL]
  clear hH hL
  have hl : lv_has ls 4 [(0, .ref b), (1, .int slt), (2, .ref out)] := hl
  have hC := c_X3_restore l hlt G b tx h ht pa sl fi o g k h2 o2 g2 k2 bf sg ff f oh lf ce f2 oh2 lf2 ce2 slt hst2 hsl
  generalize hu : P_X3_restore bf sg ff f oh lf ce f2 oh2 lf2 ce2 slt = u at hC htc ⊢
  refine lv_aload_n hx hb dL_restore_0 rfl (lv_at hl 2 rfl) ?_
  refine lv_iconst (v := 0) hx hb dL_restore_1 (by decide) ?_
  refine lv_aload_n hx hb dL_restore_2 rfl (lv_at hl 0 rfl) ?_
  refine lv_iload_n hx hb dL_restore_3 rfl (lv_at hl 1 rfl) ?_
  refine k_iX (t := u.1) (r := u.2.1) (ws' := [oJ cJ out fo, oBr b tx h ht pa sl fi (u.2.2.1), aS G sl 2 sg, aZ G fi 2 ff, oSt h o g (u.2.2.2.1), aI G o 6 (u.2.2.2.2.1), oLed g k (u.2.2.2.2.2.1), aI G k 80 (u.2.2.2.2.2.2), oSt h2 o2 g2 f2, aI G o2 6 oh2, oLed g2 k2 lf2, aI G k2 80 ce2]) (as := [b, sl, fi, h, o, g, k, h2, o2, g2, k2]) cx hP hD hS [1, 2, 3, 4, 5, 6, 7, 8, 9, 10, 11] rfl (kr_VX (n := 1) (As := [.int slt]) (ci := 3) cx hE hZ hS hC gL_restore_X3_restore rfl rfl rfl (by decide +kernel) ⟨Nat.le_of_ble_eq_true rfl, Nat.le_of_ble_eq_true rfl⟩ rfl rfl rfl hP hD [1, 2, 3, 4, 5, 6, 7, 8, 9, 10, 11] rfl rfl rfl rfl hl (Nat.le_of_ble_eq_true rfl) dL_restore_4 ⟨Nat.le_of_ble_eq_true rfl, Nat.le_of_ble_eq_true rfl⟩) ⟨rfl, rfl⟩ rfl rfl (fun E ce9 q9 H locs hE9 hP hD hS hce hvm hcl => ?_) (fun H locs h0 hP hD hS => ?_)
  · rcases htc with h9 | h9 | h9
    · rw [h9] at hE9; have hE9 : (none : Option String) = some E := hE9; cases hE9
    · rw [h9] at hE9
      have hE9 : some "java/lang/IndexOutOfBoundsException" = some E := hE9
      cases hE9
      refine vx_catch (E := "java/lang/IndexOutOfBoundsException") (name := "java/lang/IndexOutOfBoundsException") hown [] ⟨0, 9, 12, 47⟩ [⟨0, 9, 15, 15⟩] (by rw [htab]; rfl) (fun z hz => absurd hz List.not_mem_nil) (by decide) (by decide) (hts _ (by decide +kernel)) ((hE.1 (.castable "java/lang/IndexOutOfBoundsException" "java/lang/IndexOutOfBoundsException") (by decide +kernel)).use rfl) hce hvm hcl ?_
      refine lv_astore_n (lv' := [(3, .ref q9), (0, .ref b), (1, .int slt), (2, .ref out)]) hx hb dL_restore_12 rfl hl (by decide) rfl (fun ls hl => ?_)
      refine lv_iconst (v := 1) hx hb dL_restore_13 (by decide) ?_
      exact k_iretW (wf := [oJ cJ out fo, oBr b tx h ht pa sl fi bf, aS G sl 2 sg, aZ G fi 2 ff, oSt h o g f, aI G o 6 oh, oLed g k lf, aI G k 80 ce, oSt h2 o2 g2 f2, aI G o2 6 oh2, oLed g2 k2 lf2, aI G k2 80 ce2]) cx (by rw [h9]; rfl) (by rw [h9]; rfl) hP hS dL_restore_14
    · rw [h9] at hE9
      have hE9 : some "java/lang/IllegalStateException" = some E := hE9
      cases hE9
      refine vx_catch (E := "java/lang/IllegalStateException") (name := "java/lang/IllegalStateException") hown [⟨0, 9, 12, 47⟩] ⟨0, 9, 15, 15⟩ [] (by rw [htab]; rfl) (fun z hz => by rw [List.mem_singleton.mp hz]; exact Or.inr ⟨by decide, "java/lang/IndexOutOfBoundsException", hts _ (by decide +kernel), hN.2⟩) (by decide) (by decide) (hts _ (by decide +kernel)) ((hE.1 (.castable "java/lang/IllegalStateException" "java/lang/IllegalStateException") (by decide +kernel)).use rfl) hce hvm hcl ?_
      refine lv_astore_n (lv' := [(3, .ref q9), (0, .ref b), (1, .int slt), (2, .ref out)]) hx hb dL_restore_15 rfl hl (by decide) rfl (fun ls hl => ?_)
      refine lv_iconst (v := 2) hx hb dL_restore_16 (by decide) ?_
      exact k_iretW (wf := [oJ cJ out fo, oBr b tx h ht pa sl fi bf, aS G sl 2 sg, aZ G fi 2 ff, oSt h o g f, aI G o 6 oh, oLed g k lf, aI G k 80 ce, oSt h2 o2 g2 f2, aI G o2 6 oh2, oLed g2 k2 lf2, aI G k2 80 ce2]) cx (by rw [h9]; rfl) (by rw [h9]; rfl) hP hS dL_restore_17
  · refine lv_i2l hx hb dL_restore_7 rfl ?_
    refine k_last (ws' := [oJ cJ out (vp_updL fo 0 (u.2.1).toInt64), oBr b tx h ht pa sl fi (u.2.2.1), aS G sl 2 sg, aZ G fi 2 ff, oSt h o g (u.2.2.2.1), aI G o 6 (u.2.2.2.2.1), oLed g k (u.2.2.2.2.2.1), aI G k 80 (u.2.2.2.2.2.2), oSt h2 o2 g2 f2, aI G o2 6 oh2, oLed g2 k2 lf2, aI G k2 80 ce2]) cx hKJ hP hD hS 0 rfl (by unfold vp_in; decide) rfl dL_restore_8 (fun H locs hP hD hS => ?_)
    refine lv_goto (tgt := 18) hx hb dL_restore_9 (by decide) ?_
    refine lv_iconst (v := 0) hx hb dL_restore_18 (by decide) ?_
    exact k_iretW (wf := [oJ cJ out (vp_updL fo 0 (u.2.1).toInt64), oBr b tx h ht pa sl fi (u.2.2.1), aS G sl 2 sg, aZ G fi 2 ff, oSt h o g (u.2.2.2.1), aI G o 6 (u.2.2.2.2.1), oLed g k (u.2.2.2.2.2.1), aI G k 80 (u.2.2.2.2.2.2), oSt h2 o2 g2 f2, aI G o2 6 oh2, oLed g2 k2 lf2, aI G k2 80 ce2]) cx (by rw [h0]; rfl) (by rw [h0]; rfl) hP hS dL_restore_19

