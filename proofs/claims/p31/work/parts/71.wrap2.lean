/-! the law: its wrappers -/
abbrev rmL_tryUndo : Room := { frames := 7, cells := 1, slots := 6, locals := 102 }
set_option maxHeartbeats 4000000 in
set_option maxRecDepth 100000 in
theorem c_L_tryUndo (l : Launch) (hlt : l.stackTraces = false) (G : gG) (b : Nat) (tx : Nat) (h : Nat) (ht : Nat) (pa : Nat) (sl : Nat) (fi : Nat) (o : Nat) (g : Nat) (k : Nat) (h2 : Nat) (o2 : Nat) (g2 : Nat) (k2 : Nat) (bf : Nat → Int32) (pg : Nat → Option Nat) (f : Nat → Int32) (oh : Nat → Int32) (lf : Nat → Int32) (ce : Nat → Int32) (f2 : Nat → Int32) (oh2 : Nat → Int32) (lf2 : Nat → Int32) (ce2 : Nat → Int32) (hst2 : f2 9 = 0 ∨ f2 9 = 1) (hpg : P_X3_entry 14 pg (if bf 5 ≤ 0 then 13 else bf 5 - 1) = some h2) (htc : (P_X3_undo bf pg f oh lf ce f2 oh2 lf2 ce2).1 = 0 ∨ (P_X3_undo bf pg f oh lf ce f2 oh2 lf2 ce2).1 = 2) : kL l G yL_tryUndo wsL_tryUndo rmL_tryUndo [.ref b] [oBr b tx h ht pa sl fi bf, aS G pa 14 pg, oSt h o g f, aI G o 6 oh, oLed g k lf, aI G k 80 ce, oSt h2 o2 g2 f2, aI G o2 6 oh2, oLed g2 k2 lf2, aI G k2 80 ce2] (qW G (rz (P_X3_undo bf pg f oh lf ce f2 oh2 lf2 ce2).1 (P_X3_undo bf pg f oh lf ce f2 oh2 lf2 ce2).2.1) (P_X3_undo bf pg f oh lf ce f2 oh2 lf2 ce2).1 [oBr b tx h ht pa sl fi ((P_X3_undo bf pg f oh lf ce f2 oh2 lf2 ce2).2.2.1), aS G pa 14 pg, oSt h o g ((P_X3_undo bf pg f oh lf ce f2 oh2 lf2 ce2).2.2.2.1), aI G o 6 ((P_X3_undo bf pg f oh lf ce f2 oh2 lf2 ce2).2.2.2.2.1), oLed g k ((P_X3_undo bf pg f oh lf ce f2 oh2 lf2 ce2).2.2.2.2.2.1), aI G k 80 ((P_X3_undo bf pg f oh lf ce f2 oh2 lf2 ce2).2.2.2.2.2.2), oSt h2 o2 g2 f2, aI G o2 6 oh2, oLed g2 k2 lf2, aI G k2 80 ce2] [oBr b tx h ht pa sl fi bf, aS G pa 14 pg, oSt h o g f, aI G o 6 oh, oLed g k lf, aI G k 80 ce, oSt h2 o2 g2 f2, aI G o2 6 oh2, oLed g2 k2 lf2, aI G k2 80 ce2]) := by
  refine k_bodyL (cc := cL_tryUndo) (nL := 2) (ret := some .int) (hh := [(0, 4, 5, 16)]) (by decide) rfl (Nat.le_of_ble_eq_true rfl) ?_
  intro p e s m args below meth c A cx ct hP hD hS ls hl
  obtain ⟨hx, hb, hml, hown, hts, hr, hlocks, hK, hA⟩ := id cx
  obtain ⟨htab, hE, hN, hZ⟩ := ct
  obtain ⟨H, hH⟩ : ∃ H, H = s.heap := ⟨_, rfl⟩
  obtain ⟨locs, hL⟩ : ∃ locs : List Loc, locs = [] := ⟨_, rfl⟩
  have hS : va_S A s.heap H locs := by rw [hH, hL]; exact hS
  rw [← hH] at hP ⊢
  rw [← hL]
  clear hH hL
  have hl : lv_has ls 2 [(0, .ref b)] := hl
  have hC := c_X3_undo l hlt G b tx h ht pa sl fi o g k h2 o2 g2 k2 bf pg f oh lf ce f2 oh2 lf2 ce2 hst2 hpg
  generalize hu : P_X3_undo bf pg f oh lf ce f2 oh2 lf2 ce2 = u at hC htc ⊢
  refine lv_aload_n hx hb dL_tryUndo_0 rfl (lv_at hl 0 rfl) ?_
  refine k_iX (t := u.1) (r := u.2.1) (ws' := [oBr b tx h ht pa sl fi (u.2.2.1), aS G pa 14 pg, oSt h o g (u.2.2.2.1), aI G o 6 (u.2.2.2.2.1), oLed g k (u.2.2.2.2.2.1), aI G k 80 (u.2.2.2.2.2.2), oSt h2 o2 g2 f2, aI G o2 6 oh2, oLed g2 k2 lf2, aI G k2 80 ce2]) (as := [b, pa, h, o, g, k, h2, o2, g2, k2]) cx hP hD hS [0, 1, 2, 3, 4, 5, 6, 7, 8, 9] rfl (kr_VX (n := 0) (As := []) (ci := 3) cx hE hZ hS hC gL_tryUndo_X3_undo rfl rfl rfl (by decide +kernel) ⟨Nat.le_of_ble_eq_true rfl, Nat.le_of_ble_eq_true rfl⟩ rfl rfl rfl hP hD [0, 1, 2, 3, 4, 5, 6, 7, 8, 9] rfl rfl rfl rfl hl (Nat.le_of_ble_eq_true rfl) dL_tryUndo_1 ⟨Nat.le_of_ble_eq_true rfl, Nat.le_of_ble_eq_true rfl⟩) ⟨rfl, rfl⟩ rfl rfl (fun E ce9 q9 H locs hE9 hP hD hS hce hvm hcl => ?_) (fun H locs h0 hP hD hS => ?_)
  · rcases htc with h9 | h9
    · rw [h9] at hE9; have hE9 : (none : Option String) = some E := hE9; cases hE9
    · rw [h9] at hE9
      have hE9 : some "java/lang/IllegalStateException" = some E := hE9
      cases hE9
      refine vx_catch (E := "java/lang/IllegalStateException") (name := "java/lang/IllegalStateException") hown [] ⟨0, 4, 5, 16⟩ [] (by rw [htab]; rfl) (fun z hz => absurd hz List.not_mem_nil) (by decide) (by decide) (hts _ (by decide +kernel)) ((hE.1 (.castable "java/lang/IllegalStateException" "java/lang/IllegalStateException") (by decide +kernel)).use rfl) hce hvm hcl ?_
      refine lv_astore_n (lv' := [(1, .ref q9), (0, .ref b)]) hx hb dL_tryUndo_5 rfl hl (by decide) rfl (fun ls hl => ?_)
      refine k_ldc (v := (-999900003)) cx (by decide +kernel) dL_tryUndo_6 ?_
      exact k_iretW (wf := [oBr b tx h ht pa sl fi bf, aS G pa 14 pg, oSt h o g f, aI G o 6 oh, oLed g k lf, aI G k 80 ce, oSt h2 o2 g2 f2, aI G o2 6 oh2, oLed g2 k2 lf2, aI G k2 80 ce2]) cx (by rw [h9]; rfl) (by rw [h9]; rfl) hP hS dL_tryUndo_8
  · exact k_iretW (wf := [oBr b tx h ht pa sl fi (u.2.2.1), aS G pa 14 pg, oSt h o g (u.2.2.2.1), aI G o 6 (u.2.2.2.2.1), oLed g k (u.2.2.2.2.2.1), aI G k 80 (u.2.2.2.2.2.2), oSt h2 o2 g2 f2, aI G o2 6 oh2, oLed g2 k2 lf2, aI G k2 80 ce2]) cx (by rw [h0]; rfl) (by rw [h0]; rfl) hP hS dL_tryUndo_4

abbrev rmL_tryValue : Room := { frames := 7, cells := 1, slots := 6, locals := 105 }
set_option maxHeartbeats 4000000 in
set_option maxRecDepth 100000 in
theorem c_L_tryValue (l : Launch) (hlt : l.stackTraces = false) (G : gG) (b : Nat) (tx : Nat) (h : Nat) (ht : Nat) (pa : Nat) (sl : Nat) (fi : Nat) (o : Nat) (g : Nat) (bf : Nat → Int32) (f : Nat → Int32) (lim : Int32)  (htc : (P_X3_value bf f lim).1 = 0 ∨ (P_X3_value bf f lim).1 = 1) : kL l G yL_tryValue wsL_tryValue rmL_tryValue [.ref b, .int lim] [oBr b tx h ht pa sl fi bf, oSt h o g f] (qW G (rz (P_X3_value bf f lim).1 (P_X3_value bf f lim).2) (P_X3_value bf f lim).1 [oBr b tx h ht pa sl fi bf, oSt h o g f] [oBr b tx h ht pa sl fi bf, oSt h o g f]) := by
  refine k_bodyL (cc := cL_tryValue) (nL := 3) (ret := some .int) (hh := [(0, 5, 6, 13)]) (by decide) rfl (Nat.le_of_ble_eq_true rfl) ?_
  intro p e s m args below meth c A cx ct hP hD hS ls hl
  obtain ⟨hx, hb, hml, hown, hts, hr, hlocks, hK, hA⟩ := id cx
  obtain ⟨htab, hE, hN, hZ⟩ := ct
  obtain ⟨H, hH⟩ : ∃ H, H = s.heap := ⟨_, rfl⟩
  obtain ⟨locs, hL⟩ : ∃ locs : List Loc, locs = [] := ⟨_, rfl⟩
  have hS : va_S A s.heap H locs := by rw [hH, hL]; exact hS
  rw [← hH] at hP ⊢
  rw [← hL]
  clear hH hL
  have hl : lv_has ls 3 [(0, .ref b), (1, .int lim)] := hl
  have hC := c_X3_value l hlt G b tx h ht pa sl fi o g bf f lim
  generalize hu : P_X3_value bf f lim = u at hC htc ⊢
  refine lv_aload_n hx hb dL_tryValue_0 rfl (lv_at hl 0 rfl) ?_
  refine lv_iload_n hx hb dL_tryValue_1 rfl (lv_at hl 1 rfl) ?_
  refine k_iX (t := u.1) (r := u.2) (ws' := [oBr b tx h ht pa sl fi bf, oSt h o g f]) (as := [b, h]) cx hP hD hS [0, 1] rfl (kr_VX (n := 1) (As := [.int lim]) (ci := 3) cx hE hZ hS hC gL_tryValue_X3_value rfl rfl rfl (by decide +kernel) ⟨Nat.le_of_ble_eq_true rfl, Nat.le_of_ble_eq_true rfl⟩ rfl rfl rfl hP hD [0, 1] rfl rfl rfl rfl hl (Nat.le_of_ble_eq_true rfl) dL_tryValue_2 ⟨Nat.le_of_ble_eq_true rfl, Nat.le_of_ble_eq_true rfl⟩) ⟨rfl, rfl⟩ rfl rfl (fun E ce9 q9 H locs hE9 hP hD hS hce hvm hcl => ?_) (fun H locs h0 hP hD hS => ?_)
  · rcases htc with h9 | h9
    · rw [h9] at hE9; have hE9 : (none : Option String) = some E := hE9; cases hE9
    · rw [h9] at hE9
      have hE9 : some "java/lang/IllegalArgumentException" = some E := hE9
      cases hE9
      refine vx_catch (E := "java/lang/IllegalArgumentException") (name := "java/lang/IllegalArgumentException") hown [] ⟨0, 5, 6, 13⟩ [] (by rw [htab]; rfl) (fun z hz => absurd hz List.not_mem_nil) (by decide) (by decide) (hts _ (by decide +kernel)) ((hE.1 (.castable "java/lang/IllegalArgumentException" "java/lang/IllegalArgumentException") (by decide +kernel)).use rfl) hce hvm hcl ?_
      refine lv_astore_n (lv' := [(2, .ref q9), (0, .ref b), (1, .int lim)]) hx hb dL_tryValue_6 rfl hl (by decide) rfl (fun ls hl => ?_)
      refine k_ldc (v := (-999900002)) cx (by decide +kernel) dL_tryValue_7 ?_
      exact k_iretW (wf := [oBr b tx h ht pa sl fi bf, oSt h o g f]) cx (by rw [h9]; rfl) (by rw [h9]; rfl) hP hS dL_tryValue_9
  · exact k_iretW (wf := [oBr b tx h ht pa sl fi bf, oSt h o g f]) cx (by rw [h0]; rfl) (by rw [h0]; rfl) hP hS dL_tryValue_5

abbrev rmL_tryBestR : Room := { frames := 7, cells := 1, slots := 6, locals := 107 }
set_option maxHeartbeats 4000000 in
set_option maxRecDepth 100000 in
theorem c_L_tryBestR (l : Launch) (hlt : l.stackTraces = false) (G : gG) (b : Nat) (tx : Nat) (h : Nat) (ht : Nat) (pa : Nat) (sl : Nat) (fi : Nat) (o : Nat) (g : Nat) (bf : Nat → Int32) (f : Nat → Int32) (oh : Nat → Int32) (i : Int32)  (htc : (P_X3_bestR bf f oh i).1 = 0 ∨ (P_X3_bestR bf f oh i).1 = 3) : kL l G yL_tryBestR wsL_tryBestR rmL_tryBestR [.ref b, .int i] [oBr b tx h ht pa sl fi bf, oSt h o g f, aI G o 6 oh] (qW G (rz (P_X3_bestR bf f oh i).1 (P_X3_bestR bf f oh i).2) (P_X3_bestR bf f oh i).1 [oBr b tx h ht pa sl fi bf, oSt h o g f, aI G o 6 oh] [oBr b tx h ht pa sl fi bf, oSt h o g f, aI G o 6 oh]) := by
  refine k_bodyL (cc := cL_tryBestR) (nL := 3) (ret := some .int) (hh := [(0, 5, 6, 49)]) (by decide) rfl (Nat.le_of_ble_eq_true rfl) ?_
  intro p e s m args below meth c A cx ct hP hD hS ls hl
  obtain ⟨hx, hb, hml, hown, hts, hr, hlocks, hK, hA⟩ := id cx
  obtain ⟨htab, hE, hN, hZ⟩ := ct
  obtain ⟨H, hH⟩ : ∃ H, H = s.heap := ⟨_, rfl⟩
  obtain ⟨locs, hL⟩ : ∃ locs : List Loc, locs = [] := ⟨_, rfl⟩
  have hS : va_S A s.heap H locs := by rw [hH, hL]; exact hS
  rw [← hH] at hP ⊢
  rw [← hL]
  clear hH hL
  have hl : lv_has ls 3 [(0, .ref b), (1, .int i)] := hl
  have hC := c_X3_bestR l hlt G b tx h ht pa sl fi o g bf f oh i
  generalize hu : P_X3_bestR bf f oh i = u at hC htc ⊢
  refine lv_aload_n hx hb dL_tryBestR_0 rfl (lv_at hl 0 rfl) ?_
  refine lv_iload_n hx hb dL_tryBestR_1 rfl (lv_at hl 1 rfl) ?_
  refine k_iX (t := u.1) (r := u.2) (ws' := [oBr b tx h ht pa sl fi bf, oSt h o g f, aI G o 6 oh]) (as := [b, h, o]) cx hP hD hS [0, 1, 2] rfl (kr_VX (n := 1) (As := [.int i]) (ci := 3) cx hE hZ hS hC gL_tryBestR_X3_bestR rfl rfl rfl (by decide +kernel) ⟨Nat.le_of_ble_eq_true rfl, Nat.le_of_ble_eq_true rfl⟩ rfl rfl rfl hP hD [0, 1, 2] rfl rfl rfl rfl hl (Nat.le_of_ble_eq_true rfl) dL_tryBestR_2 ⟨Nat.le_of_ble_eq_true rfl, Nat.le_of_ble_eq_true rfl⟩) ⟨rfl, rfl⟩ rfl rfl (fun E ce9 q9 H locs hE9 hP hD hS hce hvm hcl => ?_) (fun H locs h0 hP hD hS => ?_)
  · rcases htc with h9 | h9
    · rw [h9] at hE9; have hE9 : (none : Option String) = some E := hE9; cases hE9
    · rw [h9] at hE9
      have hE9 : some "java/lang/IndexOutOfBoundsException" = some E := hE9
      cases hE9
      refine vx_catch (E := "java/lang/IndexOutOfBoundsException") (name := "java/lang/IndexOutOfBoundsException") hown [] ⟨0, 5, 6, 49⟩ [] (by rw [htab]; rfl) (fun z hz => absurd hz List.not_mem_nil) (by decide) (by decide) (hts _ (by decide +kernel)) ((hE.1 (.castable "java/lang/IndexOutOfBoundsException" "java/lang/IndexOutOfBoundsException") (by decide +kernel)).use rfl) hce hvm hcl ?_
      refine lv_astore_n (lv' := [(2, .ref q9), (0, .ref b), (1, .int i)]) hx hb dL_tryBestR_6 rfl hl (by decide) rfl (fun ls hl => ?_)
      refine k_ldc (v := (-999900001)) cx (by decide +kernel) dL_tryBestR_7 ?_
      exact k_iretW (wf := [oBr b tx h ht pa sl fi bf, oSt h o g f, aI G o 6 oh]) cx (by rw [h9]; rfl) (by rw [h9]; rfl) hP hS dL_tryBestR_9
  · exact k_iretW (wf := [oBr b tx h ht pa sl fi bf, oSt h o g f, aI G o 6 oh]) cx (by rw [h0]; rfl) (by rw [h0]; rfl) hP hS dL_tryBestR_5

abbrev rmL_tryBestArms : Room := { frames := 7, cells := 1, slots := 6, locals := 105 }
set_option maxHeartbeats 4000000 in
set_option maxRecDepth 100000 in
theorem c_L_tryBestArms (l : Launch) (hlt : l.stackTraces = false) (G : gG) (b : Nat) (tx : Nat) (h : Nat) (ht : Nat) (pa : Nat) (sl : Nat) (fi : Nat) (o : Nat) (g : Nat) (bf : Nat → Int32) (f : Nat → Int32) (oh : Nat → Int32) (i : Int32)  (htc : (P_X3_bestArms bf f oh i).1 = 0 ∨ (P_X3_bestArms bf f oh i).1 = 3) : kL l G yL_tryBestArms wsL_tryBestArms rmL_tryBestArms [.ref b, .int i] [oBr b tx h ht pa sl fi bf, oSt h o g f, aI G o 6 oh] (qW G (rz (P_X3_bestArms bf f oh i).1 (P_X3_bestArms bf f oh i).2) (P_X3_bestArms bf f oh i).1 [oBr b tx h ht pa sl fi bf, oSt h o g f, aI G o 6 oh] [oBr b tx h ht pa sl fi bf, oSt h o g f, aI G o 6 oh]) := by
  refine k_bodyL (cc := cL_tryBestArms) (nL := 3) (ret := some .int) (hh := [(0, 5, 6, 49)]) (by decide) rfl (Nat.le_of_ble_eq_true rfl) ?_
  intro p e s m args below meth c A cx ct hP hD hS ls hl
  obtain ⟨hx, hb, hml, hown, hts, hr, hlocks, hK, hA⟩ := id cx
  obtain ⟨htab, hE, hN, hZ⟩ := ct
  obtain ⟨H, hH⟩ : ∃ H, H = s.heap := ⟨_, rfl⟩
  obtain ⟨locs, hL⟩ : ∃ locs : List Loc, locs = [] := ⟨_, rfl⟩
  have hS : va_S A s.heap H locs := by rw [hH, hL]; exact hS
  rw [← hH] at hP ⊢
  rw [← hL]
  clear hH hL
  have hl : lv_has ls 3 [(0, .ref b), (1, .int i)] := hl
  have hC := c_X3_bestArms l hlt G b tx h ht pa sl fi o g bf f oh i
  generalize hu : P_X3_bestArms bf f oh i = u at hC htc ⊢
  refine lv_aload_n hx hb dL_tryBestArms_0 rfl (lv_at hl 0 rfl) ?_
  refine lv_iload_n hx hb dL_tryBestArms_1 rfl (lv_at hl 1 rfl) ?_
  refine k_iX (t := u.1) (r := u.2) (ws' := [oBr b tx h ht pa sl fi bf, oSt h o g f, aI G o 6 oh]) (as := [b, h, o]) cx hP hD hS [0, 1, 2] rfl (kr_VX (n := 1) (As := [.int i]) (ci := 3) cx hE hZ hS hC gL_tryBestArms_X3_bestArms rfl rfl rfl (by decide +kernel) ⟨Nat.le_of_ble_eq_true rfl, Nat.le_of_ble_eq_true rfl⟩ rfl rfl rfl hP hD [0, 1, 2] rfl rfl rfl rfl hl (Nat.le_of_ble_eq_true rfl) dL_tryBestArms_2 ⟨Nat.le_of_ble_eq_true rfl, Nat.le_of_ble_eq_true rfl⟩) ⟨rfl, rfl⟩ rfl rfl (fun E ce9 q9 H locs hE9 hP hD hS hce hvm hcl => ?_) (fun H locs h0 hP hD hS => ?_)
  · rcases htc with h9 | h9
    · rw [h9] at hE9; have hE9 : (none : Option String) = some E := hE9; cases hE9
    · rw [h9] at hE9
      have hE9 : some "java/lang/IndexOutOfBoundsException" = some E := hE9
      cases hE9
      refine vx_catch (E := "java/lang/IndexOutOfBoundsException") (name := "java/lang/IndexOutOfBoundsException") hown [] ⟨0, 5, 6, 49⟩ [] (by rw [htab]; rfl) (fun z hz => absurd hz List.not_mem_nil) (by decide) (by decide) (hts _ (by decide +kernel)) ((hE.1 (.castable "java/lang/IndexOutOfBoundsException" "java/lang/IndexOutOfBoundsException") (by decide +kernel)).use rfl) hce hvm hcl ?_
      refine lv_astore_n (lv' := [(2, .ref q9), (0, .ref b), (1, .int i)]) hx hb dL_tryBestArms_6 rfl hl (by decide) rfl (fun ls hl => ?_)
      refine k_ldc (v := (-999900001)) cx (by decide +kernel) dL_tryBestArms_7 ?_
      exact k_iretW (wf := [oBr b tx h ht pa sl fi bf, oSt h o g f, aI G o 6 oh]) cx (by rw [h9]; rfl) (by rw [h9]; rfl) hP hS dL_tryBestArms_9
  · exact k_iretW (wf := [oBr b tx h ht pa sl fi bf, oSt h o g f, aI G o 6 oh]) cx (by rw [h0]; rfl) (by rw [h0]; rfl) hP hS dL_tryBestArms_5

abbrev rmL_tryOffsetAfter : Room := { frames := 7, cells := 1, slots := 6, locals := 106 }
set_option maxHeartbeats 4000000 in
set_option maxRecDepth 100000 in
theorem c_L_tryOffsetAfter (l : Launch) (hlt : l.stackTraces = false) (G : gG) (b : Nat) (tx : Nat) (h : Nat) (ht : Nat) (pa : Nat) (sl : Nat) (fi : Nat) (o : Nat) (g : Nat) (bf : Nat → Int32) (f : Nat → Int32) (pr : Int32) (wt : Int32)  (htc : (P_X3_offsetAfter bf f pr wt).1 = 0 ∨ (P_X3_offsetAfter bf f pr wt).1 = 1) : kL l G yL_tryOffsetAfter wsL_tryOffsetAfter rmL_tryOffsetAfter [.ref b, .int pr, .int wt] [oBr b tx h ht pa sl fi bf, oSt h o g f] (qW G (rz (P_X3_offsetAfter bf f pr wt).1 (P_X3_offsetAfter bf f pr wt).2) (P_X3_offsetAfter bf f pr wt).1 [oBr b tx h ht pa sl fi bf, oSt h o g f] [oBr b tx h ht pa sl fi bf, oSt h o g f]) := by
  refine k_bodyL (cc := cL_tryOffsetAfter) (nL := 4) (ret := some .int) (hh := [(0, 6, 7, 13)]) (by decide) rfl (Nat.le_of_ble_eq_true rfl) ?_
  intro p e s m args below meth c A cx ct hP hD hS ls hl
  obtain ⟨hx, hb, hml, hown, hts, hr, hlocks, hK, hA⟩ := id cx
  obtain ⟨htab, hE, hN, hZ⟩ := ct
  obtain ⟨H, hH⟩ : ∃ H, H = s.heap := ⟨_, rfl⟩
  obtain ⟨locs, hL⟩ : ∃ locs : List Loc, locs = [] := ⟨_, rfl⟩
  have hS : va_S A s.heap H locs := by rw [hH, hL]; exact hS
  rw [← hH] at hP ⊢
  rw [← hL]
  clear hH hL
  have hl : lv_has ls 4 [(0, .ref b), (1, .int pr), (2, .int wt)] := hl
  have hC := c_X3_offsetAfter l hlt G b tx h ht pa sl fi o g bf f pr wt
  generalize hu : P_X3_offsetAfter bf f pr wt = u at hC htc ⊢
  refine lv_aload_n hx hb dL_tryOffsetAfter_0 rfl (lv_at hl 0 rfl) ?_
  refine lv_iload_n hx hb dL_tryOffsetAfter_1 rfl (lv_at hl 1 rfl) ?_
  refine lv_iload_n hx hb dL_tryOffsetAfter_2 rfl (lv_at hl 2 rfl) ?_
  refine k_iX (t := u.1) (r := u.2) (ws' := [oBr b tx h ht pa sl fi bf, oSt h o g f]) (as := [b, h]) cx hP hD hS [0, 1] rfl (kr_VX (n := 2) (As := [.int pr, .int wt]) (ci := 3) cx hE hZ hS hC gL_tryOffsetAfter_X3_offsetAfter rfl rfl rfl (by decide +kernel) ⟨Nat.le_of_ble_eq_true rfl, Nat.le_of_ble_eq_true rfl⟩ rfl rfl rfl hP hD [0, 1] rfl rfl rfl rfl hl (Nat.le_of_ble_eq_true rfl) dL_tryOffsetAfter_3 ⟨Nat.le_of_ble_eq_true rfl, Nat.le_of_ble_eq_true rfl⟩) ⟨rfl, rfl⟩ rfl rfl (fun E ce9 q9 H locs hE9 hP hD hS hce hvm hcl => ?_) (fun H locs h0 hP hD hS => ?_)
  · rcases htc with h9 | h9
    · rw [h9] at hE9; have hE9 : (none : Option String) = some E := hE9; cases hE9
    · rw [h9] at hE9
      have hE9 : some "java/lang/IllegalArgumentException" = some E := hE9
      cases hE9
      refine vx_catch (E := "java/lang/IllegalArgumentException") (name := "java/lang/IllegalArgumentException") hown [] ⟨0, 6, 7, 13⟩ [] (by rw [htab]; rfl) (fun z hz => absurd hz List.not_mem_nil) (by decide) (by decide) (hts _ (by decide +kernel)) ((hE.1 (.castable "java/lang/IllegalArgumentException" "java/lang/IllegalArgumentException") (by decide +kernel)).use rfl) hce hvm hcl ?_
      refine lv_astore_n (lv' := [(3, .ref q9), (0, .ref b), (1, .int pr), (2, .int wt)]) hx hb dL_tryOffsetAfter_7 rfl hl (by decide) rfl (fun ls hl => ?_)
      refine k_ldc (v := (-999900002)) cx (by decide +kernel) dL_tryOffsetAfter_8 ?_
      exact k_iretW (wf := [oBr b tx h ht pa sl fi bf, oSt h o g f]) cx (by rw [h9]; rfl) (by rw [h9]; rfl) hP hS dL_tryOffsetAfter_10
  · exact k_iretW (wf := [oBr b tx h ht pa sl fi bf, oSt h o g f]) cx (by rw [h0]; rfl) (by rw [h0]; rfl) hP hS dL_tryOffsetAfter_6

abbrev rmL_tryWaitFor : Room := { frames := 7, cells := 1, slots := 6, locals := 105 }
set_option maxHeartbeats 4000000 in
set_option maxRecDepth 100000 in
theorem c_L_tryWaitFor (l : Launch) (hlt : l.stackTraces = false) (G : gG) (b : Nat) (tx : Nat) (h : Nat) (ht : Nat) (pa : Nat) (sl : Nat) (fi : Nat) (o : Nat) (g : Nat) (bf : Nat → Int32) (f : Nat → Int32) (off : Int32)  (htc : (P_X3_waitFor bf f off).1 = 0 ∨ (P_X3_waitFor bf f off).1 = 1) : kL l G yL_tryWaitFor wsL_tryWaitFor rmL_tryWaitFor [.ref b, .int off] [oBr b tx h ht pa sl fi bf, oSt h o g f] (qW G (rz (P_X3_waitFor bf f off).1 (P_X3_waitFor bf f off).2) (P_X3_waitFor bf f off).1 [oBr b tx h ht pa sl fi bf, oSt h o g f] [oBr b tx h ht pa sl fi bf, oSt h o g f]) := by
  refine k_bodyL (cc := cL_tryWaitFor) (nL := 3) (ret := some .int) (hh := [(0, 5, 6, 13)]) (by decide) rfl (Nat.le_of_ble_eq_true rfl) ?_
  intro p e s m args below meth c A cx ct hP hD hS ls hl
  obtain ⟨hx, hb, hml, hown, hts, hr, hlocks, hK, hA⟩ := id cx
  obtain ⟨htab, hE, hN, hZ⟩ := ct
  obtain ⟨H, hH⟩ : ∃ H, H = s.heap := ⟨_, rfl⟩
  obtain ⟨locs, hL⟩ : ∃ locs : List Loc, locs = [] := ⟨_, rfl⟩
  have hS : va_S A s.heap H locs := by rw [hH, hL]; exact hS
  rw [← hH] at hP ⊢
  rw [← hL]
  clear hH hL
  have hl : lv_has ls 3 [(0, .ref b), (1, .int off)] := hl
  have hC := c_X3_waitFor l hlt G b tx h ht pa sl fi o g bf f off
  generalize hu : P_X3_waitFor bf f off = u at hC htc ⊢
  refine lv_aload_n hx hb dL_tryWaitFor_0 rfl (lv_at hl 0 rfl) ?_
  refine lv_iload_n hx hb dL_tryWaitFor_1 rfl (lv_at hl 1 rfl) ?_
  refine k_iX (t := u.1) (r := u.2) (ws' := [oBr b tx h ht pa sl fi bf, oSt h o g f]) (as := [b, h]) cx hP hD hS [0, 1] rfl (kr_VX (n := 1) (As := [.int off]) (ci := 3) cx hE hZ hS hC gL_tryWaitFor_X3_waitFor rfl rfl rfl (by decide +kernel) ⟨Nat.le_of_ble_eq_true rfl, Nat.le_of_ble_eq_true rfl⟩ rfl rfl rfl hP hD [0, 1] rfl rfl rfl rfl hl (Nat.le_of_ble_eq_true rfl) dL_tryWaitFor_2 ⟨Nat.le_of_ble_eq_true rfl, Nat.le_of_ble_eq_true rfl⟩) ⟨rfl, rfl⟩ rfl rfl (fun E ce9 q9 H locs hE9 hP hD hS hce hvm hcl => ?_) (fun H locs h0 hP hD hS => ?_)
  · rcases htc with h9 | h9
    · rw [h9] at hE9; have hE9 : (none : Option String) = some E := hE9; cases hE9
    · rw [h9] at hE9
      have hE9 : some "java/lang/IllegalArgumentException" = some E := hE9
      cases hE9
      refine vx_catch (E := "java/lang/IllegalArgumentException") (name := "java/lang/IllegalArgumentException") hown [] ⟨0, 5, 6, 13⟩ [] (by rw [htab]; rfl) (fun z hz => absurd hz List.not_mem_nil) (by decide) (by decide) (hts _ (by decide +kernel)) ((hE.1 (.castable "java/lang/IllegalArgumentException" "java/lang/IllegalArgumentException") (by decide +kernel)).use rfl) hce hvm hcl ?_
      refine lv_astore_n (lv' := [(2, .ref q9), (0, .ref b), (1, .int off)]) hx hb dL_tryWaitFor_6 rfl hl (by decide) rfl (fun ls hl => ?_)
      refine k_ldc (v := (-999900002)) cx (by decide +kernel) dL_tryWaitFor_7 ?_
      exact k_iretW (wf := [oBr b tx h ht pa sl fi bf, oSt h o g f]) cx (by rw [h9]; rfl) (by rw [h9]; rfl) hP hS dL_tryWaitFor_9
  · exact k_iretW (wf := [oBr b tx h ht pa sl fi bf, oSt h o g f]) cx (by rw [h0]; rfl) (by rw [h0]; rfl) hP hS dL_tryWaitFor_5

