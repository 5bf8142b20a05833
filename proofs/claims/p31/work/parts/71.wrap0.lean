/-! the law: its wrappers -/
abbrev rmL_tryAppend : Room := { frames := 7, cells := 1, slots := 6, locals := 103 }
set_option maxHeartbeats 4000000 in
set_option maxRecDepth 100000 in
theorem c_L_tryAppend (l : Launch) (hlt : l.stackTraces = false) (G : gG) (b : Nat) (tx : Nat) (h : Nat) (ht : Nat) (pa : Nat) (sl : Nat) (fi : Nat) (tk : Nat) (bf : Nat → Int32) (tf : Nat → Int32) (tc : Nat → Int32) (ch : Int32)  (htc : (P_X3_append bf tf tc ch).1 = 0 ∨ (P_X3_append bf tf tc ch).1 = 1 ∨ (P_X3_append bf tf tc ch).1 = 2) : kL l G yL_tryAppend wsL_tryAppend rmL_tryAppend [.ref b, .int ch] [oBr b tx h ht pa sl fi bf, oTx tx tk tf, aC G tk 60 tc] (qW G (rz (P_X3_append bf tf tc ch).1 (P_X3_append bf tf tc ch).2.1) (P_X3_append bf tf tc ch).1 [oBr b tx h ht pa sl fi bf, oTx tx tk ((P_X3_append bf tf tc ch).2.2.1), aC G tk 60 ((P_X3_append bf tf tc ch).2.2.2)] [oBr b tx h ht pa sl fi bf, oTx tx tk tf, aC G tk 60 tc]) := by
  refine k_bodyL (cc := cL_tryAppend) (nL := 3) (ret := some .int) (hh := [(0, 5, 6, 13), (0, 5, 10, 16)]) (by decide) rfl (Nat.le_of_ble_eq_true rfl) ?_
  intro p e s m args below meth c A cx ct hP hD hS ls hl
  obtain ⟨hx, hb, hml, hown, hts, hr, hlocks, hK, hA⟩ := id cx
  obtain ⟨htab, hE, hN, hZ⟩ := ct
  obtain ⟨H, hH⟩ : ∃ H, H = s.heap := ⟨_, rfl⟩
  obtain ⟨locs, hL⟩ : ∃ locs : List Loc, locs = [] := ⟨_, rfl⟩
  have hS : va_S A s.heap H locs := by rw [hH, hL]; exact hS
  rw [← hH] at hP ⊢
  rw [← hL]
  clear hH hL
  have hl : lv_has ls 3 [(0, .ref b), (1, .int ch)] := hl
  have hC := c_X3_append l hlt G b tx h ht pa sl fi tk bf tf tc ch
  generalize hu : P_X3_append bf tf tc ch = u at hC htc ⊢
  refine lv_aload_n hx hb dL_tryAppend_0 rfl (lv_at hl 0 rfl) ?_
  refine lv_iload_n hx hb dL_tryAppend_1 rfl (lv_at hl 1 rfl) ?_
  refine k_iX (t := u.1) (r := u.2.1) (ws' := [oBr b tx h ht pa sl fi bf, oTx tx tk (u.2.2.1), aC G tk 60 (u.2.2.2)]) (as := [b, tx, tk]) cx hP hD hS [0, 1, 2] rfl (kr_VX (n := 1) (As := [.int ch]) (ci := 3) cx hE hZ hS hC gL_tryAppend_X3_append rfl rfl rfl (by decide +kernel) ⟨Nat.le_of_ble_eq_true rfl, Nat.le_of_ble_eq_true rfl⟩ rfl rfl rfl hP hD [0, 1, 2] rfl rfl rfl rfl hl (Nat.le_of_ble_eq_true rfl) dL_tryAppend_2 ⟨Nat.le_of_ble_eq_true rfl, Nat.le_of_ble_eq_true rfl⟩) ⟨rfl, rfl⟩ rfl rfl (fun E ce9 q9 H locs hE9 hP hD hS hce hvm hcl => ?_) (fun H locs h0 hP hD hS => ?_)
  · rcases htc with h9 | h9 | h9
    · rw [h9] at hE9; have hE9 : (none : Option String) = some E := hE9; cases hE9
    · rw [h9] at hE9
      have hE9 : some "java/lang/IllegalArgumentException" = some E := hE9
      cases hE9
      refine vx_catch (E := "java/lang/IllegalArgumentException") (name := "java/lang/IllegalArgumentException") hown [] ⟨0, 5, 6, 13⟩ [⟨0, 5, 10, 16⟩] (by rw [htab]; rfl) (fun z hz => absurd hz List.not_mem_nil) (by decide) (by decide) (hts _ (by decide +kernel)) ((hE.1 (.castable "java/lang/IllegalArgumentException" "java/lang/IllegalArgumentException") (by decide +kernel)).use rfl) hce hvm hcl ?_
      refine lv_astore_n (lv' := [(2, .ref q9), (0, .ref b), (1, .int ch)]) hx hb dL_tryAppend_6 rfl hl (by decide) rfl (fun ls hl => ?_)
      refine k_ldc (v := (-999900002)) cx (by decide +kernel) dL_tryAppend_7 ?_
      exact k_iretW (wf := [oBr b tx h ht pa sl fi bf, oTx tx tk tf, aC G tk 60 tc]) cx (by rw [h9]; rfl) (by rw [h9]; rfl) hP hS dL_tryAppend_9
    · rw [h9] at hE9
      have hE9 : some "java/lang/IllegalStateException" = some E := hE9
      cases hE9
      refine vx_catch (E := "java/lang/IllegalStateException") (name := "java/lang/IllegalStateException") hown [⟨0, 5, 6, 13⟩] ⟨0, 5, 10, 16⟩ [] (by rw [htab]; rfl) (fun z hz => by rw [List.mem_singleton.mp hz]; exact Or.inr ⟨by decide, "java/lang/IllegalArgumentException", hts _ (by decide +kernel), hN.1⟩) (by decide) (by decide) (hts _ (by decide +kernel)) ((hE.1 (.castable "java/lang/IllegalStateException" "java/lang/IllegalStateException") (by decide +kernel)).use rfl) hce hvm hcl ?_
      refine lv_astore_n (lv' := [(2, .ref q9), (0, .ref b), (1, .int ch)]) hx hb dL_tryAppend_10 rfl hl (by decide) rfl (fun ls hl => ?_)
      refine k_ldc (v := (-999900003)) cx (by decide +kernel) dL_tryAppend_11 ?_
      exact k_iretW (wf := [oBr b tx h ht pa sl fi bf, oTx tx tk tf, aC G tk 60 tc]) cx (by rw [h9]; rfl) (by rw [h9]; rfl) hP hS dL_tryAppend_13
  · exact k_iretW (wf := [oBr b tx h ht pa sl fi bf, oTx tx tk (u.2.2.1), aC G tk 60 (u.2.2.2)]) cx (by rw [h0]; rfl) (by rw [h0]; rfl) hP hS dL_tryAppend_5

abbrev rmL_tryLoad : Room := { frames := 7, cells := 1, slots := 6, locals := 132 }
set_option maxHeartbeats 4000000 in
set_option maxRecDepth 100000 in
theorem c_L_tryLoad (l : Launch) (hlt : l.stackTraces = false) (G : gG) (b : Nat) (tx : Nat) (h : Nat) (ht : Nat) (pa : Nat) (sl : Nat) (fi : Nat) (tk : Nat) (o : Nat) (g : Nat) (k : Nat) (bf : Nat → Int32) (tf : Nat → Int32) (tc : Nat → Int32) (f : Nat → Int32) (oh : Nat → Int32) (lf : Nat → Int32) (ce : Nat → Int32) (ff : Nat → Int32) (hch : ∀ j, narrow .char (.int (tc j)) = .int (tc j)) (htc : (P_X3_load bf tf tc f oh lf ce ff).1 = 0 ∨ (P_X3_load bf tf tc f oh lf ce ff).1 = 2) : kL l G yL_tryLoad wsL_tryLoad rmL_tryLoad [.ref b] [oBr b tx h ht pa sl fi bf, oTx tx tk tf, aC G tk 60 tc, oSt h o g f, aI G o 6 oh, oLed g k lf, aI G k 80 ce, aZ G fi 2 ff] (qW G (rz (P_X3_load bf tf tc f oh lf ce ff).1 (P_X3_load bf tf tc f oh lf ce ff).2.1) (P_X3_load bf tf tc f oh lf ce ff).1 [oBr b tx h ht pa sl fi ((P_X3_load bf tf tc f oh lf ce ff).2.2.1), oTx tx tk tf, aC G tk 60 tc, oSt h o g ((P_X3_load bf tf tc f oh lf ce ff).2.2.2.1), aI G o 6 ((P_X3_load bf tf tc f oh lf ce ff).2.2.2.2.1), oLed g k ((P_X3_load bf tf tc f oh lf ce ff).2.2.2.2.2.1), aI G k 80 ce, aZ G fi 2 ((P_X3_load bf tf tc f oh lf ce ff).2.2.2.2.2.2)] [oBr b tx h ht pa sl fi bf, oTx tx tk tf, aC G tk 60 tc, oSt h o g f, aI G o 6 oh, oLed g k lf, aI G k 80 ce, aZ G fi 2 ff]) := by
  refine k_bodyL (cc := cL_tryLoad) (nL := 2) (ret := some .int) (hh := [(0, 4, 5, 16)]) (by decide) rfl (Nat.le_of_ble_eq_true rfl) ?_
  intro p e s m args below meth c A cx ct hP hD hS ls hl
  obtain ⟨hx, hb, hml, hown, hts, hr, hlocks, hK, hA⟩ := id cx
  obtain ⟨htab, hE, hN, hZ⟩ := ct
  obtain ⟨H, hH⟩ : ∃ H, H = s.heap := ⟨_, rfl⟩
  obtain ⟨locs, hL⟩ : ∃ locs : List Loc, locs = [] := ⟨_, rfl⟩
  have hS : va_S A s.heap H locs := by rw [hH, hL]; exact hS
  rw [← hH] at hP ⊢
  rw [← hL]
  clear hH hL
  have hl : lv_has ls 2 [(0, .ref b)] := hl
  have hC := c_X3_load l hlt G b tx h ht pa sl fi tk o g k bf tf tc f oh lf ce ff hch
  generalize hu : P_X3_load bf tf tc f oh lf ce ff = u at hC htc ⊢
  refine lv_aload_n hx hb dL_tryLoad_0 rfl (lv_at hl 0 rfl) ?_
  refine k_iX (t := u.1) (r := u.2.1) (ws' := [oBr b tx h ht pa sl fi (u.2.2.1), oTx tx tk tf, aC G tk 60 tc, oSt h o g (u.2.2.2.1), aI G o 6 (u.2.2.2.2.1), oLed g k (u.2.2.2.2.2.1), aI G k 80 ce, aZ G fi 2 (u.2.2.2.2.2.2)]) (as := [b, tx, tk, h, o, g, k, fi]) cx hP hD hS [0, 1, 2, 3, 4, 5, 6, 7] rfl (kr_VX (n := 0) (As := []) (ci := 3) cx hE hZ hS hC gL_tryLoad_X3_load rfl rfl rfl (by decide +kernel) ⟨Nat.le_of_ble_eq_true rfl, Nat.le_of_ble_eq_true rfl⟩ rfl rfl rfl hP hD [0, 1, 2, 3, 4, 5, 6, 7] rfl rfl rfl rfl hl (Nat.le_of_ble_eq_true rfl) dL_tryLoad_1 ⟨Nat.le_of_ble_eq_true rfl, Nat.le_of_ble_eq_true rfl⟩) ⟨rfl, rfl⟩ rfl rfl (fun E ce9 q9 H locs hE9 hP hD hS hce hvm hcl => ?_) (fun H locs h0 hP hD hS => ?_)
  · rcases htc with h9 | h9
    · rw [h9] at hE9; have hE9 : (none : Option String) = some E := hE9; cases hE9
    · rw [h9] at hE9
      have hE9 : some "java/lang/IllegalStateException" = some E := hE9
      cases hE9
      refine vx_catch (E := "java/lang/IllegalStateException") (name := "java/lang/IllegalStateException") hown [] ⟨0, 4, 5, 16⟩ [] (by rw [htab]; rfl) (fun z hz => absurd hz List.not_mem_nil) (by decide) (by decide) (hts _ (by decide +kernel)) ((hE.1 (.castable "java/lang/IllegalStateException" "java/lang/IllegalStateException") (by decide +kernel)).use rfl) hce hvm hcl ?_
      refine lv_astore_n (lv' := [(1, .ref q9), (0, .ref b)]) hx hb dL_tryLoad_5 rfl hl (by decide) rfl (fun ls hl => ?_)
      refine k_ldc (v := (-999900003)) cx (by decide +kernel) dL_tryLoad_6 ?_
      exact k_iretW (wf := [oBr b tx h ht pa sl fi bf, oTx tx tk tf, aC G tk 60 tc, oSt h o g f, aI G o 6 oh, oLed g k lf, aI G k 80 ce, aZ G fi 2 ff]) cx (by rw [h9]; rfl) (by rw [h9]; rfl) hP hS dL_tryLoad_8
  · exact k_iretW (wf := [oBr b tx h ht pa sl fi (u.2.2.1), oTx tx tk tf, aC G tk 60 tc, oSt h o g (u.2.2.2.1), aI G o 6 (u.2.2.2.2.1), oLed g k (u.2.2.2.2.2.1), aI G k 80 ce, aZ G fi 2 (u.2.2.2.2.2.2)]) cx (by rw [h0]; rfl) (by rw [h0]; rfl) hP hS dL_tryLoad_4

abbrev rmL_tryAbout : Room := { frames := 7, cells := 1, slots := 6, locals := 103 }
set_option maxHeartbeats 4000000 in
set_option maxRecDepth 100000 in
theorem c_L_tryAbout (l : Launch) (hlt : l.stackTraces = false) (G : gG) (b : Nat) (tx : Nat) (h : Nat) (ht : Nat) (pa : Nat) (sl : Nat) (fi : Nat) (o : Nat) (g : Nat) (k : Nat) (bf : Nat → Int32) (f : Nat → Int32) (lf : Nat → Int32) (what : Int32)  (htc : (P_X3_about bf f lf what).1 = 0 ∨ (P_X3_about bf f lf what).1 = 1) : kL l G yL_tryAbout wsL_tryAbout rmL_tryAbout [.ref b, .int what] [oBr b tx h ht pa sl fi bf, oSt h o g f, oLed g k lf] (qW G (rz (P_X3_about bf f lf what).1 (P_X3_about bf f lf what).2) (P_X3_about bf f lf what).1 [oBr b tx h ht pa sl fi bf, oSt h o g f, oLed g k lf] [oBr b tx h ht pa sl fi bf, oSt h o g f, oLed g k lf]) := by
  refine k_bodyL (cc := cL_tryAbout) (nL := 3) (ret := some .int) (hh := [(0, 5, 6, 13)]) (by decide) rfl (Nat.le_of_ble_eq_true rfl) ?_
  intro p e s m args below meth c A cx ct hP hD hS ls hl
  obtain ⟨hx, hb, hml, hown, hts, hr, hlocks, hK, hA⟩ := id cx
  obtain ⟨htab, hE, hN, hZ⟩ := ct
  obtain ⟨H, hH⟩ : ∃ H, H = s.heap := ⟨_, rfl⟩
  obtain ⟨locs, hL⟩ : ∃ locs : List Loc, locs = [] := ⟨_, rfl⟩
  have hS : va_S A s.heap H locs := by rw [hH, hL]; exact hS
  rw [← hH] at hP ⊢
  rw [← hL]
  clear hH hL
  have hl : lv_has ls 3 [(0, .ref b), (1, .int what)] := hl
  have hC := c_X3_about l hlt G b tx h ht pa sl fi o g k bf f lf what
  generalize hu : P_X3_about bf f lf what = u at hC htc ⊢
  refine lv_aload_n hx hb dL_tryAbout_0 rfl (lv_at hl 0 rfl) ?_
  refine lv_iload_n hx hb dL_tryAbout_1 rfl (lv_at hl 1 rfl) ?_
  refine k_iX (t := u.1) (r := u.2) (ws' := [oBr b tx h ht pa sl fi bf, oSt h o g f, oLed g k lf]) (as := [b, h, g]) cx hP hD hS [0, 1, 2] rfl (kr_VX (n := 1) (As := [.int what]) (ci := 3) cx hE hZ hS hC gL_tryAbout_X3_about rfl rfl rfl (by decide +kernel) ⟨Nat.le_of_ble_eq_true rfl, Nat.le_of_ble_eq_true rfl⟩ rfl rfl rfl hP hD [0, 1, 2] rfl rfl rfl rfl hl (Nat.le_of_ble_eq_true rfl) dL_tryAbout_2 ⟨Nat.le_of_ble_eq_true rfl, Nat.le_of_ble_eq_true rfl⟩) ⟨rfl, rfl⟩ rfl rfl (fun E ce9 q9 H locs hE9 hP hD hS hce hvm hcl => ?_) (fun H locs h0 hP hD hS => ?_)
  · rcases htc with h9 | h9
    · rw [h9] at hE9; have hE9 : (none : Option String) = some E := hE9; cases hE9
    · rw [h9] at hE9
      have hE9 : some "java/lang/IllegalArgumentException" = some E := hE9
      cases hE9
      refine vx_catch (E := "java/lang/IllegalArgumentException") (name := "java/lang/IllegalArgumentException") hown [] ⟨0, 5, 6, 13⟩ [] (by rw [htab]; rfl) (fun z hz => absurd hz List.not_mem_nil) (by decide) (by decide) (hts _ (by decide +kernel)) ((hE.1 (.castable "java/lang/IllegalArgumentException" "java/lang/IllegalArgumentException") (by decide +kernel)).use rfl) hce hvm hcl ?_
      refine lv_astore_n (lv' := [(2, .ref q9), (0, .ref b), (1, .int what)]) hx hb dL_tryAbout_6 rfl hl (by decide) rfl (fun ls hl => ?_)
      refine k_ldc (v := (-999900002)) cx (by decide +kernel) dL_tryAbout_7 ?_
      exact k_iretW (wf := [oBr b tx h ht pa sl fi bf, oSt h o g f, oLed g k lf]) cx (by rw [h9]; rfl) (by rw [h9]; rfl) hP hS dL_tryAbout_9
  · exact k_iretW (wf := [oBr b tx h ht pa sl fi bf, oSt h o g f, oLed g k lf]) cx (by rw [h0]; rfl) (by rw [h0]; rfl) hP hS dL_tryAbout_5

abbrev rmL_tryTold : Room := { frames := 7, cells := 1, slots := 6, locals := 104 }
set_option maxHeartbeats 4000000 in
set_option maxRecDepth 100000 in
theorem c_L_tryTold (l : Launch) (hlt : l.stackTraces = false) (G : gG) (b : Nat) (tx : Nat) (h : Nat) (ht : Nat) (pa : Nat) (sl : Nat) (fi : Nat) (o : Nat) (g : Nat) (k : Nat) (bf : Nat → Int32) (f : Nat → Int32) (lf : Nat → Int32) (ce : Nat → Int32) (j : Int32) (what : Int32)  (htc : (P_X3_told bf f lf ce j what).1 = 0 ∨ (P_X3_told bf f lf ce j what).1 = 1) : kL l G yL_tryTold wsL_tryTold rmL_tryTold [.ref b, .int j, .int what] [oBr b tx h ht pa sl fi bf, oSt h o g f, oLed g k lf, aI G k 80 ce] (qW G (rz (P_X3_told bf f lf ce j what).1 (P_X3_told bf f lf ce j what).2) (P_X3_told bf f lf ce j what).1 [oBr b tx h ht pa sl fi bf, oSt h o g f, oLed g k lf, aI G k 80 ce] [oBr b tx h ht pa sl fi bf, oSt h o g f, oLed g k lf, aI G k 80 ce]) := by
  refine k_bodyL (cc := cL_tryTold) (nL := 4) (ret := some .int) (hh := [(0, 6, 7, 13)]) (by decide) rfl (Nat.le_of_ble_eq_true rfl) ?_
  intro p e s m args below meth c A cx ct hP hD hS ls hl
  obtain ⟨hx, hb, hml, hown, hts, hr, hlocks, hK, hA⟩ := id cx
  obtain ⟨htab, hE, hN, hZ⟩ := ct
  obtain ⟨H, hH⟩ : ∃ H, H = s.heap := ⟨_, rfl⟩
  obtain ⟨locs, hL⟩ : ∃ locs : List Loc, locs = [] := ⟨_, rfl⟩
  have hS : va_S A s.heap H locs := by rw [hH, hL]; exact hS
  rw [← hH] at hP ⊢
  rw [← hL]
  clear hH hL
  have hl : lv_has ls 4 [(0, .ref b), (1, .int j), (2, .int what)] := hl
  have hC := c_X3_told l hlt G b tx h ht pa sl fi o g k bf f lf ce j what
  generalize hu : P_X3_told bf f lf ce j what = u at hC htc ⊢
  refine lv_aload_n hx hb dL_tryTold_0 rfl (lv_at hl 0 rfl) ?_
  refine lv_iload_n hx hb dL_tryTold_1 rfl (lv_at hl 1 rfl) ?_
  refine lv_iload_n hx hb dL_tryTold_2 rfl (lv_at hl 2 rfl) ?_
  refine k_iX (t := u.1) (r := u.2) (ws' := [oBr b tx h ht pa sl fi bf, oSt h o g f, oLed g k lf, aI G k 80 ce]) (as := [b, h, g, k]) cx hP hD hS [0, 1, 2, 3] rfl (kr_VX (n := 2) (As := [.int j, .int what]) (ci := 3) cx hE hZ hS hC gL_tryTold_X3_told rfl rfl rfl (by decide +kernel) ⟨Nat.le_of_ble_eq_true rfl, Nat.le_of_ble_eq_true rfl⟩ rfl rfl rfl hP hD [0, 1, 2, 3] rfl rfl rfl rfl hl (Nat.le_of_ble_eq_true rfl) dL_tryTold_3 ⟨Nat.le_of_ble_eq_true rfl, Nat.le_of_ble_eq_true rfl⟩) ⟨rfl, rfl⟩ rfl rfl (fun E ce9 q9 H locs hE9 hP hD hS hce hvm hcl => ?_) (fun H locs h0 hP hD hS => ?_)
  · rcases htc with h9 | h9
    · rw [h9] at hE9; have hE9 : (none : Option String) = some E := hE9; cases hE9
    · rw [h9] at hE9
      have hE9 : some "java/lang/IllegalArgumentException" = some E := hE9
      cases hE9
      refine vx_catch (E := "java/lang/IllegalArgumentException") (name := "java/lang/IllegalArgumentException") hown [] ⟨0, 6, 7, 13⟩ [] (by rw [htab]; rfl) (fun z hz => absurd hz List.not_mem_nil) (by decide) (by decide) (hts _ (by decide +kernel)) ((hE.1 (.castable "java/lang/IllegalArgumentException" "java/lang/IllegalArgumentException") (by decide +kernel)).use rfl) hce hvm hcl ?_
      refine lv_astore_n (lv' := [(3, .ref q9), (0, .ref b), (1, .int j), (2, .int what)]) hx hb dL_tryTold_7 rfl hl (by decide) rfl (fun ls hl => ?_)
      refine k_ldc (v := (-999900002)) cx (by decide +kernel) dL_tryTold_8 ?_
      exact k_iretW (wf := [oBr b tx h ht pa sl fi bf, oSt h o g f, oLed g k lf, aI G k 80 ce]) cx (by rw [h9]; rfl) (by rw [h9]; rfl) hP hS dL_tryTold_10
  · exact k_iretW (wf := [oBr b tx h ht pa sl fi bf, oSt h o g f, oLed g k lf, aI G k 80 ce]) cx (by rw [h0]; rfl) (by rw [h0]; rfl) hP hS dL_tryTold_6

abbrev rmL_tryBridge : Room := { frames := 7, cells := 1, slots := 6, locals := 103 }
set_option maxHeartbeats 4000000 in
set_option maxRecDepth 100000 in
theorem c_L_tryBridge (l : Launch) (hlt : l.stackTraces = false) (G : gG) (b : Nat) (tx : Nat) (h : Nat) (ht : Nat) (pa : Nat) (sl : Nat) (fi : Nat) (o : Nat) (g : Nat) (bf : Nat → Int32) (f : Nat → Int32) (oh : Nat → Int32) (what : Int32)  (htc : (P_X3_bridge bf f oh what).1 = 0 ∨ (P_X3_bridge bf f oh what).1 = 1) : kL l G yL_tryBridge wsL_tryBridge rmL_tryBridge [.ref b, .int what] [oBr b tx h ht pa sl fi bf, oSt h o g f, aI G o 6 oh] (qW G (rz (P_X3_bridge bf f oh what).1 (P_X3_bridge bf f oh what).2) (P_X3_bridge bf f oh what).1 [oBr b tx h ht pa sl fi bf, oSt h o g f, aI G o 6 oh] [oBr b tx h ht pa sl fi bf, oSt h o g f, aI G o 6 oh]) := by
  refine k_bodyL (cc := cL_tryBridge) (nL := 3) (ret := some .int) (hh := [(0, 5, 6, 13)]) (by decide) rfl (Nat.le_of_ble_eq_true rfl) ?_
  intro p e s m args below meth c A cx ct hP hD hS ls hl
  obtain ⟨hx, hb, hml, hown, hts, hr, hlocks, hK, hA⟩ := id cx
  obtain ⟨htab, hE, hN, hZ⟩ := ct
  obtain ⟨H, hH⟩ : ∃ H, H = s.heap := ⟨_, rfl⟩
  obtain ⟨locs, hL⟩ : ∃ locs : List Loc, locs = [] := ⟨_, rfl⟩
  have hS : va_S A s.heap H locs := by rw [hH, hL]; exact hS
  rw [← hH] at hP ⊢
  rw [← hL]
  clear hH hL
  have hl : lv_has ls 3 [(0, .ref b), (1, .int what)] := hl
  have hC := c_X3_bridge l hlt G b tx h ht pa sl fi o g bf f oh what
  generalize hu : P_X3_bridge bf f oh what = u at hC htc ⊢
  refine lv_aload_n hx hb dL_tryBridge_0 rfl (lv_at hl 0 rfl) ?_
  refine lv_iload_n hx hb dL_tryBridge_1 rfl (lv_at hl 1 rfl) ?_
  refine k_iX (t := u.1) (r := u.2) (ws' := [oBr b tx h ht pa sl fi bf, oSt h o g f, aI G o 6 oh]) (as := [b, h, o]) cx hP hD hS [0, 1, 2] rfl (kr_VX (n := 1) (As := [.int what]) (ci := 3) cx hE hZ hS hC gL_tryBridge_X3_bridge rfl rfl rfl (by decide +kernel) ⟨Nat.le_of_ble_eq_true rfl, Nat.le_of_ble_eq_true rfl⟩ rfl rfl rfl hP hD [0, 1, 2] rfl rfl rfl rfl hl (Nat.le_of_ble_eq_true rfl) dL_tryBridge_2 ⟨Nat.le_of_ble_eq_true rfl, Nat.le_of_ble_eq_true rfl⟩) ⟨rfl, rfl⟩ rfl rfl (fun E ce9 q9 H locs hE9 hP hD hS hce hvm hcl => ?_) (fun H locs h0 hP hD hS => ?_)
  · rcases htc with h9 | h9
    · rw [h9] at hE9; have hE9 : (none : Option String) = some E := hE9; cases hE9
    · rw [h9] at hE9
      have hE9 : some "java/lang/IllegalArgumentException" = some E := hE9
      cases hE9
      refine vx_catch (E := "java/lang/IllegalArgumentException") (name := "java/lang/IllegalArgumentException") hown [] ⟨0, 5, 6, 13⟩ [] (by rw [htab]; rfl) (fun z hz => absurd hz List.not_mem_nil) (by decide) (by decide) (hts _ (by decide +kernel)) ((hE.1 (.castable "java/lang/IllegalArgumentException" "java/lang/IllegalArgumentException") (by decide +kernel)).use rfl) hce hvm hcl ?_
      refine lv_astore_n (lv' := [(2, .ref q9), (0, .ref b), (1, .int what)]) hx hb dL_tryBridge_6 rfl hl (by decide) rfl (fun ls hl => ?_)
      refine k_ldc (v := (-999900002)) cx (by decide +kernel) dL_tryBridge_7 ?_
      exact k_iretW (wf := [oBr b tx h ht pa sl fi bf, oSt h o g f, aI G o 6 oh]) cx (by rw [h9]; rfl) (by rw [h9]; rfl) hP hS dL_tryBridge_9
  · exact k_iretW (wf := [oBr b tx h ht pa sl fi bf, oSt h o g f, aI G o 6 oh]) cx (by rw [h0]; rfl) (by rw [h0]; rfl) hP hS dL_tryBridge_5

abbrev rmL_tryPress : Room := { frames := 7, cells := 1, slots := 6, locals := 103 }
set_option maxHeartbeats 4000000 in
set_option maxRecDepth 100000 in
theorem c_L_tryPress (l : Launch) (hlt : l.stackTraces = false) (G : gG) (b : Nat) (tx : Nat) (h : Nat) (ht : Nat) (pa : Nat) (sl : Nat) (fi : Nat) (o : Nat) (g : Nat) (k : Nat) (h2 : Nat) (o2 : Nat) (g2 : Nat) (k2 : Nat) (bf : Nat → Int32) (pg : Nat → Option Nat) (f : Nat → Int32) (oh : Nat → Int32) (lf : Nat → Int32) (ce : Nat → Int32) (f2 : Nat → Int32) (oh2 : Nat → Int32) (lf2 : Nat → Int32) (ce2 : Nat → Int32) (rv : Int32) (hst : f 9 = 0 ∨ f 9 = 1) (hpg : P_X3_entry 14 pg (bf 5) = some h2) (htc : (P_X3_press bf pg f oh lf ce f2 oh2 lf2 ce2 rv).1 = 0 ∨ (P_X3_press bf pg f oh lf ce f2 oh2 lf2 ce2 rv).1 = 2) : kL l G yL_tryPress wsL_tryPress rmL_tryPress [.ref b, .int rv] [oBr b tx h ht pa sl fi bf, aS G pa 14 pg, oSt h o g f, aI G o 6 oh, oLed g k lf, aI G k 80 ce, oSt h2 o2 g2 f2, aI G o2 6 oh2, oLed g2 k2 lf2, aI G k2 80 ce2] (qW G (rz (P_X3_press bf pg f oh lf ce f2 oh2 lf2 ce2 rv).1 (P_X3_press bf pg f oh lf ce f2 oh2 lf2 ce2 rv).2.1) (P_X3_press bf pg f oh lf ce f2 oh2 lf2 ce2 rv).1 [oBr b tx h ht pa sl fi ((P_X3_press bf pg f oh lf ce f2 oh2 lf2 ce2 rv).2.2.1), aS G pa 14 pg, oSt h o g ((P_X3_press bf pg f oh lf ce f2 oh2 lf2 ce2 rv).2.2.2.1), aI G o 6 oh, oLed g k ((P_X3_press bf pg f oh lf ce f2 oh2 lf2 ce2 rv).2.2.2.2.1), aI G k 80 ((P_X3_press bf pg f oh lf ce f2 oh2 lf2 ce2 rv).2.2.2.2.2.1), oSt h2 o2 g2 ((P_X3_press bf pg f oh lf ce f2 oh2 lf2 ce2 rv).2.2.2.2.2.2.1), aI G o2 6 ((P_X3_press bf pg f oh lf ce f2 oh2 lf2 ce2 rv).2.2.2.2.2.2.2.1), oLed g2 k2 ((P_X3_press bf pg f oh lf ce f2 oh2 lf2 ce2 rv).2.2.2.2.2.2.2.2.1), aI G k2 80 ((P_X3_press bf pg f oh lf ce f2 oh2 lf2 ce2 rv).2.2.2.2.2.2.2.2.2)] [oBr b tx h ht pa sl fi bf, aS G pa 14 pg, oSt h o g f, aI G o 6 oh, oLed g k lf, aI G k 80 ce, oSt h2 o2 g2 f2, aI G o2 6 oh2, oLed g2 k2 lf2, aI G k2 80 ce2]) := by
  refine k_bodyL (cc := cL_tryPress) (nL := 3) (ret := some .int) (hh := [(0, 5, 6, 16)]) (by decide) rfl (Nat.le_of_ble_eq_true rfl) ?_
  intro p e s m args below meth c A cx ct hP hD hS ls hl
  obtain ⟨hx, hb, hml, hown, hts, hr, hlocks, hK, hA⟩ := id cx
  obtain ⟨htab, hE, hN, hZ⟩ := ct
  obtain ⟨H, hH⟩ : ∃ H, H = s.heap := ⟨_, rfl⟩
  obtain ⟨locs, hL⟩ : ∃ locs : List Loc, locs = [] := ⟨_, rfl⟩
  have hS : va_S A s.heap H locs := by rw [hH, hL]; exact hS
  rw [← hH] at hP ⊢
  rw [← hL]
  clear hH hL
  have hl : lv_has ls 3 [(0, .ref b), (1, .int rv)] := hl
  have hC := c_X3_press l hlt G b tx h ht pa sl fi o g k h2 o2 g2 k2 bf pg f oh lf ce f2 oh2 lf2 ce2 rv hst hpg
  generalize hu : P_X3_press bf pg f oh lf ce f2 oh2 lf2 ce2 rv = u at hC htc ⊢
  refine lv_aload_n hx hb dL_tryPress_0 rfl (lv_at hl 0 rfl) ?_
  refine lv_iload_n hx hb dL_tryPress_1 rfl (lv_at hl 1 rfl) ?_
  refine k_iX (t := u.1) (r := u.2.1) (ws' := [oBr b tx h ht pa sl fi (u.2.2.1), aS G pa 14 pg, oSt h o g (u.2.2.2.1), aI G o 6 oh, oLed g k (u.2.2.2.2.1), aI G k 80 (u.2.2.2.2.2.1), oSt h2 o2 g2 (u.2.2.2.2.2.2.1), aI G o2 6 (u.2.2.2.2.2.2.2.1), oLed g2 k2 (u.2.2.2.2.2.2.2.2.1), aI G k2 80 (u.2.2.2.2.2.2.2.2.2)]) (as := [b, pa, h, o, g, k, h2, o2, g2, k2]) cx hP hD hS [0, 1, 2, 3, 4, 5, 6, 7, 8, 9] rfl (kr_VX (n := 1) (As := [.int rv]) (ci := 3) cx hE hZ hS hC gL_tryPress_X3_press rfl rfl rfl (by decide +kernel) ⟨Nat.le_of_ble_eq_true rfl, Nat.le_of_ble_eq_true rfl⟩ rfl rfl rfl hP hD [0, 1, 2, 3, 4, 5, 6, 7, 8, 9] rfl rfl rfl rfl hl (Nat.le_of_ble_eq_true rfl) dL_tryPress_2 ⟨Nat.le_of_ble_eq_true rfl, Nat.le_of_ble_eq_true rfl⟩) ⟨rfl, rfl⟩ rfl rfl (fun E ce9 q9 H locs hE9 hP hD hS hce hvm hcl => ?_) (fun H locs h0 hP hD hS => ?_)
  · rcases htc with h9 | h9
    · rw [h9] at hE9; have hE9 : (none : Option String) = some E := hE9; cases hE9
    · rw [h9] at hE9
      have hE9 : some "java/lang/IllegalStateException" = some E := hE9
      cases hE9
      refine vx_catch (E := "java/lang/IllegalStateException") (name := "java/lang/IllegalStateException") hown [] ⟨0, 5, 6, 16⟩ [] (by rw [htab]; rfl) (fun z hz => absurd hz List.not_mem_nil) (by decide) (by decide) (hts _ (by decide +kernel)) ((hE.1 (.castable "java/lang/IllegalStateException" "java/lang/IllegalStateException") (by decide +kernel)).use rfl) hce hvm hcl ?_
      refine lv_astore_n (lv' := [(2, .ref q9), (0, .ref b), (1, .int rv)]) hx hb dL_tryPress_6 rfl hl (by decide) rfl (fun ls hl => ?_)
      refine k_ldc (v := (-999900003)) cx (by decide +kernel) dL_tryPress_7 ?_
      exact k_iretW (wf := [oBr b tx h ht pa sl fi bf, aS G pa 14 pg, oSt h o g f, aI G o 6 oh, oLed g k lf, aI G k 80 ce, oSt h2 o2 g2 f2, aI G o2 6 oh2, oLed g2 k2 lf2, aI G k2 80 ce2]) cx (by rw [h9]; rfl) (by rw [h9]; rfl) hP hS dL_tryPress_9
  · exact k_iretW (wf := [oBr b tx h ht pa sl fi (u.2.2.1), aS G pa 14 pg, oSt h o g (u.2.2.2.1), aI G o 6 oh, oLed g k (u.2.2.2.2.1), aI G k 80 (u.2.2.2.2.2.1), oSt h2 o2 g2 (u.2.2.2.2.2.2.1), aI G o2 6 (u.2.2.2.2.2.2.2.1), oLed g2 k2 (u.2.2.2.2.2.2.2.2.1), aI G k2 80 (u.2.2.2.2.2.2.2.2.2)]) cx (by rw [h0]; rfl) (by rw [h0]; rfl) hP hS dL_tryPress_5

