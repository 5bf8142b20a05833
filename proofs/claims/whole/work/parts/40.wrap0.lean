/-! the law: its wrappers -/
abbrev rmL_append : Room := { frames := 7, cells := 1, slots := 6, locals := 103 }
set_option maxHeartbeats 4000000 in
set_option maxRecDepth 100000 in
theorem c_L_append (l : Launch) (hlt : l.stackTraces = false) (G : gG) (cJ : ClassId) (out : Nat) (fo : Nat → Int64) (b : Nat) (tx : Nat) (h : Nat) (ht : Nat) (pa : Nat) (sl : Nat) (fi : Nat) (tk : Nat) (bf : Nat → Int32) (tf : Nat → Int32) (tc : Nat → Int32) (ch : Int32)  (htc : (P_X3_append bf tf tc ch).1 = 0 ∨ (P_X3_append bf tf tc ch).1 = 1 ∨ (P_X3_append bf tf tc ch).1 = 2) : kL l G cJ yL_append wsL_append rmL_append [.ref b, .int ch, .ref out] [oJ cJ out fo, oBr b tx h ht pa sl fi bf, oTx tx tk tf, aC G tk 60 tc] (qW G (hm 1 (P_X3_append bf tf tc ch).1) (P_X3_append bf tf tc ch).1 [oJ cJ out (vp_updL fo 0 ((P_X3_append bf tf tc ch).2.1).toInt64), oBr b tx h ht pa sl fi bf, oTx tx tk ((P_X3_append bf tf tc ch).2.2.1), aC G tk 60 ((P_X3_append bf tf tc ch).2.2.2)] [oJ cJ out fo, oBr b tx h ht pa sl fi bf, oTx tx tk tf, aC G tk 60 tc]) := by
  refine k_bodyL (cc := cL_append) (nL := 4) (ret := some .int) (hh := [(0, 9, 12, 13), (0, 9, 15, 15)]) (by decide) rfl (Nat.le_of_ble_eq_true rfl) ?_
  intro p e s m args below meth c A cx ct hP hD hS ls hl
  obtain ⟨hx, hb, hml, hown, hts, hr, hlocks, hK, hA⟩ := id cx
  obtain ⟨hKJ, htab, hE, hN, hZ⟩ := ct
  obtain ⟨H, hH⟩ : ∃ H, H = s.heap := ⟨_, rfl⟩
  obtain ⟨locs, hL⟩ : ∃ locs : List Loc, locs = [] := ⟨_, rfl⟩
  have hS : va_S A s.heap H locs := by rw [hH, hL]; exact hS
  rw [← hH] at hP ⊢
  rw [← hL]
  clear hH hL
  have hl : lv_has ls 4 [(0, .ref b), (1, .int ch), (2, .ref out)] := hl
  have hC := c_X3_append l hlt G b tx h ht pa sl fi tk bf tf tc ch
  generalize hu : P_X3_append bf tf tc ch = u at hC htc ⊢
  refine lv_aload_n hx hb dL_append_0 rfl (lv_at hl 2 rfl) ?_
  refine lv_iconst (v := 0) hx hb dL_append_1 (by decide) ?_
  refine lv_aload_n hx hb dL_append_2 rfl (lv_at hl 0 rfl) ?_
  refine lv_iload_n hx hb dL_append_3 rfl (lv_at hl 1 rfl) ?_
  refine k_iX (t := u.1) (r := u.2.1) (ws' := [oJ cJ out fo, oBr b tx h ht pa sl fi bf, oTx tx tk (u.2.2.1), aC G tk 60 (u.2.2.2)]) (as := [b, tx, tk]) cx hP hD hS [1, 2, 3] rfl (kr_VX (n := 1) (As := [.int ch]) (ci := 3) cx hE hZ hS hC gL_append_X3_append rfl rfl rfl (by decide +kernel) ⟨Nat.le_of_ble_eq_true rfl, Nat.le_of_ble_eq_true rfl⟩ rfl rfl rfl hP hD [1, 2, 3] rfl rfl rfl rfl hl (Nat.le_of_ble_eq_true rfl) dL_append_4 ⟨Nat.le_of_ble_eq_true rfl, Nat.le_of_ble_eq_true rfl⟩) ⟨rfl, rfl⟩ rfl rfl (fun E ce9 q9 H locs hE9 hP hD hS hce hvm hcl => ?_) (fun H locs h0 hP hD hS => ?_)
  · rcases htc with h9 | h9 | h9
    · rw [h9] at hE9; have hE9 : (none : Option String) = some E := hE9; cases hE9
    · rw [h9] at hE9
      have hE9 : some "java/lang/IllegalArgumentException" = some E := hE9
      cases hE9
      refine vx_catch (E := "java/lang/IllegalArgumentException") (name := "java/lang/IllegalArgumentException") hown [] ⟨0, 9, 12, 13⟩ [⟨0, 9, 15, 15⟩] (by rw [htab]; rfl) (fun z hz => absurd hz List.not_mem_nil) (by decide) (by decide) (hts _ (by decide +kernel)) ((hE.1 (.castable "java/lang/IllegalArgumentException" "java/lang/IllegalArgumentException") (by decide +kernel)).use rfl) hce hvm hcl ?_
      refine lv_astore_n (lv' := [(3, .ref q9), (0, .ref b), (1, .int ch), (2, .ref out)]) hx hb dL_append_12 rfl hl (by decide) rfl (fun ls hl => ?_)
      refine lv_iconst (v := 1) hx hb dL_append_13 (by decide) ?_
      exact k_iretW (wf := [oJ cJ out fo, oBr b tx h ht pa sl fi bf, oTx tx tk tf, aC G tk 60 tc]) cx (by rw [h9]; rfl) (by rw [h9]; rfl) hP hS dL_append_14
    · rw [h9] at hE9
      have hE9 : some "java/lang/IllegalStateException" = some E := hE9
      cases hE9
      refine vx_catch (E := "java/lang/IllegalStateException") (name := "java/lang/IllegalStateException") hown [⟨0, 9, 12, 13⟩] ⟨0, 9, 15, 15⟩ [] (by rw [htab]; rfl) (fun z hz => by rw [List.mem_singleton.mp hz]; exact Or.inr ⟨by decide, "java/lang/IllegalArgumentException", hts _ (by decide +kernel), hN.1⟩) (by decide) (by decide) (hts _ (by decide +kernel)) ((hE.1 (.castable "java/lang/IllegalStateException" "java/lang/IllegalStateException") (by decide +kernel)).use rfl) hce hvm hcl ?_
      refine lv_astore_n (lv' := [(3, .ref q9), (0, .ref b), (1, .int ch), (2, .ref out)]) hx hb dL_append_15 rfl hl (by decide) rfl (fun ls hl => ?_)
      refine lv_iconst (v := 2) hx hb dL_append_16 (by decide) ?_
      exact k_iretW (wf := [oJ cJ out fo, oBr b tx h ht pa sl fi bf, oTx tx tk tf, aC G tk 60 tc]) cx (by rw [h9]; rfl) (by rw [h9]; rfl) hP hS dL_append_17
  · refine lv_i2l hx hb dL_append_7 rfl ?_
    refine k_last (ws' := [oJ cJ out (vp_updL fo 0 (u.2.1).toInt64), oBr b tx h ht pa sl fi bf, oTx tx tk (u.2.2.1), aC G tk 60 (u.2.2.2)]) cx hKJ hP hD hS 0 rfl (by unfold vp_in; decide) rfl dL_append_8 (fun H locs hP hD hS => ?_)
    refine lv_goto (tgt := 18) hx hb dL_append_9 (by decide) ?_
    refine lv_iconst (v := 0) hx hb dL_append_18 (by decide) ?_
    exact k_iretW (wf := [oJ cJ out (vp_updL fo 0 (u.2.1).toInt64), oBr b tx h ht pa sl fi bf, oTx tx tk (u.2.2.1), aC G tk 60 (u.2.2.2)]) cx (by rw [h0]; rfl) (by rw [h0]; rfl) hP hS dL_append_19

abbrev rmL_load : Room := { frames := 7, cells := 1, slots := 6, locals := 132 }
set_option maxHeartbeats 4000000 in
set_option maxRecDepth 100000 in
theorem c_L_load (l : Launch) (hlt : l.stackTraces = false) (G : gG) (cJ : ClassId) (out : Nat) (fo : Nat → Int64) (b : Nat) (tx : Nat) (h : Nat) (ht : Nat) (pa : Nat) (sl : Nat) (fi : Nat) (tk : Nat) (o : Nat) (g : Nat) (k : Nat) (bf : Nat → Int32) (tf : Nat → Int32) (tc : Nat → Int32) (f : Nat → Int32) (oh : Nat → Int32) (lf : Nat → Int32) (ce : Nat → Int32) (ff : Nat → Int32) (hch : ∀ j, narrow .char (.int (tc j)) = .int (tc j)) (htc : (P_X3_load bf tf tc f oh lf ce ff).1 = 0 ∨ (P_X3_load bf tf tc f oh lf ce ff).1 = 2) : kL l G cJ yL_load wsL_load rmL_load [.ref b, .ref out] [oJ cJ out fo, oBr b tx h ht pa sl fi bf, oTx tx tk tf, aC G tk 60 tc, oSt h o g f, aI G o 6 oh, oLed g k lf, aI G k 80 ce, aZ G fi 2 ff] (qW G (hm 2 (P_X3_load bf tf tc f oh lf ce ff).1) (P_X3_load bf tf tc f oh lf ce ff).1 [oJ cJ out (vp_updL fo 0 ((P_X3_load bf tf tc f oh lf ce ff).2.1).toInt64), oBr b tx h ht pa sl fi ((P_X3_load bf tf tc f oh lf ce ff).2.2.1), oTx tx tk tf, aC G tk 60 tc, oSt h o g ((P_X3_load bf tf tc f oh lf ce ff).2.2.2.1), aI G o 6 ((P_X3_load bf tf tc f oh lf ce ff).2.2.2.2.1), oLed g k ((P_X3_load bf tf tc f oh lf ce ff).2.2.2.2.2.1), aI G k 80 ce, aZ G fi 2 ((P_X3_load bf tf tc f oh lf ce ff).2.2.2.2.2.2)] [oJ cJ out fo, oBr b tx h ht pa sl fi bf, oTx tx tk tf, aC G tk 60 tc, oSt h o g f, aI G o 6 oh, oLed g k lf, aI G k 80 ce, aZ G fi 2 ff]) := by
  refine k_bodyL (cc := cL_load) (nL := 3) (ret := some .int) (hh := [(0, 8, 11, 15)]) (by decide) rfl (Nat.le_of_ble_eq_true rfl) ?_
  intro p e s m args below meth c A cx ct hP hD hS ls hl
  obtain ⟨hx, hb, hml, hown, hts, hr, hlocks, hK, hA⟩ := id cx
  obtain ⟨hKJ, htab, hE, hN, hZ⟩ := ct
  obtain ⟨H, hH⟩ : ∃ H, H = s.heap := ⟨_, rfl⟩
  obtain ⟨locs, hL⟩ : ∃ locs : List Loc, locs = [] := ⟨_, rfl⟩
  have hS : va_S A s.heap H locs := by rw [hH, hL]; exact hS
  rw [← hH] at hP ⊢
  rw [← hL]
  clear hH hL
  have hl : lv_has ls 3 [(0, .ref b), (1, .ref out)] := hl
  have hC := c_X3_load l hlt G b tx h ht pa sl fi tk o g k bf tf tc f oh lf ce ff hch
  generalize hu : P_X3_load bf tf tc f oh lf ce ff = u at hC htc ⊢
  refine lv_aload_n hx hb dL_load_0 rfl (lv_at hl 1 rfl) ?_
  refine lv_iconst (v := 0) hx hb dL_load_1 (by decide) ?_
  refine lv_aload_n hx hb dL_load_2 rfl (lv_at hl 0 rfl) ?_
  refine k_iX (t := u.1) (r := u.2.1) (ws' := [oJ cJ out fo, oBr b tx h ht pa sl fi (u.2.2.1), oTx tx tk tf, aC G tk 60 tc, oSt h o g (u.2.2.2.1), aI G o 6 (u.2.2.2.2.1), oLed g k (u.2.2.2.2.2.1), aI G k 80 ce, aZ G fi 2 (u.2.2.2.2.2.2)]) (as := [b, tx, tk, h, o, g, k, fi]) cx hP hD hS [1, 2, 3, 4, 5, 6, 7, 8] rfl (kr_VX (n := 0) (As := []) (ci := 3) cx hE hZ hS hC gL_load_X3_load rfl rfl rfl (by decide +kernel) ⟨Nat.le_of_ble_eq_true rfl, Nat.le_of_ble_eq_true rfl⟩ rfl rfl rfl hP hD [1, 2, 3, 4, 5, 6, 7, 8] rfl rfl rfl rfl hl (Nat.le_of_ble_eq_true rfl) dL_load_3 ⟨Nat.le_of_ble_eq_true rfl, Nat.le_of_ble_eq_true rfl⟩) ⟨rfl, rfl⟩ rfl rfl (fun E ce9 q9 H locs hE9 hP hD hS hce hvm hcl => ?_) (fun H locs h0 hP hD hS => ?_)
  · rcases htc with h9 | h9
    · rw [h9] at hE9; have hE9 : (none : Option String) = some E := hE9; cases hE9
    · rw [h9] at hE9
      have hE9 : some "java/lang/IllegalStateException" = some E := hE9
      cases hE9
      refine vx_catch (E := "java/lang/IllegalStateException") (name := "java/lang/IllegalStateException") hown [] ⟨0, 8, 11, 15⟩ [] (by rw [htab]; rfl) (fun z hz => absurd hz List.not_mem_nil) (by decide) (by decide) (hts _ (by decide +kernel)) ((hE.1 (.castable "java/lang/IllegalStateException" "java/lang/IllegalStateException") (by decide +kernel)).use rfl) hce hvm hcl ?_
      refine lv_astore_n (lv' := [(2, .ref q9), (0, .ref b), (1, .ref out)]) hx hb dL_load_11 rfl hl (by decide) rfl (fun ls hl => ?_)
      refine lv_iconst (v := 1) hx hb dL_load_12 (by decide) ?_
      exact k_iretW (wf := [oJ cJ out fo, oBr b tx h ht pa sl fi bf, oTx tx tk tf, aC G tk 60 tc, oSt h o g f, aI G o 6 oh, oLed g k lf, aI G k 80 ce, aZ G fi 2 ff]) cx (by rw [h9]; rfl) (by rw [h9]; rfl) hP hS dL_load_13
  · refine lv_i2l hx hb dL_load_6 rfl ?_
    refine k_last (ws' := [oJ cJ out (vp_updL fo 0 (u.2.1).toInt64), oBr b tx h ht pa sl fi (u.2.2.1), oTx tx tk tf, aC G tk 60 tc, oSt h o g (u.2.2.2.1), aI G o 6 (u.2.2.2.2.1), oLed g k (u.2.2.2.2.2.1), aI G k 80 ce, aZ G fi 2 (u.2.2.2.2.2.2)]) cx hKJ hP hD hS 0 rfl (by unfold vp_in; decide) rfl dL_load_7 (fun H locs hP hD hS => ?_)
    refine lv_goto (tgt := 14) hx hb dL_load_8 (by decide) ?_
    refine lv_iconst (v := 0) hx hb dL_load_14 (by decide) ?_
    exact k_iretW (wf := [oJ cJ out (vp_updL fo 0 (u.2.1).toInt64), oBr b tx h ht pa sl fi (u.2.2.1), oTx tx tk tf, aC G tk 60 tc, oSt h o g (u.2.2.2.1), aI G o 6 (u.2.2.2.2.1), oLed g k (u.2.2.2.2.2.1), aI G k 80 ce, aZ G fi 2 (u.2.2.2.2.2.2)]) cx (by rw [h0]; rfl) (by rw [h0]; rfl) hP hS dL_load_15

abbrev rmL_about : Room := { frames := 7, cells := 1, slots := 6, locals := 103 }
set_option maxHeartbeats 4000000 in
set_option maxRecDepth 100000 in
theorem c_L_about (l : Launch) (hlt : l.stackTraces = false) (G : gG) (cJ : ClassId) (out : Nat) (fo : Nat → Int64) (b : Nat) (tx : Nat) (h : Nat) (ht : Nat) (pa : Nat) (sl : Nat) (fi : Nat) (o : Nat) (g : Nat) (k : Nat) (bf : Nat → Int32) (f : Nat → Int32) (lf : Nat → Int32) (what : Int32)  (htc : (P_X3_about bf f lf what).1 = 0 ∨ (P_X3_about bf f lf what).1 = 1) : kL l G cJ yL_about wsL_about rmL_about [.ref b, .int what, .ref out] [oJ cJ out fo, oBr b tx h ht pa sl fi bf, oSt h o g f, oLed g k lf] (qW G (hm 1 (P_X3_about bf f lf what).1) (P_X3_about bf f lf what).1 [oJ cJ out (vp_updL fo 0 ((P_X3_about bf f lf what).2).toInt64), oBr b tx h ht pa sl fi bf, oSt h o g f, oLed g k lf] [oJ cJ out fo, oBr b tx h ht pa sl fi bf, oSt h o g f, oLed g k lf]) := by
  refine k_bodyL (cc := cL_about) (nL := 4) (ret := some .int) (hh := [(0, 9, 12, 13)]) (by decide) rfl (Nat.le_of_ble_eq_true rfl) ?_
  intro p e s m args below meth c A cx ct hP hD hS ls hl
  obtain ⟨hx, hb, hml, hown, hts, hr, hlocks, hK, hA⟩ := id cx
  obtain ⟨hKJ, htab, hE, hN, hZ⟩ := ct
  obtain ⟨H, hH⟩ : ∃ H, H = s.heap := ⟨_, rfl⟩
  obtain ⟨locs, hL⟩ : ∃ locs : List Loc, locs = [] := ⟨_, rfl⟩
  have hS : va_S A s.heap H locs := by rw [hH, hL]; exact hS
  rw [← hH] at hP ⊢
  rw [← hL]
  clear hH hL
  have hl : lv_has ls 4 [(0, .ref b), (1, .int what), (2, .ref out)] := hl
  have hC := c_X3_about l hlt G b tx h ht pa sl fi o g k bf f lf what
  generalize hu : P_X3_about bf f lf what = u at hC htc ⊢
  refine lv_aload_n hx hb dL_about_0 rfl (lv_at hl 2 rfl) ?_
  refine lv_iconst (v := 0) hx hb dL_about_1 (by decide) ?_
  refine lv_aload_n hx hb dL_about_2 rfl (lv_at hl 0 rfl) ?_
  refine lv_iload_n hx hb dL_about_3 rfl (lv_at hl 1 rfl) ?_
  refine k_iX (t := u.1) (r := u.2) (ws' := [oJ cJ out fo, oBr b tx h ht pa sl fi bf, oSt h o g f, oLed g k lf]) (as := [b, h, g]) cx hP hD hS [1, 2, 3] rfl (kr_VX (n := 1) (As := [.int what]) (ci := 3) cx hE hZ hS hC gL_about_X3_about rfl rfl rfl (by decide +kernel) ⟨Nat.le_of_ble_eq_true rfl, Nat.le_of_ble_eq_true rfl⟩ rfl rfl rfl hP hD [1, 2, 3] rfl rfl rfl rfl hl (Nat.le_of_ble_eq_true rfl) dL_about_4 ⟨Nat.le_of_ble_eq_true rfl, Nat.le_of_ble_eq_true rfl⟩) ⟨rfl, rfl⟩ rfl rfl (fun E ce9 q9 H locs hE9 hP hD hS hce hvm hcl => ?_) (fun H locs h0 hP hD hS => ?_)
  · rcases htc with h9 | h9
    · rw [h9] at hE9; have hE9 : (none : Option String) = some E := hE9; cases hE9
    · rw [h9] at hE9
      have hE9 : some "java/lang/IllegalArgumentException" = some E := hE9
      cases hE9
      refine vx_catch (E := "java/lang/IllegalArgumentException") (name := "java/lang/IllegalArgumentException") hown [] ⟨0, 9, 12, 13⟩ [] (by rw [htab]; rfl) (fun z hz => absurd hz List.not_mem_nil) (by decide) (by decide) (hts _ (by decide +kernel)) ((hE.1 (.castable "java/lang/IllegalArgumentException" "java/lang/IllegalArgumentException") (by decide +kernel)).use rfl) hce hvm hcl ?_
      refine lv_astore_n (lv' := [(3, .ref q9), (0, .ref b), (1, .int what), (2, .ref out)]) hx hb dL_about_12 rfl hl (by decide) rfl (fun ls hl => ?_)
      refine lv_iconst (v := 1) hx hb dL_about_13 (by decide) ?_
      exact k_iretW (wf := [oJ cJ out fo, oBr b tx h ht pa sl fi bf, oSt h o g f, oLed g k lf]) cx (by rw [h9]; rfl) (by rw [h9]; rfl) hP hS dL_about_14
  · refine lv_i2l hx hb dL_about_7 rfl ?_
    refine k_last (ws' := [oJ cJ out (vp_updL fo 0 (u.2).toInt64), oBr b tx h ht pa sl fi bf, oSt h o g f, oLed g k lf]) cx hKJ hP hD hS 0 rfl (by unfold vp_in; decide) rfl dL_about_8 (fun H locs hP hD hS => ?_)
    refine lv_goto (tgt := 15) hx hb dL_about_9 (by decide) ?_
    refine lv_iconst (v := 0) hx hb dL_about_15 (by decide) ?_
    exact k_iretW (wf := [oJ cJ out (vp_updL fo 0 (u.2).toInt64), oBr b tx h ht pa sl fi bf, oSt h o g f, oLed g k lf]) cx (by rw [h0]; rfl) (by rw [h0]; rfl) hP hS dL_about_16

abbrev rmL_told : Room := { frames := 7, cells := 1, slots := 6, locals := 104 }
set_option maxHeartbeats 4000000 in
set_option maxRecDepth 100000 in
theorem c_L_told (l : Launch) (hlt : l.stackTraces = false) (G : gG) (cJ : ClassId) (out : Nat) (fo : Nat → Int64) (b : Nat) (tx : Nat) (h : Nat) (ht : Nat) (pa : Nat) (sl : Nat) (fi : Nat) (o : Nat) (g : Nat) (k : Nat) (bf : Nat → Int32) (f : Nat → Int32) (lf : Nat → Int32) (ce : Nat → Int32) (j : Int32) (what : Int32)  (htc : (P_X3_told bf f lf ce j what).1 = 0 ∨ (P_X3_told bf f lf ce j what).1 = 1) : kL l G cJ yL_told wsL_told rmL_told [.ref b, .int j, .int what, .ref out] [oJ cJ out fo, oBr b tx h ht pa sl fi bf, oSt h o g f, oLed g k lf, aI G k 80 ce] (qW G (hm 1 (P_X3_told bf f lf ce j what).1) (P_X3_told bf f lf ce j what).1 [oJ cJ out (vp_updL fo 0 ((P_X3_told bf f lf ce j what).2).toInt64), oBr b tx h ht pa sl fi bf, oSt h o g f, oLed g k lf, aI G k 80 ce] [oJ cJ out fo, oBr b tx h ht pa sl fi bf, oSt h o g f, oLed g k lf, aI G k 80 ce]) := by
  refine k_bodyL (cc := cL_told) (nL := 5) (ret := some .int) (hh := [(0, 10, 13, 13)]) (by decide) rfl (Nat.le_of_ble_eq_true rfl) ?_
  intro p e s m args below meth c A cx ct hP hD hS ls hl
  obtain ⟨hx, hb, hml, hown, hts, hr, hlocks, hK, hA⟩ := id cx
  obtain ⟨hKJ, htab, hE, hN, hZ⟩ := ct
  obtain ⟨H, hH⟩ : ∃ H, H = s.heap := ⟨_, rfl⟩
  obtain ⟨locs, hL⟩ : ∃ locs : List Loc, locs = [] := ⟨_, rfl⟩
  have hS : va_S A s.heap H locs := by rw [hH, hL]; exact hS
  rw [← hH] at hP ⊢
  rw [← hL]
  clear hH hL
  have hl : lv_has ls 5 [(0, .ref b), (1, .int j), (2, .int what), (3, .ref out)] := hl
  have hC := c_X3_told l hlt G b tx h ht pa sl fi o g k bf f lf ce j what
  generalize hu : P_X3_told bf f lf ce j what = u at hC htc ⊢
  refine lv_aload_n hx hb dL_told_0 rfl (lv_at hl 3 rfl) ?_
  refine lv_iconst (v := 0) hx hb dL_told_1 (by decide) ?_
  refine lv_aload_n hx hb dL_told_2 rfl (lv_at hl 0 rfl) ?_
  refine lv_iload_n hx hb dL_told_3 rfl (lv_at hl 1 rfl) ?_
  refine lv_iload_n hx hb dL_told_4 rfl (lv_at hl 2 rfl) ?_
  refine k_iX (t := u.1) (r := u.2) (ws' := [oJ cJ out fo, oBr b tx h ht pa sl fi bf, oSt h o g f, oLed g k lf, aI G k 80 ce]) (as := [b, h, g, k]) cx hP hD hS [1, 2, 3, 4] rfl (kr_VX (n := 2) (As := [.int j, .int what]) (ci := 3) cx hE hZ hS hC gL_told_X3_told rfl rfl rfl (by decide +kernel) ⟨Nat.le_of_ble_eq_true rfl, Nat.le_of_ble_eq_true rfl⟩ rfl rfl rfl hP hD [1, 2, 3, 4] rfl rfl rfl rfl hl (Nat.le_of_ble_eq_true rfl) dL_told_5 ⟨Nat.le_of_ble_eq_true rfl, Nat.le_of_ble_eq_true rfl⟩) ⟨rfl, rfl⟩ rfl rfl (fun E ce9 q9 H locs hE9 hP hD hS hce hvm hcl => ?_) (fun H locs h0 hP hD hS => ?_)
  · rcases htc with h9 | h9
    · rw [h9] at hE9; have hE9 : (none : Option String) = some E := hE9; cases hE9
    · rw [h9] at hE9
      have hE9 : some "java/lang/IllegalArgumentException" = some E := hE9
      cases hE9
      refine vx_catch (E := "java/lang/IllegalArgumentException") (name := "java/lang/IllegalArgumentException") hown [] ⟨0, 10, 13, 13⟩ [] (by rw [htab]; rfl) (fun z hz => absurd hz List.not_mem_nil) (by decide) (by decide) (hts _ (by decide +kernel)) ((hE.1 (.castable "java/lang/IllegalArgumentException" "java/lang/IllegalArgumentException") (by decide +kernel)).use rfl) hce hvm hcl ?_
      refine lv_astore (lv' := [(4, .ref q9), (0, .ref b), (1, .int j), (2, .int what), (3, .ref out)]) hx hb dL_told_13 hl (by decide) rfl (fun ls hl => ?_)
      refine lv_iconst (v := 1) hx hb dL_told_15 (by decide) ?_
      exact k_iretW (wf := [oJ cJ out fo, oBr b tx h ht pa sl fi bf, oSt h o g f, oLed g k lf, aI G k 80 ce]) cx (by rw [h9]; rfl) (by rw [h9]; rfl) hP hS dL_told_16
  · refine lv_i2l hx hb dL_told_8 rfl ?_
    refine k_last (ws' := [oJ cJ out (vp_updL fo 0 (u.2).toInt64), oBr b tx h ht pa sl fi bf, oSt h o g f, oLed g k lf, aI G k 80 ce]) cx hKJ hP hD hS 0 rfl (by unfold vp_in; decide) rfl dL_told_9 (fun H locs hP hD hS => ?_)
    refine lv_goto (tgt := 17) hx hb dL_told_10 (by decide) ?_
    refine lv_iconst (v := 0) hx hb dL_told_17 (by decide) ?_
    exact k_iretW (wf := [oJ cJ out (vp_updL fo 0 (u.2).toInt64), oBr b tx h ht pa sl fi bf, oSt h o g f, oLed g k lf, aI G k 80 ce]) cx (by rw [h0]; rfl) (by rw [h0]; rfl) hP hS dL_told_18

abbrev rmL_bridge : Room := { frames := 7, cells := 1, slots := 6, locals := 103 }
set_option maxHeartbeats 4000000 in
set_option maxRecDepth 100000 in
theorem c_L_bridge (l : Launch) (hlt : l.stackTraces = false) (G : gG) (cJ : ClassId) (out : Nat) (fo : Nat → Int64) (b : Nat) (tx : Nat) (h : Nat) (ht : Nat) (pa : Nat) (sl : Nat) (fi : Nat) (o : Nat) (g : Nat) (bf : Nat → Int32) (f : Nat → Int32) (oh : Nat → Int32) (what : Int32)  (htc : (P_X3_bridge bf f oh what).1 = 0 ∨ (P_X3_bridge bf f oh what).1 = 1) : kL l G cJ yL_bridge wsL_bridge rmL_bridge [.ref b, .int what, .ref out] [oJ cJ out fo, oBr b tx h ht pa sl fi bf, oSt h o g f, aI G o 6 oh] (qW G (hm 1 (P_X3_bridge bf f oh what).1) (P_X3_bridge bf f oh what).1 [oJ cJ out (vp_updL fo 0 ((P_X3_bridge bf f oh what).2).toInt64), oBr b tx h ht pa sl fi bf, oSt h o g f, aI G o 6 oh] [oJ cJ out fo, oBr b tx h ht pa sl fi bf, oSt h o g f, aI G o 6 oh]) := by
  refine k_bodyL (cc := cL_bridge) (nL := 4) (ret := some .int) (hh := [(0, 9, 12, 13)]) (by decide) rfl (Nat.le_of_ble_eq_true rfl) ?_
  intro p e s m args below meth c A cx ct hP hD hS ls hl
  obtain ⟨hx, hb, hml, hown, hts, hr, hlocks, hK, hA⟩ := id cx
  obtain ⟨hKJ, htab, hE, hN, hZ⟩ := ct
  obtain ⟨H, hH⟩ : ∃ H, H = s.heap := ⟨_, rfl⟩
  obtain ⟨locs, hL⟩ : ∃ locs : List Loc, locs = [] := ⟨_, rfl⟩
  have hS : va_S A s.heap H locs := by rw [hH, hL]; exact hS
  rw [← hH] at hP ⊢
  rw [← hL]
  clear hH hL
  have hl : lv_has ls 4 [(0, .ref b), (1, .int what), (2, .ref out)] := hl
  have hC := c_X3_bridge l hlt G b tx h ht pa sl fi o g bf f oh what
  generalize hu : P_X3_bridge bf f oh what = u at hC htc ⊢
  refine lv_aload_n hx hb dL_bridge_0 rfl (lv_at hl 2 rfl) ?_
  refine lv_iconst (v := 0) hx hb dL_bridge_1 (by decide) ?_
  refine lv_aload_n hx hb dL_bridge_2 rfl (lv_at hl 0 rfl) ?_
  refine lv_iload_n hx hb dL_bridge_3 rfl (lv_at hl 1 rfl) ?_
  refine k_iX (t := u.1) (r := u.2) (ws' := [oJ cJ out fo, oBr b tx h ht pa sl fi bf, oSt h o g f, aI G o 6 oh]) (as := [b, h, o]) cx hP hD hS [1, 2, 3] rfl (kr_VX (n := 1) (As := [.int what]) (ci := 3) cx hE hZ hS hC gL_bridge_X3_bridge rfl rfl rfl (by decide +kernel) ⟨Nat.le_of_ble_eq_true rfl, Nat.le_of_ble_eq_true rfl⟩ rfl rfl rfl hP hD [1, 2, 3] rfl rfl rfl rfl hl (Nat.le_of_ble_eq_true rfl) dL_bridge_4 ⟨Nat.le_of_ble_eq_true rfl, Nat.le_of_ble_eq_true rfl⟩) ⟨rfl, rfl⟩ rfl rfl (fun E ce9 q9 H locs hE9 hP hD hS hce hvm hcl => ?_) (fun H locs h0 hP hD hS => ?_)
  · rcases htc with h9 | h9
    · rw [h9] at hE9; have hE9 : (none : Option String) = some E := hE9; cases hE9
    · rw [h9] at hE9
      have hE9 : some "java/lang/IllegalArgumentException" = some E := hE9
      cases hE9
      refine vx_catch (E := "java/lang/IllegalArgumentException") (name := "java/lang/IllegalArgumentException") hown [] ⟨0, 9, 12, 13⟩ [] (by rw [htab]; rfl) (fun z hz => absurd hz List.not_mem_nil) (by decide) (by decide) (hts _ (by decide +kernel)) ((hE.1 (.castable "java/lang/IllegalArgumentException" "java/lang/IllegalArgumentException") (by decide +kernel)).use rfl) hce hvm hcl ?_
      refine lv_astore_n (lv' := [(3, .ref q9), (0, .ref b), (1, .int what), (2, .ref out)]) hx hb dL_bridge_12 rfl hl (by decide) rfl (fun ls hl => ?_)
      refine lv_iconst (v := 1) hx hb dL_bridge_13 (by decide) ?_
      exact k_iretW (wf := [oJ cJ out fo, oBr b tx h ht pa sl fi bf, oSt h o g f, aI G o 6 oh]) cx (by rw [h9]; rfl) (by rw [h9]; rfl) hP hS dL_bridge_14
  · refine lv_i2l hx hb dL_bridge_7 rfl ?_
    refine k_last (ws' := [oJ cJ out (vp_updL fo 0 (u.2).toInt64), oBr b tx h ht pa sl fi bf, oSt h o g f, aI G o 6 oh]) cx hKJ hP hD hS 0 rfl (by unfold vp_in; decide) rfl dL_bridge_8 (fun H locs hP hD hS => ?_)
    refine lv_goto (tgt := 15) hx hb dL_bridge_9 (by decide) ?_
    refine lv_iconst (v := 0) hx hb dL_bridge_15 (by decide) ?_
    exact k_iretW (wf := [oJ cJ out (vp_updL fo 0 (u.2).toInt64), oBr b tx h ht pa sl fi bf, oSt h o g f, aI G o 6 oh]) cx (by rw [h0]; rfl) (by rw [h0]; rfl) hP hS dL_bridge_16

abbrev rmL_press : Room := { frames := 7, cells := 1, slots := 6, locals := 103 }
set_option maxHeartbeats 4000000 in
set_option maxRecDepth 100000 in
theorem c_L_press (l : Launch) (hlt : l.stackTraces = false) (G : gG) (cJ : ClassId) (out : Nat) (fo : Nat → Int64) (b : Nat) (tx : Nat) (h : Nat) (ht : Nat) (pa : Nat) (sl : Nat) (fi : Nat) (o : Nat) (g : Nat) (k : Nat) (h2 : Nat) (o2 : Nat) (g2 : Nat) (k2 : Nat) (bf : Nat → Int32) (pg : Nat → Option Nat) (f : Nat → Int32) (oh : Nat → Int32) (lf : Nat → Int32) (ce : Nat → Int32) (f2 : Nat → Int32) (oh2 : Nat → Int32) (lf2 : Nat → Int32) (ce2 : Nat → Int32) (rv : Int32) (hst : f 9 = 0 ∨ f 9 = 1) (hpg : P_X3_entry 14 pg (bf 5) = some h2) (htc : (P_X3_press bf pg f oh lf ce f2 oh2 lf2 ce2 rv).1 = 0 ∨ (P_X3_press bf pg f oh lf ce f2 oh2 lf2 ce2 rv).1 = 2) : kL l G cJ yL_press wsL_press rmL_press [.ref b, .int rv, .ref out] [oJ cJ out fo, oBr b tx h ht pa sl fi bf, aS G pa 14 pg, oSt h o g f, aI G o 6 oh, oLed g k lf, aI G k 80 ce, oSt h2 o2 g2 f2, aI G o2 6 oh2, oLed g2 k2 lf2, aI G k2 80 ce2] (qW G (hm 2 (P_X3_press bf pg f oh lf ce f2 oh2 lf2 ce2 rv).1) (P_X3_press bf pg f oh lf ce f2 oh2 lf2 ce2 rv).1 [oJ cJ out (vp_updL fo 0 ((P_X3_press bf pg f oh lf ce f2 oh2 lf2 ce2 rv).2.1).toInt64), oBr b tx h ht pa sl fi ((P_X3_press bf pg f oh lf ce f2 oh2 lf2 ce2 rv).2.2.1), aS G pa 14 pg, oSt h o g ((P_X3_press bf pg f oh lf ce f2 oh2 lf2 ce2 rv).2.2.2.1), aI G o 6 oh, oLed g k ((P_X3_press bf pg f oh lf ce f2 oh2 lf2 ce2 rv).2.2.2.2.1), aI G k 80 ((P_X3_press bf pg f oh lf ce f2 oh2 lf2 ce2 rv).2.2.2.2.2.1), oSt h2 o2 g2 ((P_X3_press bf pg f oh lf ce f2 oh2 lf2 ce2 rv).2.2.2.2.2.2.1), aI G o2 6 ((P_X3_press bf pg f oh lf ce f2 oh2 lf2 ce2 rv).2.2.2.2.2.2.2.1), oLed g2 k2 ((P_X3_press bf pg f oh lf ce f2 oh2 lf2 ce2 rv).2.2.2.2.2.2.2.2.1), aI G k2 80 ((P_X3_press bf pg f oh lf ce f2 oh2 lf2 ce2 rv).2.2.2.2.2.2.2.2.2)] [oJ cJ out fo, oBr b tx h ht pa sl fi bf, aS G pa 14 pg, oSt h o g f, aI G o 6 oh, oLed g k lf, aI G k 80 ce, oSt h2 o2 g2 f2, aI G o2 6 oh2, oLed g2 k2 lf2, aI G k2 80 ce2]) := by
  refine k_bodyL (cc := cL_press) (nL := 4) (ret := some .int) (hh := [(0, 9, 12, 15)]) (by decide) rfl (Nat.le_of_ble_eq_true rfl) ?_
  intro p e s m args below meth c A cx ct hP hD hS ls hl
  obtain ⟨hx, hb, hml, hown, hts, hr, hlocks, hK, hA⟩ := id cx
  obtain ⟨hKJ, htab, hE, hN, hZ⟩ := ct
  obtain ⟨H, hH⟩ : ∃ H, H = s.heap := ⟨_, rfl⟩
  obtain ⟨locs, hL⟩ : ∃ locs : List Loc, locs = [] := ⟨_, rfl⟩
  have hS : va_S A s.heap H locs := by rw [hH, hL]; exact hS
  rw [← hH] at hP ⊢
  rw [← hL]
  clear hH hL
  have hl : lv_has ls 4 [(0, .ref b), (1, .int rv), (2, .ref out)] := hl
  have hC := c_X3_press l hlt G b tx h ht pa sl fi o g k h2 o2 g2 k2 bf pg f oh lf ce f2 oh2 lf2 ce2 rv hst hpg
  generalize hu : P_X3_press bf pg f oh lf ce f2 oh2 lf2 ce2 rv = u at hC htc ⊢
  refine lv_aload_n hx hb dL_press_0 rfl (lv_at hl 2 rfl) ?_
  refine lv_iconst (v := 0) hx hb dL_press_1 (by decide) ?_
  refine lv_aload_n hx hb dL_press_2 rfl (lv_at hl 0 rfl) ?_
  refine lv_iload_n hx hb dL_press_3 rfl (lv_at hl 1 rfl) ?_
  refine k_iX (t := u.1) (r := u.2.1) (ws' := [oJ cJ out fo, oBr b tx h ht pa sl fi (u.2.2.1), aS G pa 14 pg, oSt h o g (u.2.2.2.1), aI G o 6 oh, oLed g k (u.2.2.2.2.1), aI G k 80 (u.2.2.2.2.2.1), oSt h2 o2 g2 (u.2.2.2.2.2.2.1), aI G o2 6 (u.2.2.2.2.2.2.2.1), oLed g2 k2 (u.2.2.2.2.2.2.2.2.1), aI G k2 80 (u.2.2.2.2.2.2.2.2.2)]) (as := [b, pa, h, o, g, k, h2, o2, g2, k2]) cx hP hD hS [1, 2, 3, 4, 5, 6, 7, 8, 9, 10] rfl (kr_VX (n := 1) (As := [.int rv]) (ci := 3) cx hE hZ hS hC gL_press_X3_press rfl rfl rfl (by decide +kernel) ⟨Nat.le_of_ble_eq_true rfl, Nat.le_of_ble_eq_true rfl⟩ rfl rfl rfl hP hD [1, 2, 3, 4, 5, 6, 7, 8, 9, 10] rfl rfl rfl rfl hl (Nat.le_of_ble_eq_true rfl) dL_press_4 ⟨Nat.le_of_ble_eq_true rfl, Nat.le_of_ble_eq_true rfl⟩) ⟨rfl, rfl⟩ rfl rfl (fun E ce9 q9 H locs hE9 hP hD hS hce hvm hcl => ?_) (fun H locs h0 hP hD hS => ?_)
  · rcases htc with h9 | h9
    · rw [h9] at hE9; have hE9 : (none : Option String) = some E := hE9; cases hE9
    · rw [h9] at hE9
      have hE9 : some "java/lang/IllegalStateException" = some E := hE9
      cases hE9
      refine vx_catch (E := "java/lang/IllegalStateException") (name := "java/lang/IllegalStateException") hown [] ⟨0, 9, 12, 15⟩ [] (by rw [htab]; rfl) (fun z hz => absurd hz List.not_mem_nil) (by decide) (by decide) (hts _ (by decide +kernel)) ((hE.1 (.castable "java/lang/IllegalStateException" "java/lang/IllegalStateException") (by decide +kernel)).use rfl) hce hvm hcl ?_
      refine lv_astore_n (lv' := [(3, .ref q9), (0, .ref b), (1, .int rv), (2, .ref out)]) hx hb dL_press_12 rfl hl (by decide) rfl (fun ls hl => ?_)
      refine lv_iconst (v := 1) hx hb dL_press_13 (by decide) ?_
      exact k_iretW (wf := [oJ cJ out fo, oBr b tx h ht pa sl fi bf, aS G pa 14 pg, oSt h o g f, aI G o 6 oh, oLed g k lf, aI G k 80 ce, oSt h2 o2 g2 f2, aI G o2 6 oh2, oLed g2 k2 lf2, aI G k2 80 ce2]) cx (by rw [h9]; rfl) (by rw [h9]; rfl) hP hS dL_press_14
  · refine lv_i2l hx hb dL_press_7 rfl ?_
    refine k_last (ws' := [oJ cJ out (vp_updL fo 0 (u.2.1).toInt64), oBr b tx h ht pa sl fi (u.2.2.1), aS G pa 14 pg, oSt h o g (u.2.2.2.1), aI G o 6 oh, oLed g k (u.2.2.2.2.1), aI G k 80 (u.2.2.2.2.2.1), oSt h2 o2 g2 (u.2.2.2.2.2.2.1), aI G o2 6 (u.2.2.2.2.2.2.2.1), oLed g2 k2 (u.2.2.2.2.2.2.2.2.1), aI G k2 80 (u.2.2.2.2.2.2.2.2.2)]) cx hKJ hP hD hS 0 rfl (by unfold vp_in; decide) rfl dL_press_8 (fun H locs hP hD hS => ?_)
    refine lv_goto (tgt := 15) hx hb dL_press_9 (by decide) ?_
    refine lv_iconst (v := 0) hx hb dL_press_15 (by decide) ?_
    exact k_iretW (wf := [oJ cJ out (vp_updL fo 0 (u.2.1).toInt64), oBr b tx h ht pa sl fi (u.2.2.1), aS G pa 14 pg, oSt h o g (u.2.2.2.1), aI G o 6 oh, oLed g k (u.2.2.2.2.1), aI G k 80 (u.2.2.2.2.2.1), oSt h2 o2 g2 (u.2.2.2.2.2.2.1), aI G o2 6 (u.2.2.2.2.2.2.2.1), oLed g2 k2 (u.2.2.2.2.2.2.2.2.1), aI G k2 80 (u.2.2.2.2.2.2.2.2.2)]) cx (by rw [h0]; rfl) (by rw [h0]; rfl) hP hS dL_press_16

