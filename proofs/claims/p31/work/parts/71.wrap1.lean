/-! the law: its wrappers -/
abbrev rmL_tryPair : Room := { frames := 7, cells := 1, slots := 6, locals := 109 }
set_option maxHeartbeats 4000000 in
set_option maxRecDepth 100000 in
theorem c_L_tryPair (l : Launch) (hlt : l.stackTraces = false) (G : gG) (b : Nat) (tx : Nat) (h : Nat) (ht : Nat) (pa : Nat) (sl : Nat) (fi : Nat) (o : Nat) (g : Nat) (k : Nat) (h2 : Nat) (o2 : Nat) (g2 : Nat) (k2 : Nat) (bf : Nat → Int32) (pg : Nat → Option Nat) (f : Nat → Int32) (oh : Nat → Int32) (lf : Nat → Int32) (ce : Nat → Int32) (f2 : Nat → Int32) (oh2 : Nat → Int32) (lf2 : Nat → Int32) (ce2 : Nat → Int32) (hst : f 9 = 0 ∨ f 9 = 1) (hpg : P_X3_entry 14 pg (bf 5) = some h2) (htc : (P_X3_pair bf pg f oh lf ce f2 oh2 lf2 ce2).1 = 0 ∨ (P_X3_pair bf pg f oh lf ce f2 oh2 lf2 ce2).1 = 2) : kL l G yL_tryPair wsL_tryPair rmL_tryPair [.ref b] [oBr b tx h ht pa sl fi bf, aS G pa 14 pg, oSt h o g f, aI G o 6 oh, oLed g k lf, aI G k 80 ce, oSt h2 o2 g2 f2, aI G o2 6 oh2, oLed g2 k2 lf2, aI G k2 80 ce2] (qW G (rz (P_X3_pair bf pg f oh lf ce f2 oh2 lf2 ce2).1 (P_X3_pair bf pg f oh lf ce f2 oh2 lf2 ce2).2.1) (P_X3_pair bf pg f oh lf ce f2 oh2 lf2 ce2).1 [oBr b tx h ht pa sl fi ((P_X3_pair bf pg f oh lf ce f2 oh2 lf2 ce2).2.2.1), aS G pa 14 pg, oSt h o g ((P_X3_pair bf pg f oh lf ce f2 oh2 lf2 ce2).2.2.2.1), aI G o 6 oh, oLed g k ((P_X3_pair bf pg f oh lf ce f2 oh2 lf2 ce2).2.2.2.2.1), aI G k 80 ((P_X3_pair bf pg f oh lf ce f2 oh2 lf2 ce2).2.2.2.2.2.1), oSt h2 o2 g2 ((P_X3_pair bf pg f oh lf ce f2 oh2 lf2 ce2).2.2.2.2.2.2.1), aI G o2 6 ((P_X3_pair bf pg f oh lf ce f2 oh2 lf2 ce2).2.2.2.2.2.2.2.1), oLed g2 k2 ((P_X3_pair bf pg f oh lf ce f2 oh2 lf2 ce2).2.2.2.2.2.2.2.2.1), aI G k2 80 ((P_X3_pair bf pg f oh lf ce f2 oh2 lf2 ce2).2.2.2.2.2.2.2.2.2)] [oBr b tx h ht pa sl fi bf, aS G pa 14 pg, oSt h o g f, aI G o 6 oh, oLed g k lf, aI G k 80 ce, oSt h2 o2 g2 f2, aI G o2 6 oh2, oLed g2 k2 lf2, aI G k2 80 ce2]) := by
  refine k_bodyL (cc := cL_tryPair) (nL := 2) (ret := some .int) (hh := [(0, 4, 5, 16)]) (by decide) rfl (Nat.le_of_ble_eq_true rfl) ?_
  intro p e s m args below meth c A cx ct hP hD hS ls hl
  obtain ⟨hx, hb, hml, hown, hts, hr, hlocks, hK, hA⟩ := id cx
  obtain ⟨htab, hE, hN, hZ⟩ := ct
  obtain ⟨H, hH⟩ : ∃ H, H = s.heap := ⟨_, rfl⟩
  obtain ⟨locs, hL⟩ : ∃ locs : List Loc, locs = [] := ⟨_, rfl⟩
  have hS : va_S A s.heap H locs := by rw [hH, hL]; exact hS
  rw [← hH] at hP ⊢
  rw [← hL]
  clear hH hL
  have hl : lv_has ls 2 [(0, .ref b)] := hl
  have hC := c_X3_pair l hlt G b tx h ht pa sl fi o g k h2 o2 g2 k2 bf pg f oh lf ce f2 oh2 lf2 ce2 hst hpg
  generalize hu : P_X3_pair bf pg f oh lf ce f2 oh2 lf2 ce2 = u at hC htc ⊢
  refine lv_aload_n hx hb dL_tryPair_0 rfl (lv_at hl 0 rfl) ?_
  refine k_iX (t := u.1) (r := u.2.1) (ws' := [oBr b tx h ht pa sl fi (u.2.2.1), aS G pa 14 pg, oSt h o g (u.2.2.2.1), aI G o 6 oh, oLed g k (u.2.2.2.2.1), aI G k 80 (u.2.2.2.2.2.1), oSt h2 o2 g2 (u.2.2.2.2.2.2.1), aI G o2 6 (u.2.2.2.2.2.2.2.1), oLed g2 k2 (u.2.2.2.2.2.2.2.2.1), aI G k2 80 (u.2.2.2.2.2.2.2.2.2)]) (as := [b, pa, h, o, g, k, h2, o2, g2, k2]) cx hP hD hS [0, 1, 2, 3, 4, 5, 6, 7, 8, 9] rfl (kr_VX (n := 0) (As := []) (ci := 3) cx hE hZ hS hC gL_tryPair_X3_pair rfl rfl rfl (by decide +kernel) ⟨Nat.le_of_ble_eq_true rfl, Nat.le_of_ble_eq_true rfl⟩ rfl rfl rfl hP hD [0, 1, 2, 3, 4, 5, 6, 7, 8, 9] rfl rfl rfl rfl hl (Nat.le_of_ble_eq_true rfl) dL_tryPair_1 ⟨Nat.le_of_ble_eq_true rfl, Nat.le_of_ble_eq_true rfl⟩) ⟨rfl, rfl⟩ rfl rfl (fun E ce9 q9 H locs hE9 hP hD hS hce hvm hcl => ?_) (fun H locs h0 hP hD hS => ?_)
  · rcases htc with h9 | h9
    · rw [h9] at hE9; have hE9 : (none : Option String) = some E := hE9; cases hE9
    · rw [h9] at hE9
      have hE9 : some "java/lang/IllegalStateException" = some E := hE9
      cases hE9
      refine vx_catch (E := "java/lang/IllegalStateException") (name := "java/lang/IllegalStateException") hown [] ⟨0, 4, 5, 16⟩ [] (by rw [htab]; rfl) (fun z hz => absurd hz List.not_mem_nil) (by decide) (by decide) (hts _ (by decide +kernel)) ((hE.1 (.castable "java/lang/IllegalStateException" "java/lang/IllegalStateException") (by decide +kernel)).use rfl) hce hvm hcl ?_
      refine lv_astore_n (lv' := [(1, .ref q9), (0, .ref b)]) hx hb dL_tryPair_5 rfl hl (by decide) rfl (fun ls hl => ?_)
      refine k_ldc (v := (-999900003)) cx (by decide +kernel) dL_tryPair_6 ?_
      exact k_iretW (wf := [oBr b tx h ht pa sl fi bf, aS G pa 14 pg, oSt h o g f, aI G o 6 oh, oLed g k lf, aI G k 80 ce, oSt h2 o2 g2 f2, aI G o2 6 oh2, oLed g2 k2 lf2, aI G k2 80 ce2]) cx (by rw [h9]; rfl) (by rw [h9]; rfl) hP hS dL_tryPair_8
  · exact k_iretW (wf := [oBr b tx h ht pa sl fi (u.2.2.1), aS G pa 14 pg, oSt h o g (u.2.2.2.1), aI G o 6 oh, oLed g k (u.2.2.2.2.1), aI G k 80 (u.2.2.2.2.2.1), oSt h2 o2 g2 (u.2.2.2.2.2.2.1), aI G o2 6 (u.2.2.2.2.2.2.2.1), oLed g2 k2 (u.2.2.2.2.2.2.2.2.1), aI G k2 80 (u.2.2.2.2.2.2.2.2.2)]) cx (by rw [h0]; rfl) (by rw [h0]; rfl) hP hS dL_tryPair_4

abbrev rmL_tryPause : Room := { frames := 7, cells := 1, slots := 6, locals := 103 }
set_option maxHeartbeats 4000000 in
set_option maxRecDepth 100000 in
theorem c_L_tryPause (l : Launch) (hlt : l.stackTraces = false) (G : gG) (b : Nat) (tx : Nat) (h : Nat) (ht : Nat) (pa : Nat) (sl : Nat) (fi : Nat) (o : Nat) (g : Nat) (k : Nat) (h2 : Nat) (o2 : Nat) (g2 : Nat) (k2 : Nat) (bf : Nat → Int32) (pg : Nat → Option Nat) (f : Nat → Int32) (oh : Nat → Int32) (lf : Nat → Int32) (ce : Nat → Int32) (f2 : Nat → Int32) (oh2 : Nat → Int32) (lf2 : Nat → Int32) (ce2 : Nat → Int32) (tk : Int32) (hst : f 9 = 0 ∨ f 9 = 1) (hpg : P_X3_entry 14 pg (bf 5) = some h2) (htc : (P_X3_pause bf pg f oh lf ce f2 oh2 lf2 ce2 tk).1 = 0 ∨ (P_X3_pause bf pg f oh lf ce f2 oh2 lf2 ce2 tk).1 = 1) : kL l G yL_tryPause wsL_tryPause rmL_tryPause [.ref b, .int tk] [oBr b tx h ht pa sl fi bf, aS G pa 14 pg, oSt h o g f, aI G o 6 oh, oLed g k lf, aI G k 80 ce, oSt h2 o2 g2 f2, aI G o2 6 oh2, oLed g2 k2 lf2, aI G k2 80 ce2] (qW G (rz (P_X3_pause bf pg f oh lf ce f2 oh2 lf2 ce2 tk).1 (P_X3_pause bf pg f oh lf ce f2 oh2 lf2 ce2 tk).2.1) (P_X3_pause bf pg f oh lf ce f2 oh2 lf2 ce2 tk).1 [oBr b tx h ht pa sl fi ((P_X3_pause bf pg f oh lf ce f2 oh2 lf2 ce2 tk).2.2.1), aS G pa 14 pg, oSt h o g ((P_X3_pause bf pg f oh lf ce f2 oh2 lf2 ce2 tk).2.2.2.1), aI G o 6 oh, oLed g k lf, aI G k 80 ce, oSt h2 o2 g2 ((P_X3_pause bf pg f oh lf ce f2 oh2 lf2 ce2 tk).2.2.2.2.1), aI G o2 6 ((P_X3_pause bf pg f oh lf ce f2 oh2 lf2 ce2 tk).2.2.2.2.2.1), oLed g2 k2 ((P_X3_pause bf pg f oh lf ce f2 oh2 lf2 ce2 tk).2.2.2.2.2.2.1), aI G k2 80 ((P_X3_pause bf pg f oh lf ce f2 oh2 lf2 ce2 tk).2.2.2.2.2.2.2)] [oBr b tx h ht pa sl fi bf, aS G pa 14 pg, oSt h o g f, aI G o 6 oh, oLed g k lf, aI G k 80 ce, oSt h2 o2 g2 f2, aI G o2 6 oh2, oLed g2 k2 lf2, aI G k2 80 ce2]) := by
  refine k_bodyL (cc := cL_tryPause) (nL := 3) (ret := some .int) (hh := [(0, 5, 6, 13)]) (by decide) rfl (Nat.le_of_ble_eq_true rfl) ?_
  intro p e s m args below meth c A cx ct hP hD hS ls hl
  obtain ⟨hx, hb, hml, hown, hts, hr, hlocks, hK, hA⟩ := id cx
  obtain ⟨htab, hE, hN, hZ⟩ := ct
  obtain ⟨H, hH⟩ : ∃ H, H = s.heap := ⟨_, rfl⟩
  obtain ⟨locs, hL⟩ : ∃ locs : List Loc, locs = [] := ⟨_, rfl⟩
  have hS : va_S A s.heap H locs := by rw [hH, hL]; exact hS
  rw [← hH] at hP ⊢
  rw [← hL]
  clear hH hL
  have hl : lv_has ls 3 [(0, .ref b), (1, .int tk)] := hl
  have hC := c_X3_pause l hlt G b tx h ht pa sl fi o g k h2 o2 g2 k2 bf pg f oh lf ce f2 oh2 lf2 ce2 tk hst hpg
  generalize hu : P_X3_pause bf pg f oh lf ce f2 oh2 lf2 ce2 tk = u at hC htc ⊢
  refine lv_aload_n hx hb dL_tryPause_0 rfl (lv_at hl 0 rfl) ?_
  refine lv_iload_n hx hb dL_tryPause_1 rfl (lv_at hl 1 rfl) ?_
  refine k_iX (t := u.1) (r := u.2.1) (ws' := [oBr b tx h ht pa sl fi (u.2.2.1), aS G pa 14 pg, oSt h o g (u.2.2.2.1), aI G o 6 oh, oLed g k lf, aI G k 80 ce, oSt h2 o2 g2 (u.2.2.2.2.1), aI G o2 6 (u.2.2.2.2.2.1), oLed g2 k2 (u.2.2.2.2.2.2.1), aI G k2 80 (u.2.2.2.2.2.2.2)]) (as := [b, pa, h, o, g, k, h2, o2, g2, k2]) cx hP hD hS [0, 1, 2, 3, 4, 5, 6, 7, 8, 9] rfl (kr_VX (n := 1) (As := [.int tk]) (ci := 3) cx hE hZ hS hC gL_tryPause_X3_pause rfl rfl rfl (by decide +kernel) ⟨Nat.le_of_ble_eq_true rfl, Nat.le_of_ble_eq_true rfl⟩ rfl rfl rfl hP hD [0, 1, 2, 3, 4, 5, 6, 7, 8, 9] rfl rfl rfl rfl hl (Nat.le_of_ble_eq_true rfl) dL_tryPause_2 ⟨Nat.le_of_ble_eq_true rfl, Nat.le_of_ble_eq_true rfl⟩) ⟨rfl, rfl⟩ rfl rfl (fun E ce9 q9 H locs hE9 hP hD hS hce hvm hcl => ?_) (fun H locs h0 hP hD hS => ?_)
  · rcases htc with h9 | h9
    · rw [h9] at hE9; have hE9 : (none : Option String) = some E := hE9; cases hE9
    · rw [h9] at hE9
      have hE9 : some "java/lang/IllegalArgumentException" = some E := hE9
      cases hE9
      refine vx_catch (E := "java/lang/IllegalArgumentException") (name := "java/lang/IllegalArgumentException") hown [] ⟨0, 5, 6, 13⟩ [] (by rw [htab]; rfl) (fun z hz => absurd hz List.not_mem_nil) (by decide) (by decide) (hts _ (by decide +kernel)) ((hE.1 (.castable "java/lang/IllegalArgumentException" "java/lang/IllegalArgumentException") (by decide +kernel)).use rfl) hce hvm hcl ?_
      refine lv_astore_n (lv' := [(2, .ref q9), (0, .ref b), (1, .int tk)]) hx hb dL_tryPause_6 rfl hl (by decide) rfl (fun ls hl => ?_)
      refine k_ldc (v := (-999900002)) cx (by decide +kernel) dL_tryPause_7 ?_
      exact k_iretW (wf := [oBr b tx h ht pa sl fi bf, aS G pa 14 pg, oSt h o g f, aI G o 6 oh, oLed g k lf, aI G k 80 ce, oSt h2 o2 g2 f2, aI G o2 6 oh2, oLed g2 k2 lf2, aI G k2 80 ce2]) cx (by rw [h9]; rfl) (by rw [h9]; rfl) hP hS dL_tryPause_9
  · exact k_iretW (wf := [oBr b tx h ht pa sl fi (u.2.2.1), aS G pa 14 pg, oSt h o g (u.2.2.2.1), aI G o 6 oh, oLed g k lf, aI G k 80 ce, oSt h2 o2 g2 (u.2.2.2.2.1), aI G o2 6 (u.2.2.2.2.2.1), oLed g2 k2 (u.2.2.2.2.2.2.1), aI G k2 80 (u.2.2.2.2.2.2.2)]) cx (by rw [h0]; rfl) (by rw [h0]; rfl) hP hS dL_tryPause_5

abbrev rmL_trySet : Room := { frames := 7, cells := 1, slots := 6, locals := 105 }
set_option maxHeartbeats 4000000 in
set_option maxRecDepth 100000 in
theorem c_L_trySet (l : Launch) (hlt : l.stackTraces = false) (G : gG) (b : Nat) (tx : Nat) (h : Nat) (ht : Nat) (pa : Nat) (sl : Nat) (fi : Nat) (o : Nat) (g : Nat) (k : Nat) (h2 : Nat) (o2 : Nat) (g2 : Nat) (k2 : Nat) (bf : Nat → Int32) (pg : Nat → Option Nat) (f : Nat → Int32) (oh : Nat → Int32) (lf : Nat → Int32) (ce : Nat → Int32) (f2 : Nat → Int32) (oh2 : Nat → Int32) (lf2 : Nat → Int32) (ce2 : Nat → Int32) (what : Int32) (v : Int32) (hst : f 9 = 0 ∨ f 9 = 1) (hpg : P_X3_entry 14 pg (bf 5) = some h2) (htc : (P_X3_set bf pg f oh lf ce f2 oh2 lf2 ce2 what v).1 = 0 ∨ (P_X3_set bf pg f oh lf ce f2 oh2 lf2 ce2 what v).1 = 1) : kL l G yL_trySet wsL_trySet rmL_trySet [.ref b, .int what, .int v] [oBr b tx h ht pa sl fi bf, aS G pa 14 pg, oSt h o g f, aI G o 6 oh, oLed g k lf, aI G k 80 ce, oSt h2 o2 g2 f2, aI G o2 6 oh2, oLed g2 k2 lf2, aI G k2 80 ce2] (qW G (rz (P_X3_set bf pg f oh lf ce f2 oh2 lf2 ce2 what v).1 (P_X3_set bf pg f oh lf ce f2 oh2 lf2 ce2 what v).2.1) (P_X3_set bf pg f oh lf ce f2 oh2 lf2 ce2 what v).1 [oBr b tx h ht pa sl fi ((P_X3_set bf pg f oh lf ce f2 oh2 lf2 ce2 what v).2.2.1), aS G pa 14 pg, oSt h o g ((P_X3_set bf pg f oh lf ce f2 oh2 lf2 ce2 what v).2.2.2.1), aI G o 6 oh, oLed g k lf, aI G k 80 ce, oSt h2 o2 g2 ((P_X3_set bf pg f oh lf ce f2 oh2 lf2 ce2 what v).2.2.2.2.1), aI G o2 6 ((P_X3_set bf pg f oh lf ce f2 oh2 lf2 ce2 what v).2.2.2.2.2.1), oLed g2 k2 ((P_X3_set bf pg f oh lf ce f2 oh2 lf2 ce2 what v).2.2.2.2.2.2.1), aI G k2 80 ((P_X3_set bf pg f oh lf ce f2 oh2 lf2 ce2 what v).2.2.2.2.2.2.2)] [oBr b tx h ht pa sl fi bf, aS G pa 14 pg, oSt h o g f, aI G o 6 oh, oLed g k lf, aI G k 80 ce, oSt h2 o2 g2 f2, aI G o2 6 oh2, oLed g2 k2 lf2, aI G k2 80 ce2]) := by
  refine k_bodyL (cc := cL_trySet) (nL := 4) (ret := some .int) (hh := [(0, 6, 7, 13)]) (by decide) rfl (Nat.le_of_ble_eq_true rfl) ?_
  intro p e s m args below meth c A cx ct hP hD hS ls hl
  obtain ⟨hx, hb, hml, hown, hts, hr, hlocks, hK, hA⟩ := id cx
  obtain ⟨htab, hE, hN, hZ⟩ := ct
  obtain ⟨H, hH⟩ : ∃ H, H = s.heap := ⟨_, rfl⟩
  obtain ⟨locs, hL⟩ : ∃ locs : List Loc, locs = [] := ⟨_, rfl⟩
  have hS : va_S A s.heap H locs := by rw [hH, hL]; exact hS
  rw [← hH] at hP ⊢
  rw [← hL]
  clear hH hL
  have hl : lv_has ls 4 [(0, .ref b), (1, .int what), (2, .int v)] := hl
  have hC := c_X3_set l hlt G b tx h ht pa sl fi o g k h2 o2 g2 k2 bf pg f oh lf ce f2 oh2 lf2 ce2 what v hst hpg
  generalize hu : P_X3_set bf pg f oh lf ce f2 oh2 lf2 ce2 what v = u at hC htc ⊢
  refine lv_aload_n hx hb dL_trySet_0 rfl (lv_at hl 0 rfl) ?_
  refine lv_iload_n hx hb dL_trySet_1 rfl (lv_at hl 1 rfl) ?_
  refine lv_iload_n hx hb dL_trySet_2 rfl (lv_at hl 2 rfl) ?_
  refine k_iX (t := u.1) (r := u.2.1) (ws' := [oBr b tx h ht pa sl fi (u.2.2.1), aS G pa 14 pg, oSt h o g (u.2.2.2.1), aI G o 6 oh, oLed g k lf, aI G k 80 ce, oSt h2 o2 g2 (u.2.2.2.2.1), aI G o2 6 (u.2.2.2.2.2.1), oLed g2 k2 (u.2.2.2.2.2.2.1), aI G k2 80 (u.2.2.2.2.2.2.2)]) (as := [b, pa, h, o, g, k, h2, o2, g2, k2]) cx hP hD hS [0, 1, 2, 3, 4, 5, 6, 7, 8, 9] rfl (kr_VX (n := 2) (As := [.int what, .int v]) (ci := 3) cx hE hZ hS hC gL_trySet_X3_set rfl rfl rfl (by decide +kernel) ⟨Nat.le_of_ble_eq_true rfl, Nat.le_of_ble_eq_true rfl⟩ rfl rfl rfl hP hD [0, 1, 2, 3, 4, 5, 6, 7, 8, 9] rfl rfl rfl rfl hl (Nat.le_of_ble_eq_true rfl) dL_trySet_3 ⟨Nat.le_of_ble_eq_true rfl, Nat.le_of_ble_eq_true rfl⟩) ⟨rfl, rfl⟩ rfl rfl (fun E ce9 q9 H locs hE9 hP hD hS hce hvm hcl => ?_) (fun H locs h0 hP hD hS => ?_)
  · rcases htc with h9 | h9
    · rw [h9] at hE9; have hE9 : (none : Option String) = some E := hE9; cases hE9
    · rw [h9] at hE9
      have hE9 : some "java/lang/IllegalArgumentException" = some E := hE9
      cases hE9
      refine vx_catch (E := "java/lang/IllegalArgumentException") (name := "java/lang/IllegalArgumentException") hown [] ⟨0, 6, 7, 13⟩ [] (by rw [htab]; rfl) (fun z hz => absurd hz List.not_mem_nil) (by decide) (by decide) (hts _ (by decide +kernel)) ((hE.1 (.castable "java/lang/IllegalArgumentException" "java/lang/IllegalArgumentException") (by decide +kernel)).use rfl) hce hvm hcl ?_
      refine lv_astore_n (lv' := [(3, .ref q9), (0, .ref b), (1, .int what), (2, .int v)]) hx hb dL_trySet_7 rfl hl (by decide) rfl (fun ls hl => ?_)
      refine k_ldc (v := (-999900002)) cx (by decide +kernel) dL_trySet_8 ?_
      exact k_iretW (wf := [oBr b tx h ht pa sl fi bf, aS G pa 14 pg, oSt h o g f, aI G o 6 oh, oLed g k lf, aI G k 80 ce, oSt h2 o2 g2 f2, aI G o2 6 oh2, oLed g2 k2 lf2, aI G k2 80 ce2]) cx (by rw [h9]; rfl) (by rw [h9]; rfl) hP hS dL_trySet_10
  · exact k_iretW (wf := [oBr b tx h ht pa sl fi (u.2.2.1), aS G pa 14 pg, oSt h o g (u.2.2.2.1), aI G o 6 oh, oLed g k lf, aI G k 80 ce, oSt h2 o2 g2 (u.2.2.2.2.1), aI G o2 6 (u.2.2.2.2.2.1), oLed g2 k2 (u.2.2.2.2.2.2.1), aI G k2 80 (u.2.2.2.2.2.2.2)]) cx (by rw [h0]; rfl) (by rw [h0]; rfl) hP hS dL_trySet_6

abbrev rmL_tryChoose : Room := { frames := 7, cells := 1, slots := 6, locals := 104 }
set_option maxHeartbeats 4000000 in
set_option maxRecDepth 100000 in
theorem c_L_tryChoose (l : Launch) (hlt : l.stackTraces = false) (G : gG) (b : Nat) (tx : Nat) (h : Nat) (ht : Nat) (pa : Nat) (sl : Nat) (fi : Nat) (o : Nat) (g : Nat) (k : Nat) (h2 : Nat) (o2 : Nat) (g2 : Nat) (k2 : Nat) (bf : Nat → Int32) (pg : Nat → Option Nat) (f : Nat → Int32) (oh : Nat → Int32) (lf : Nat → Int32) (ce : Nat → Int32) (f2 : Nat → Int32) (oh2 : Nat → Int32) (lf2 : Nat → Int32) (ce2 : Nat → Int32) (i : Int32) (hst : f 9 = 0 ∨ f 9 = 1) (hpg : P_X3_entry 14 pg (bf 5) = some h2) (htc : (P_X3_choose bf pg f oh lf ce f2 oh2 lf2 ce2 i).1 = 0 ∨ (P_X3_choose bf pg f oh lf ce f2 oh2 lf2 ce2 i).1 = 3) : kL l G yL_tryChoose wsL_tryChoose rmL_tryChoose [.ref b, .int i] [oBr b tx h ht pa sl fi bf, aS G pa 14 pg, oSt h o g f, aI G o 6 oh, oLed g k lf, aI G k 80 ce, oSt h2 o2 g2 f2, aI G o2 6 oh2, oLed g2 k2 lf2, aI G k2 80 ce2] (qW G (rz (P_X3_choose bf pg f oh lf ce f2 oh2 lf2 ce2 i).1 (P_X3_choose bf pg f oh lf ce f2 oh2 lf2 ce2 i).2.1) (P_X3_choose bf pg f oh lf ce f2 oh2 lf2 ce2 i).1 [oBr b tx h ht pa sl fi ((P_X3_choose bf pg f oh lf ce f2 oh2 lf2 ce2 i).2.2.1), aS G pa 14 pg, oSt h o g ((P_X3_choose bf pg f oh lf ce f2 oh2 lf2 ce2 i).2.2.2.1), aI G o 6 oh, oLed g k lf, aI G k 80 ce, oSt h2 o2 g2 ((P_X3_choose bf pg f oh lf ce f2 oh2 lf2 ce2 i).2.2.2.2.1), aI G o2 6 ((P_X3_choose bf pg f oh lf ce f2 oh2 lf2 ce2 i).2.2.2.2.2.1), oLed g2 k2 ((P_X3_choose bf pg f oh lf ce f2 oh2 lf2 ce2 i).2.2.2.2.2.2.1), aI G k2 80 ((P_X3_choose bf pg f oh lf ce f2 oh2 lf2 ce2 i).2.2.2.2.2.2.2)] [oBr b tx h ht pa sl fi bf, aS G pa 14 pg, oSt h o g f, aI G o 6 oh, oLed g k lf, aI G k 80 ce, oSt h2 o2 g2 f2, aI G o2 6 oh2, oLed g2 k2 lf2, aI G k2 80 ce2]) := by
  refine k_bodyL (cc := cL_tryChoose) (nL := 3) (ret := some .int) (hh := [(0, 5, 6, 49)]) (by decide) rfl (Nat.le_of_ble_eq_true rfl) ?_
  intro p e s m args below meth c A cx ct hP hD hS ls hl
  obtain ⟨hx, hb, hml, hown, hts, hr, hlocks, hK, hA⟩ := id cx
  obtain ⟨htab, hE, hN, hZ⟩ := ct
  obtain ⟨H, hH⟩ : ∃ H, H = s.heap := ⟨_, rfl⟩
  obtain ⟨locs, hL⟩ : ∃ locs : List Loc, locs = [] := ⟨_, rfl⟩
  have hS : va_S A s.heap H locs := by rw [hH, hL]; exact hS
  rw [← hH] at hP ⊢
  rw [← hL]
  clear hH hL
  have hl : lv_has ls 3 [(0, .ref b), (1, .int i)] := hl
  have hC := c_X3_choose l hlt G b tx h ht pa sl fi o g k h2 o2 g2 k2 bf pg f oh lf ce f2 oh2 lf2 ce2 i hst hpg
  generalize hu : P_X3_choose bf pg f oh lf ce f2 oh2 lf2 ce2 i = u at hC htc ⊢
  refine lv_aload_n hx hb dL_tryChoose_0 rfl (lv_at hl 0 rfl) ?_
  refine lv_iload_n hx hb dL_tryChoose_1 rfl (lv_at hl 1 rfl) ?_
  refine k_iX (t := u.1) (r := u.2.1) (ws' := [oBr b tx h ht pa sl fi (u.2.2.1), aS G pa 14 pg, oSt h o g (u.2.2.2.1), aI G o 6 oh, oLed g k lf, aI G k 80 ce, oSt h2 o2 g2 (u.2.2.2.2.1), aI G o2 6 (u.2.2.2.2.2.1), oLed g2 k2 (u.2.2.2.2.2.2.1), aI G k2 80 (u.2.2.2.2.2.2.2)]) (as := [b, pa, h, o, g, k, h2, o2, g2, k2]) cx hP hD hS [0, 1, 2, 3, 4, 5, 6, 7, 8, 9] rfl (kr_VX (n := 1) (As := [.int i]) (ci := 3) cx hE hZ hS hC gL_tryChoose_X3_choose rfl rfl rfl (by decide +kernel) ⟨Nat.le_of_ble_eq_true rfl, Nat.le_of_ble_eq_true rfl⟩ rfl rfl rfl hP hD [0, 1, 2, 3, 4, 5, 6, 7, 8, 9] rfl rfl rfl rfl hl (Nat.le_of_ble_eq_true rfl) dL_tryChoose_2 ⟨Nat.le_of_ble_eq_true rfl, Nat.le_of_ble_eq_true rfl⟩) ⟨rfl, rfl⟩ rfl rfl (fun E ce9 q9 H locs hE9 hP hD hS hce hvm hcl => ?_) (fun H locs h0 hP hD hS => ?_)
  · rcases htc with h9 | h9
    · rw [h9] at hE9; have hE9 : (none : Option String) = some E := hE9; cases hE9
    · rw [h9] at hE9
      have hE9 : some "java/lang/IndexOutOfBoundsException" = some E := hE9
      cases hE9
      refine vx_catch (E := "java/lang/IndexOutOfBoundsException") (name := "java/lang/IndexOutOfBoundsException") hown [] ⟨0, 5, 6, 49⟩ [] (by rw [htab]; rfl) (fun z hz => absurd hz List.not_mem_nil) (by decide) (by decide) (hts _ (by decide +kernel)) ((hE.1 (.castable "java/lang/IndexOutOfBoundsException" "java/lang/IndexOutOfBoundsException") (by decide +kernel)).use rfl) hce hvm hcl ?_
      refine lv_astore_n (lv' := [(2, .ref q9), (0, .ref b), (1, .int i)]) hx hb dL_tryChoose_6 rfl hl (by decide) rfl (fun ls hl => ?_)
      refine k_ldc (v := (-999900001)) cx (by decide +kernel) dL_tryChoose_7 ?_
      exact k_iretW (wf := [oBr b tx h ht pa sl fi bf, aS G pa 14 pg, oSt h o g f, aI G o 6 oh, oLed g k lf, aI G k 80 ce, oSt h2 o2 g2 f2, aI G o2 6 oh2, oLed g2 k2 lf2, aI G k2 80 ce2]) cx (by rw [h9]; rfl) (by rw [h9]; rfl) hP hS dL_tryChoose_9
  · exact k_iretW (wf := [oBr b tx h ht pa sl fi (u.2.2.1), aS G pa 14 pg, oSt h o g (u.2.2.2.1), aI G o 6 oh, oLed g k lf, aI G k 80 ce, oSt h2 o2 g2 (u.2.2.2.2.1), aI G o2 6 (u.2.2.2.2.2.1), oLed g2 k2 (u.2.2.2.2.2.2.1), aI G k2 80 (u.2.2.2.2.2.2.2)]) cx (by rw [h0]; rfl) (by rw [h0]; rfl) hP hS dL_tryChoose_5

abbrev rmL_tryAdd : Room := { frames := 7, cells := 1, slots := 6, locals := 103 }
set_option maxHeartbeats 4000000 in
set_option maxRecDepth 100000 in
theorem c_L_tryAdd (l : Launch) (hlt : l.stackTraces = false) (G : gG) (b : Nat) (tx : Nat) (h : Nat) (ht : Nat) (pa : Nat) (sl : Nat) (fi : Nat) (o : Nat) (g : Nat) (k : Nat) (h2 : Nat) (o2 : Nat) (g2 : Nat) (k2 : Nat) (bf : Nat → Int32) (pg : Nat → Option Nat) (f : Nat → Int32) (oh : Nat → Int32) (lf : Nat → Int32) (ce : Nat → Int32) (f2 : Nat → Int32) (oh2 : Nat → Int32) (lf2 : Nat → Int32) (ce2 : Nat → Int32) (oh0 : Int32) (hst : f 9 = 0 ∨ f 9 = 1) (hpg : P_X3_entry 14 pg (bf 5) = some h2) (htc : (P_X3_add bf pg f oh lf ce f2 oh2 lf2 ce2 oh0).1 = 0 ∨ (P_X3_add bf pg f oh lf ce f2 oh2 lf2 ce2 oh0).1 = 1 ∨ (P_X3_add bf pg f oh lf ce f2 oh2 lf2 ce2 oh0).1 = 2) : kL l G yL_tryAdd wsL_tryAdd rmL_tryAdd [.ref b, .int oh0] [oBr b tx h ht pa sl fi bf, aS G pa 14 pg, oSt h o g f, aI G o 6 oh, oLed g k lf, aI G k 80 ce, oSt h2 o2 g2 f2, aI G o2 6 oh2, oLed g2 k2 lf2, aI G k2 80 ce2] (qW G (rz (P_X3_add bf pg f oh lf ce f2 oh2 lf2 ce2 oh0).1 (P_X3_add bf pg f oh lf ce f2 oh2 lf2 ce2 oh0).2.1) (P_X3_add bf pg f oh lf ce f2 oh2 lf2 ce2 oh0).1 [oBr b tx h ht pa sl fi ((P_X3_add bf pg f oh lf ce f2 oh2 lf2 ce2 oh0).2.2.1), aS G pa 14 pg, oSt h o g ((P_X3_add bf pg f oh lf ce f2 oh2 lf2 ce2 oh0).2.2.2.1), aI G o 6 ((P_X3_add bf pg f oh lf ce f2 oh2 lf2 ce2 oh0).2.2.2.2.1), oLed g k lf, aI G k 80 ce, oSt h2 o2 g2 ((P_X3_add bf pg f oh lf ce f2 oh2 lf2 ce2 oh0).2.2.2.2.2.1), aI G o2 6 ((P_X3_add bf pg f oh lf ce f2 oh2 lf2 ce2 oh0).2.2.2.2.2.2.1), oLed g2 k2 ((P_X3_add bf pg f oh lf ce f2 oh2 lf2 ce2 oh0).2.2.2.2.2.2.2.1), aI G k2 80 ((P_X3_add bf pg f oh lf ce f2 oh2 lf2 ce2 oh0).2.2.2.2.2.2.2.2)] [oBr b tx h ht pa sl fi bf, aS G pa 14 pg, oSt h o g f, aI G o 6 oh, oLed g k lf, aI G k 80 ce, oSt h2 o2 g2 f2, aI G o2 6 oh2, oLed g2 k2 lf2, aI G k2 80 ce2]) := by
  refine k_bodyL (cc := cL_tryAdd) (nL := 3) (ret := some .int) (hh := [(0, 5, 6, 13), (0, 5, 10, 16)]) (by decide) rfl (Nat.le_of_ble_eq_true rfl) ?_
  intro p e s m args below meth c A cx ct hP hD hS ls hl
  obtain ⟨hx, hb, hml, hown, hts, hr, hlocks, hK, hA⟩ := id cx
  obtain ⟨htab, hE, hN, hZ⟩ := ct
  obtain ⟨H, hH⟩ : ∃ H, H = s.heap := ⟨_, rfl⟩
  obtain ⟨locs, hL⟩ : ∃ locs : List Loc, locs = [] := ⟨_, rfl⟩
  have hS : va_S A s.heap H locs := by rw [hH, hL]; exact hS
  rw [← hH] at hP ⊢
  rw [← hL]
  clear hH hL
  have hl : lv_has ls 3 [(0, .ref b), (1, .int oh0)] := hl
  have hC := c_X3_add l hlt G b tx h ht pa sl fi o g k h2 o2 g2 k2 bf pg f oh lf ce f2 oh2 lf2 ce2 oh0 hst hpg
  generalize hu : P_X3_add bf pg f oh lf ce f2 oh2 lf2 ce2 oh0 = u at hC htc ⊢
  refine lv_aload_n hx hb dL_tryAdd_0 rfl (lv_at hl 0 rfl) ?_
  refine lv_iload_n hx hb dL_tryAdd_1 rfl (lv_at hl 1 rfl) ?_
  refine k_iX (t := u.1) (r := u.2.1) (ws' := [oBr b tx h ht pa sl fi (u.2.2.1), aS G pa 14 pg, oSt h o g (u.2.2.2.1), aI G o 6 (u.2.2.2.2.1), oLed g k lf, aI G k 80 ce, oSt h2 o2 g2 (u.2.2.2.2.2.1), aI G o2 6 (u.2.2.2.2.2.2.1), oLed g2 k2 (u.2.2.2.2.2.2.2.1), aI G k2 80 (u.2.2.2.2.2.2.2.2)]) (as := [b, pa, h, o, g, k, h2, o2, g2, k2]) cx hP hD hS [0, 1, 2, 3, 4, 5, 6, 7, 8, 9] rfl (kr_VX (n := 1) (As := [.int oh0]) (ci := 3) cx hE hZ hS hC gL_tryAdd_X3_add rfl rfl rfl (by decide +kernel) ⟨Nat.le_of_ble_eq_true rfl, Nat.le_of_ble_eq_true rfl⟩ rfl rfl rfl hP hD [0, 1, 2, 3, 4, 5, 6, 7, 8, 9] rfl rfl rfl rfl hl (Nat.le_of_ble_eq_true rfl) dL_tryAdd_2 ⟨Nat.le_of_ble_eq_true rfl, Nat.le_of_ble_eq_true rfl⟩) ⟨rfl, rfl⟩ rfl rfl (fun E ce9 q9 H locs hE9 hP hD hS hce hvm hcl => ?_) (fun H locs h0 hP hD hS => ?_)
  · rcases htc with h9 | h9 | h9
    · rw [h9] at hE9; have hE9 : (none : Option String) = some E := hE9; cases hE9
    · rw [h9] at hE9
      have hE9 : some "java/lang/IllegalArgumentException" = some E := hE9
      cases hE9
      refine vx_catch (E := "java/lang/IllegalArgumentException") (name := "java/lang/IllegalArgumentException") hown [] ⟨0, 5, 6, 13⟩ [⟨0, 5, 10, 16⟩] (by rw [htab]; rfl) (fun z hz => absurd hz List.not_mem_nil) (by decide) (by decide) (hts _ (by decide +kernel)) ((hE.1 (.castable "java/lang/IllegalArgumentException" "java/lang/IllegalArgumentException") (by decide +kernel)).use rfl) hce hvm hcl ?_
      refine lv_astore_n (lv' := [(2, .ref q9), (0, .ref b), (1, .int oh0)]) hx hb dL_tryAdd_6 rfl hl (by decide) rfl (fun ls hl => ?_)
      refine k_ldc (v := (-999900002)) cx (by decide +kernel) dL_tryAdd_7 ?_
      exact k_iretW (wf := [oBr b tx h ht pa sl fi bf, aS G pa 14 pg, oSt h o g f, aI G o 6 oh, oLed g k lf, aI G k 80 ce, oSt h2 o2 g2 f2, aI G o2 6 oh2, oLed g2 k2 lf2, aI G k2 80 ce2]) cx (by rw [h9]; rfl) (by rw [h9]; rfl) hP hS dL_tryAdd_9
    · rw [h9] at hE9
      have hE9 : some "java/lang/IllegalStateException" = some E := hE9
      cases hE9
      refine vx_catch (E := "java/lang/IllegalStateException") (name := "java/lang/IllegalStateException") hown [⟨0, 5, 6, 13⟩] ⟨0, 5, 10, 16⟩ [] (by rw [htab]; rfl) (fun z hz => by rw [List.mem_singleton.mp hz]; exact Or.inr ⟨by decide, "java/lang/IllegalArgumentException", hts _ (by decide +kernel), hN.1⟩) (by decide) (by decide) (hts _ (by decide +kernel)) ((hE.1 (.castable "java/lang/IllegalStateException" "java/lang/IllegalStateException") (by decide +kernel)).use rfl) hce hvm hcl ?_
      refine lv_astore_n (lv' := [(2, .ref q9), (0, .ref b), (1, .int oh0)]) hx hb dL_tryAdd_10 rfl hl (by decide) rfl (fun ls hl => ?_)
      refine k_ldc (v := (-999900003)) cx (by decide +kernel) dL_tryAdd_11 ?_
      exact k_iretW (wf := [oBr b tx h ht pa sl fi bf, aS G pa 14 pg, oSt h o g f, aI G o 6 oh, oLed g k lf, aI G k 80 ce, oSt h2 o2 g2 f2, aI G o2 6 oh2, oLed g2 k2 lf2, aI G k2 80 ce2]) cx (by rw [h9]; rfl) (by rw [h9]; rfl) hP hS dL_tryAdd_13
  · exact k_iretW (wf := [oBr b tx h ht pa sl fi (u.2.2.1), aS G pa 14 pg, oSt h o g (u.2.2.2.1), aI G o 6 (u.2.2.2.2.1), oLed g k lf, aI G k 80 ce, oSt h2 o2 g2 (u.2.2.2.2.2.1), aI G o2 6 (u.2.2.2.2.2.2.1), oLed g2 k2 (u.2.2.2.2.2.2.2.1), aI G k2 80 (u.2.2.2.2.2.2.2.2)]) cx (by rw [h0]; rfl) (by rw [h0]; rfl) hP hS dL_tryAdd_5

abbrev rmL_tryBalance : Room := { frames := 7, cells := 1, slots := 6, locals := 133 }
set_option maxHeartbeats 4000000 in
set_option maxRecDepth 100000 in
theorem c_L_tryBalance (l : Launch) (hlt : l.stackTraces = false) (G : gG) (b : Nat) (tx : Nat) (h : Nat) (ht : Nat) (pa : Nat) (sl : Nat) (fi : Nat) (o : Nat) (g : Nat) (k : Nat) (h2 : Nat) (o2 : Nat) (g2 : Nat) (k2 : Nat) (bf : Nat → Int32) (pg : Nat → Option Nat) (f : Nat → Int32) (oh : Nat → Int32) (lf : Nat → Int32) (ce : Nat → Int32) (f2 : Nat → Int32) (oh2 : Nat → Int32) (lf2 : Nat → Int32) (ce2 : Nat → Int32) (hst : f 9 = 0 ∨ f 9 = 1) (hpg : P_X3_entry 14 pg (bf 5) = some h2) (htc : (P_X3_balance bf pg f oh lf ce f2 oh2 lf2 ce2).1 = 0 ∨ (P_X3_balance bf pg f oh lf ce f2 oh2 lf2 ce2).1 = 2) : kL l G yL_tryBalance wsL_tryBalance rmL_tryBalance [.ref b] [oBr b tx h ht pa sl fi bf, aS G pa 14 pg, oSt h o g f, aI G o 6 oh, oLed g k lf, aI G k 80 ce, oSt h2 o2 g2 f2, aI G o2 6 oh2, oLed g2 k2 lf2, aI G k2 80 ce2] (qW G (rz (P_X3_balance bf pg f oh lf ce f2 oh2 lf2 ce2).1 (P_X3_balance bf pg f oh lf ce f2 oh2 lf2 ce2).2.1) (P_X3_balance bf pg f oh lf ce f2 oh2 lf2 ce2).1 [oBr b tx h ht pa sl fi ((P_X3_balance bf pg f oh lf ce f2 oh2 lf2 ce2).2.2.1), aS G pa 14 pg, oSt h o g ((P_X3_balance bf pg f oh lf ce f2 oh2 lf2 ce2).2.2.2.1), aI G o 6 oh, oLed g k ((P_X3_balance bf pg f oh lf ce f2 oh2 lf2 ce2).2.2.2.2.1), aI G k 80 ((P_X3_balance bf pg f oh lf ce f2 oh2 lf2 ce2).2.2.2.2.2.1), oSt h2 o2 g2 ((P_X3_balance bf pg f oh lf ce f2 oh2 lf2 ce2).2.2.2.2.2.2.1), aI G o2 6 ((P_X3_balance bf pg f oh lf ce f2 oh2 lf2 ce2).2.2.2.2.2.2.2.1), oLed g2 k2 ((P_X3_balance bf pg f oh lf ce f2 oh2 lf2 ce2).2.2.2.2.2.2.2.2.1), aI G k2 80 ((P_X3_balance bf pg f oh lf ce f2 oh2 lf2 ce2).2.2.2.2.2.2.2.2.2)] [oBr b tx h ht pa sl fi bf, aS G pa 14 pg, oSt h o g f, aI G o 6 oh, oLed g k lf, aI G k 80 ce, oSt h2 o2 g2 f2, aI G o2 6 oh2, oLed g2 k2 lf2, aI G k2 80 ce2]) := by
  refine k_bodyL (cc := cL_tryBalance) (nL := 2) (ret := some .int) (hh := [(0, 4, 5, 16)]) (by decide) rfl (Nat.le_of_ble_eq_true rfl) ?_
  intro p e s m args below meth c A cx ct hP hD hS ls hl
  obtain ⟨hx, hb, hml, hown, hts, hr, hlocks, hK, hA⟩ := id cx
  obtain ⟨htab, hE, hN, hZ⟩ := ct
  obtain ⟨H, hH⟩ : ∃ H, H = s.heap := ⟨_, rfl⟩
  obtain ⟨locs, hL⟩ : ∃ locs : List Loc, locs = [] := ⟨_, rfl⟩
  have hS : va_S A s.heap H locs := by rw [hH, hL]; exact hS
  rw [← hH] at hP ⊢
  rw [← hL]
  clear hH hL
  have hl : lv_has ls 2 [(0, .ref b)] := hl
  have hC := c_X3_balance l hlt G b tx h ht pa sl fi o g k h2 o2 g2 k2 bf pg f oh lf ce f2 oh2 lf2 ce2 hst hpg
  generalize hu : P_X3_balance bf pg f oh lf ce f2 oh2 lf2 ce2 = u at hC htc ⊢
  refine lv_aload_n hx hb dL_tryBalance_0 rfl (lv_at hl 0 rfl) ?_
  refine k_iX (t := u.1) (r := u.2.1) (ws' := [oBr b tx h ht pa sl fi (u.2.2.1), aS G pa 14 pg, oSt h o g (u.2.2.2.1), aI G o 6 oh, oLed g k (u.2.2.2.2.1), aI G k 80 (u.2.2.2.2.2.1), oSt h2 o2 g2 (u.2.2.2.2.2.2.1), aI G o2 6 (u.2.2.2.2.2.2.2.1), oLed g2 k2 (u.2.2.2.2.2.2.2.2.1), aI G k2 80 (u.2.2.2.2.2.2.2.2.2)]) (as := [b, pa, h, o, g, k, h2, o2, g2, k2]) cx hP hD hS [0, 1, 2, 3, 4, 5, 6, 7, 8, 9] rfl (kr_VX (n := 0) (As := []) (ci := 3) cx hE hZ hS hC gL_tryBalance_X3_balance rfl rfl rfl (by decide +kernel) ⟨Nat.le_of_ble_eq_true rfl, Nat.le_of_ble_eq_true rfl⟩ rfl rfl rfl hP hD [0, 1, 2, 3, 4, 5, 6, 7, 8, 9] rfl rfl rfl rfl hl (Nat.le_of_ble_eq_true rfl) dL_tryBalance_1 ⟨Nat.le_of_ble_eq_true rfl, Nat.le_of_ble_eq_true rfl⟩) ⟨rfl, rfl⟩ rfl rfl (fun E ce9 q9 H locs hE9 hP hD hS hce hvm hcl => ?_) (fun H locs h0 hP hD hS => ?_)
  · rcases htc with h9 | h9
    · rw [h9] at hE9; have hE9 : (none : Option String) = some E := hE9; cases hE9
    · rw [h9] at hE9
      have hE9 : some "java/lang/IllegalStateException" = some E := hE9
      cases hE9
      refine vx_catch (E := "java/lang/IllegalStateException") (name := "java/lang/IllegalStateException") hown [] ⟨0, 4, 5, 16⟩ [] (by rw [htab]; rfl) (fun z hz => absurd hz List.not_mem_nil) (by decide) (by decide) (hts _ (by decide +kernel)) ((hE.1 (.castable "java/lang/IllegalStateException" "java/lang/IllegalStateException") (by decide +kernel)).use rfl) hce hvm hcl ?_
      refine lv_astore_n (lv' := [(1, .ref q9), (0, .ref b)]) hx hb dL_tryBalance_5 rfl hl (by decide) rfl (fun ls hl => ?_)
      refine k_ldc (v := (-999900003)) cx (by decide +kernel) dL_tryBalance_6 ?_
      exact k_iretW (wf := [oBr b tx h ht pa sl fi bf, aS G pa 14 pg, oSt h o g f, aI G o 6 oh, oLed g k lf, aI G k 80 ce, oSt h2 o2 g2 f2, aI G o2 6 oh2, oLed g2 k2 lf2, aI G k2 80 ce2]) cx (by rw [h9]; rfl) (by rw [h9]; rfl) hP hS dL_tryBalance_8
  · exact k_iretW (wf := [oBr b tx h ht pa sl fi (u.2.2.1), aS G pa 14 pg, oSt h o g (u.2.2.2.1), aI G o 6 oh, oLed g k (u.2.2.2.2.1), aI G k 80 (u.2.2.2.2.2.1), oSt h2 o2 g2 (u.2.2.2.2.2.2.1), aI G o2 6 (u.2.2.2.2.2.2.2.1), oLed g2 k2 (u.2.2.2.2.2.2.2.2.1), aI G k2 80 (u.2.2.2.2.2.2.2.2.2)]) cx (by rw [h0]; rfl) (by rw [h0]; rfl) hP hS dL_tryBalance_4

