/-! the law: its wrappers -/
abbrev rmL_tryBalanced : Room := { frames := 7, cells := 1, slots := 6, locals := 134 }
set_option maxHeartbeats 4000000 in
set_option maxRecDepth 100000 in
theorem c_L_tryBalanced (l : Launch) (hlt : l.stackTraces = false) (G : gG) (b : Nat) (tx : Nat) (h : Nat) (ht : Nat) (pa : Nat) (sl : Nat) (fi : Nat) (o : Nat) (g : Nat) (k : Nat) (ot : Nat) (gt : Nat) (kt : Nat) (bf : Nat → Int32) (f : Nat → Int32) (oh : Nat → Int32) (lf : Nat → Int32) (ce : Nat → Int32) (ft : Nat → Int32) (oht : Nat → Int32) (lft : Nat → Int32) (cet : Nat → Int32) (what : Int32) (hst : f 9 = 0 ∨ f 9 = 1) (htc : (P_X3_balanced bf f oh lf ce ft oht lft cet what).1 = 0 ∨ (P_X3_balanced bf f oh lf ce ft oht lft cet what).1 = 1) : kL l G yL_tryBalanced wsL_tryBalanced rmL_tryBalanced [.ref b, .int what] [oBr b tx h ht pa sl fi bf, oSt h o g f, aI G o 6 oh, oLed g k lf, aI G k 80 ce, oSt ht ot gt ft, aI G ot 6 oht, oLed gt kt lft, aI G kt 80 cet] (qW G (rz (P_X3_balanced bf f oh lf ce ft oht lft cet what).1 (P_X3_balanced bf f oh lf ce ft oht lft cet what).2.1) (P_X3_balanced bf f oh lf ce ft oht lft cet what).1 [oBr b tx h ht pa sl fi bf, oSt h o g f, aI G o 6 oh, oLed g k lf, aI G k 80 ce, oSt ht ot gt ((P_X3_balanced bf f oh lf ce ft oht lft cet what).2.2.1), aI G ot 6 ((P_X3_balanced bf f oh lf ce ft oht lft cet what).2.2.2.1), oLed gt kt ((P_X3_balanced bf f oh lf ce ft oht lft cet what).2.2.2.2.1), aI G kt 80 ((P_X3_balanced bf f oh lf ce ft oht lft cet what).2.2.2.2.2)] [oBr b tx h ht pa sl fi bf, oSt h o g f, aI G o 6 oh, oLed g k lf, aI G k 80 ce, oSt ht ot gt ft, aI G ot 6 oht, oLed gt kt lft, aI G kt 80 cet]) := by
  refine k_bodyL (cc := cL_tryBalanced) (nL := 3) (ret := some .int) (hh := [(0, 5, 6, 13)]) (by decide) rfl (Nat.le_of_ble_eq_true rfl) ?_
  intro p e s m args below meth c A cx ct hP hD hS ls hl
  obtain ⟨hx, hb, hml, hown, hts, hr, hlocks, hK, hA⟩ := id cx
  obtain ⟨htab, hE, hN, hZ⟩ := ct
  obtain ⟨H, hH⟩ : ∃ H, H = s.heap := ⟨_, rfl⟩
  obtain ⟨locs, hL⟩ : ∃ locs : List Loc, locs = [] := ⟨_, rfl⟩
  have hS : va_S A s.heap H locs := by rw [hH, hL]; exact hS
  rw [← hH] at hP ⊢
  rw [← hL]
  clear hH hL
  have hl : lv_has ls 3 [(0, .ref b), (1, .int what)] := hl
  have hC := c_X3_balanced l hlt G b tx h ht pa sl fi o g k ot gt kt bf f oh lf ce ft oht lft cet what hst
  generalize hu : P_X3_balanced bf f oh lf ce ft oht lft cet what = u at hC htc ⊢
  refine lv_aload_n hx hb dL_tryBalanced_0 rfl (lv_at hl 0 rfl) ?_
  refine lv_iload_n hx hb dL_tryBalanced_1 rfl (lv_at hl 1 rfl) ?_
  refine k_iX (t := u.1) (r := u.2.1) (ws' := [oBr b tx h ht pa sl fi bf, oSt h o g f, aI G o 6 oh, oLed g k lf, aI G k 80 ce, oSt ht ot gt (u.2.2.1), aI G ot 6 (u.2.2.2.1), oLed gt kt (u.2.2.2.2.1), aI G kt 80 (u.2.2.2.2.2)]) (as := [b, h, o, g, k, ht, ot, gt, kt]) cx hP hD hS [0, 1, 2, 3, 4, 5, 6, 7, 8] rfl (kr_VX (n := 1) (As := [.int what]) (ci := 3) cx hE hZ hS hC gL_tryBalanced_X3_balanced rfl rfl rfl (by decide +kernel) ⟨Nat.le_of_ble_eq_true rfl, Nat.le_of_ble_eq_true rfl⟩ rfl rfl rfl hP hD [0, 1, 2, 3, 4, 5, 6, 7, 8] rfl rfl rfl rfl hl (Nat.le_of_ble_eq_true rfl) dL_tryBalanced_2 ⟨Nat.le_of_ble_eq_true rfl, Nat.le_of_ble_eq_true rfl⟩) ⟨rfl, rfl⟩ rfl rfl (fun E ce9 q9 H locs hE9 hP hD hS hce hvm hcl => ?_) (fun H locs h0 hP hD hS => ?_)
  · rcases htc with h9 | h9
    · rw [h9] at hE9; have hE9 : (none : Option String) = some E := hE9; cases hE9
    · rw [h9] at hE9
      have hE9 : some "java/lang/IllegalArgumentException" = some E := hE9
      cases hE9
      refine vx_catch (E := "java/lang/IllegalArgumentException") (name := "java/lang/IllegalArgumentException") hown [] ⟨0, 5, 6, 13⟩ [] (by rw [htab]; rfl) (fun z hz => absurd hz List.not_mem_nil) (by decide) (by decide) (hts _ (by decide +kernel)) ((hE.1 (.castable "java/lang/IllegalArgumentException" "java/lang/IllegalArgumentException") (by decide +kernel)).use rfl) hce hvm hcl ?_
      refine lv_astore_n (lv' := [(2, .ref q9), (0, .ref b), (1, .int what)]) hx hb dL_tryBalanced_6 rfl hl (by decide) rfl (fun ls hl => ?_)
      refine k_ldc (v := (-999900002)) cx (by decide +kernel) dL_tryBalanced_7 ?_
      exact k_iretW (wf := [oBr b tx h ht pa sl fi bf, oSt h o g f, aI G o 6 oh, oLed g k lf, aI G k 80 ce, oSt ht ot gt ft, aI G ot 6 oht, oLed gt kt lft, aI G kt 80 cet]) cx (by rw [h9]; rfl) (by rw [h9]; rfl) hP hS dL_tryBalanced_9
  · exact k_iretW (wf := [oBr b tx h ht pa sl fi bf, oSt h o g f, aI G o 6 oh, oLed g k lf, aI G k 80 ce, oSt ht ot gt (u.2.2.1), aI G ot 6 (u.2.2.2.1), oLed gt kt (u.2.2.2.2.1), aI G kt 80 (u.2.2.2.2.2)]) cx (by rw [h0]; rfl) (by rw [h0]; rfl) hP hS dL_tryBalanced_5

abbrev rmL_tryScript : Room := { frames := 7, cells := 1, slots := 6, locals := 162 }
set_option maxHeartbeats 4000000 in
set_option maxRecDepth 100000 in
theorem c_L_tryScript (l : Launch) (hlt : l.stackTraces = false) (G : gG) (b : Nat) (tx : Nat) (h : Nat) (ht : Nat) (pa : Nat) (sl : Nat) (fi : Nat) (o : Nat) (g : Nat) (k : Nat) (ot : Nat) (gt : Nat) (kt : Nat) (bf : Nat → Int32) (f : Nat → Int32) (oh : Nat → Int32) (lf : Nat → Int32) (ce : Nat → Int32) (ft : Nat → Int32) (oht : Nat → Int32) (lft : Nat → Int32) (cet : Nat → Int32) (nn : Int32) (sc : Int64) (hst : f 9 = 0 ∨ f 9 = 1) (htc : (P_X3_runScript bf f oh lf ce ft oht lft cet nn sc).1 = 0 ∨ (P_X3_runScript bf f oh lf ce ft oht lft cet nn sc).1 = 1) : kL l G yL_tryScript wsL_tryScript rmL_tryScript [.ref b, .int nn, .long sc] [oBr b tx h ht pa sl fi bf, oSt h o g f, aI G o 6 oh, oLed g k lf, aI G k 80 ce, oSt ht ot gt ft, aI G ot 6 oht, oLed gt kt lft, aI G kt 80 cet] (qW G (rz (P_X3_runScript bf f oh lf ce ft oht lft cet nn sc).1 (P_X3_runScript bf f oh lf ce ft oht lft cet nn sc).2.1) (P_X3_runScript bf f oh lf ce ft oht lft cet nn sc).1 [oBr b tx h ht pa sl fi bf, oSt h o g f, aI G o 6 oh, oLed g k lf, aI G k 80 ce, oSt ht ot gt ((P_X3_runScript bf f oh lf ce ft oht lft cet nn sc).2.2.1), aI G ot 6 ((P_X3_runScript bf f oh lf ce ft oht lft cet nn sc).2.2.2.1), oLed gt kt ((P_X3_runScript bf f oh lf ce ft oht lft cet nn sc).2.2.2.2.1), aI G kt 80 ((P_X3_runScript bf f oh lf ce ft oht lft cet nn sc).2.2.2.2.2)] [oBr b tx h ht pa sl fi bf, oSt h o g f, aI G o 6 oh, oLed g k lf, aI G k 80 ce, oSt ht ot gt ft, aI G ot 6 oht, oLed gt kt lft, aI G kt 80 cet]) := by
  refine k_bodyL (cc := cL_tryScript) (nL := 5) (ret := some .int) (hh := [(0, 6, 7, 13)]) (by decide) rfl (Nat.le_of_ble_eq_true rfl) ?_
  intro p e s m args below meth c A cx ct hP hD hS ls hl
  obtain ⟨hx, hb, hml, hown, hts, hr, hlocks, hK, hA⟩ := id cx
  obtain ⟨htab, hE, hN, hZ⟩ := ct
  obtain ⟨H, hH⟩ : ∃ H, H = s.heap := ⟨_, rfl⟩
  obtain ⟨locs, hL⟩ : ∃ locs : List Loc, locs = [] := ⟨_, rfl⟩
  have hS : va_S A s.heap H locs := by rw [hH, hL]; exact hS
  rw [← hH] at hP ⊢
  rw [← hL]
  clear hH hL
  have hl : lv_has ls 5 [(0, .ref b), (1, .int nn), (2, .long sc)] := hl
  have hC := c_X3_runScript l hlt G b tx h ht pa sl fi o g k ot gt kt bf f oh lf ce ft oht lft cet nn sc hst
  generalize hu : P_X3_runScript bf f oh lf ce ft oht lft cet nn sc = u at hC htc ⊢
  refine lv_aload_n hx hb dL_tryScript_0 rfl (lv_at hl 0 rfl) ?_
  refine lv_iload_n hx hb dL_tryScript_1 rfl (lv_at hl 1 rfl) ?_
  refine lv_lload_n hx hb dL_tryScript_2 rfl (lv_at hl 2 rfl) ?_
  refine k_iX (t := u.1) (r := u.2.1) (ws' := [oBr b tx h ht pa sl fi bf, oSt h o g f, aI G o 6 oh, oLed g k lf, aI G k 80 ce, oSt ht ot gt (u.2.2.1), aI G ot 6 (u.2.2.2.1), oLed gt kt (u.2.2.2.2.1), aI G kt 80 (u.2.2.2.2.2)]) (as := [b, h, o, g, k, ht, ot, gt, kt]) cx hP hD hS [0, 1, 2, 3, 4, 5, 6, 7, 8] rfl (kr_VX (n := 2) (As := [.int nn, .long sc]) (ci := 3) cx hE hZ hS hC gL_tryScript_X3_runScript rfl rfl rfl (by decide +kernel) ⟨Nat.le_of_ble_eq_true rfl, Nat.le_of_ble_eq_true rfl⟩ rfl rfl rfl hP hD [0, 1, 2, 3, 4, 5, 6, 7, 8] rfl rfl rfl rfl hl (Nat.le_of_ble_eq_true rfl) dL_tryScript_3 ⟨Nat.le_of_ble_eq_true rfl, Nat.le_of_ble_eq_true rfl⟩) ⟨rfl, rfl⟩ rfl rfl (fun E ce9 q9 H locs hE9 hP hD hS hce hvm hcl => ?_) (fun H locs h0 hP hD hS => ?_)
  · rcases htc with h9 | h9
    · rw [h9] at hE9; have hE9 : (none : Option String) = some E := hE9; cases hE9
    · rw [h9] at hE9
      have hE9 : some "java/lang/IllegalArgumentException" = some E := hE9
      cases hE9
      refine vx_catch (E := "java/lang/IllegalArgumentException") (name := "java/lang/IllegalArgumentException") hown [] ⟨0, 6, 7, 13⟩ [] (by rw [htab]; rfl) (fun z hz => absurd hz List.not_mem_nil) (by decide) (by decide) (hts _ (by decide +kernel)) ((hE.1 (.castable "java/lang/IllegalArgumentException" "java/lang/IllegalArgumentException") (by decide +kernel)).use rfl) hce hvm hcl ?_
      refine lv_astore (lv' := [(4, .ref q9), (0, .ref b), (1, .int nn), (2, .long sc)]) hx hb dL_tryScript_7 hl (by decide) rfl (fun ls hl => ?_)
      refine k_ldc (v := (-999900002)) cx (by decide +kernel) dL_tryScript_9 ?_
      exact k_iretW (wf := [oBr b tx h ht pa sl fi bf, oSt h o g f, aI G o 6 oh, oLed g k lf, aI G k 80 ce, oSt ht ot gt ft, aI G ot 6 oht, oLed gt kt lft, aI G kt 80 cet]) cx (by rw [h9]; rfl) (by rw [h9]; rfl) hP hS dL_tryScript_11
  · exact k_iretW (wf := [oBr b tx h ht pa sl fi bf, oSt h o g f, aI G o 6 oh, oLed g k lf, aI G k 80 ce, oSt ht ot gt (u.2.2.1), aI G ot 6 (u.2.2.2.1), oLed gt kt (u.2.2.2.2.1), aI G kt 80 (u.2.2.2.2.2)]) cx (by rw [h0]; rfl) (by rw [h0]; rfl) hP hS dL_tryScript_6

abbrev rmL_trySimulate : Room := { frames := 7, cells := 1, slots := 6, locals := 124 }
set_option maxHeartbeats 4000000 in
set_option maxRecDepth 100000 in
theorem c_L_trySimulate (l : Launch) (hlt : l.stackTraces = false) (G : gG) (b : Nat) (tx : Nat) (h : Nat) (ht : Nat) (pa : Nat) (sl : Nat) (fi : Nat) (o : Nat) (g : Nat) (k : Nat) (ot : Nat) (gt : Nat) (kt : Nat) (bf : Nat → Int32) (f : Nat → Int32) (oh : Nat → Int32) (lf : Nat → Int32) (ce : Nat → Int32) (ft : Nat → Int32) (oht : Nat → Int32) (lft : Nat → Int32) (cet : Nat → Int32) (sd : Int64) (mm : Int32) (hst : f 9 = 0 ∨ f 9 = 1) (htc : (P_X3_simulate bf f oh lf ce ft oht lft cet sd mm).1 = 0 ∨ (P_X3_simulate bf f oh lf ce ft oht lft cet sd mm).1 = 1) : kL l G yL_trySimulate wsL_trySimulate rmL_trySimulate [.ref b, .long sd, .int mm] [oBr b tx h ht pa sl fi bf, oSt h o g f, aI G o 6 oh, oLed g k lf, aI G k 80 ce, oSt ht ot gt ft, aI G ot 6 oht, oLed gt kt lft, aI G kt 80 cet] (qW G (rz (P_X3_simulate bf f oh lf ce ft oht lft cet sd mm).1 (P_X3_simulate bf f oh lf ce ft oht lft cet sd mm).2.1) (P_X3_simulate bf f oh lf ce ft oht lft cet sd mm).1 [oBr b tx h ht pa sl fi bf, oSt h o g f, aI G o 6 oh, oLed g k lf, aI G k 80 ce, oSt ht ot gt ((P_X3_simulate bf f oh lf ce ft oht lft cet sd mm).2.2.1), aI G ot 6 ((P_X3_simulate bf f oh lf ce ft oht lft cet sd mm).2.2.2.1), oLed gt kt ((P_X3_simulate bf f oh lf ce ft oht lft cet sd mm).2.2.2.2.1), aI G kt 80 ((P_X3_simulate bf f oh lf ce ft oht lft cet sd mm).2.2.2.2.2)] [oBr b tx h ht pa sl fi bf, oSt h o g f, aI G o 6 oh, oLed g k lf, aI G k 80 ce, oSt ht ot gt ft, aI G ot 6 oht, oLed gt kt lft, aI G kt 80 cet]) := by
  refine k_bodyL (cc := cL_trySimulate) (nL := 5) (ret := some .int) (hh := [(0, 6, 7, 13)]) (by decide) rfl (Nat.le_of_ble_eq_true rfl) ?_
  intro p e s m args below meth c A cx ct hP hD hS ls hl
  obtain ⟨hx, hb, hml, hown, hts, hr, hlocks, hK, hA⟩ := id cx
  obtain ⟨htab, hE, hN, hZ⟩ := ct
  obtain ⟨H, hH⟩ : ∃ H, H = s.heap := ⟨_, rfl⟩
  obtain ⟨locs, hL⟩ : ∃ locs : List Loc, locs = [] := ⟨_, rfl⟩
  have hS : va_S A s.heap H locs := by rw [hH, hL]; exact hS
  rw [← hH] at hP ⊢
  rw [← hL]
  clear hH hL
  have hl : lv_has ls 5 [(0, .ref b), (1, .long sd), (3, .int mm)] := hl
  have hC := c_X3_simulate l hlt G b tx h ht pa sl fi o g k ot gt kt bf f oh lf ce ft oht lft cet sd mm hst
  generalize hu : P_X3_simulate bf f oh lf ce ft oht lft cet sd mm = u at hC htc ⊢
  refine lv_aload_n hx hb dL_trySimulate_0 rfl (lv_at hl 0 rfl) ?_
  refine lv_lload_n hx hb dL_trySimulate_1 rfl (lv_at hl 1 rfl) ?_
  refine lv_iload_n hx hb dL_trySimulate_2 rfl (lv_at hl 2 rfl) ?_
  refine k_iX (t := u.1) (r := u.2.1) (ws' := [oBr b tx h ht pa sl fi bf, oSt h o g f, aI G o 6 oh, oLed g k lf, aI G k 80 ce, oSt ht ot gt (u.2.2.1), aI G ot 6 (u.2.2.2.1), oLed gt kt (u.2.2.2.2.1), aI G kt 80 (u.2.2.2.2.2)]) (as := [b, h, o, g, k, ht, ot, gt, kt]) cx hP hD hS [0, 1, 2, 3, 4, 5, 6, 7, 8] rfl (kr_VX (n := 2) (As := [.long sd, .int mm]) (ci := 3) cx hE hZ hS hC gL_trySimulate_X3_simulate rfl rfl rfl (by decide +kernel) ⟨Nat.le_of_ble_eq_true rfl, Nat.le_of_ble_eq_true rfl⟩ rfl rfl rfl hP hD [0, 1, 2, 3, 4, 5, 6, 7, 8] rfl rfl rfl rfl hl (Nat.le_of_ble_eq_true rfl) dL_trySimulate_3 ⟨Nat.le_of_ble_eq_true rfl, Nat.le_of_ble_eq_true rfl⟩) ⟨rfl, rfl⟩ rfl rfl (fun E ce9 q9 H locs hE9 hP hD hS hce hvm hcl => ?_) (fun H locs h0 hP hD hS => ?_)
  · rcases htc with h9 | h9
    · rw [h9] at hE9; have hE9 : (none : Option String) = some E := hE9; cases hE9
    · rw [h9] at hE9
      have hE9 : some "java/lang/IllegalArgumentException" = some E := hE9
      cases hE9
      refine vx_catch (E := "java/lang/IllegalArgumentException") (name := "java/lang/IllegalArgumentException") hown [] ⟨0, 6, 7, 13⟩ [] (by rw [htab]; rfl) (fun z hz => absurd hz List.not_mem_nil) (by decide) (by decide) (hts _ (by decide +kernel)) ((hE.1 (.castable "java/lang/IllegalArgumentException" "java/lang/IllegalArgumentException") (by decide +kernel)).use rfl) hce hvm hcl ?_
      refine lv_astore (lv' := [(4, .ref q9), (0, .ref b), (1, .long sd), (3, .int mm)]) hx hb dL_trySimulate_7 hl (by decide) rfl (fun ls hl => ?_)
      refine k_ldc (v := (-999900002)) cx (by decide +kernel) dL_trySimulate_9 ?_
      exact k_iretW (wf := [oBr b tx h ht pa sl fi bf, oSt h o g f, aI G o 6 oh, oLed g k lf, aI G k 80 ce, oSt ht ot gt ft, aI G ot 6 oht, oLed gt kt lft, aI G kt 80 cet]) cx (by rw [h9]; rfl) (by rw [h9]; rfl) hP hS dL_trySimulate_11
  · exact k_iretW (wf := [oBr b tx h ht pa sl fi bf, oSt h o g f, aI G o 6 oh, oLed g k lf, aI G k 80 ce, oSt ht ot gt (u.2.2.1), aI G ot 6 (u.2.2.2.1), oLed gt kt (u.2.2.2.2.1), aI G kt 80 (u.2.2.2.2.2)]) cx (by rw [h0]; rfl) (by rw [h0]; rfl) hP hS dL_trySimulate_6

abbrev rmL_trySave : Room := { frames := 7, cells := 1, slots := 6, locals := 104 }
set_option maxHeartbeats 4000000 in
set_option maxRecDepth 100000 in
theorem c_L_trySave (l : Launch) (hlt : l.stackTraces = false) (G : gG) (b : Nat) (tx : Nat) (h : Nat) (ht : Nat) (pa : Nat) (sl : Nat) (fi : Nat) (o : Nat) (g : Nat) (k : Nat) (h2 : Nat) (o2 : Nat) (g2 : Nat) (k2 : Nat) (bf : Nat → Int32) (sg : Nat → Option Nat) (ff : Nat → Int32) (f : Nat → Int32) (oh : Nat → Int32) (lf : Nat → Int32) (ce : Nat → Int32) (f2 : Nat → Int32) (oh2 : Nat → Int32) (lf2 : Nat → Int32) (ce2 : Nat → Int32) (slt : Int32) (hst : f 9 = 0 ∨ f 9 = 1) (hsl : P_X3_outside slt 0 1 = 0 → P_X3_entry 2 sg slt = some h2) (htc : (P_X3_save bf sg ff f oh lf ce f2 oh2 lf2 ce2 slt).1 = 0 ∨ (P_X3_save bf sg ff f oh lf ce f2 oh2 lf2 ce2 slt).1 = 3) : kL l G yL_trySave wsL_trySave rmL_trySave [.ref b, .int slt] [oBr b tx h ht pa sl fi bf, aS G sl 2 sg, aZ G fi 2 ff, oSt h o g f, aI G o 6 oh, oLed g k lf, aI G k 80 ce, oSt h2 o2 g2 f2, aI G o2 6 oh2, oLed g2 k2 lf2, aI G k2 80 ce2] (qW G (rz (P_X3_save bf sg ff f oh lf ce f2 oh2 lf2 ce2 slt).1 (P_X3_save bf sg ff f oh lf ce f2 oh2 lf2 ce2 slt).2.1) (P_X3_save bf sg ff f oh lf ce f2 oh2 lf2 ce2 slt).1 [oBr b tx h ht pa sl fi bf, aS G sl 2 sg, aZ G fi 2 ((P_X3_save bf sg ff f oh lf ce f2 oh2 lf2 ce2 slt).2.2.1), oSt h o g f, aI G o 6 oh, oLed g k lf, aI G k 80 ce, oSt h2 o2 g2 ((P_X3_save bf sg ff f oh lf ce f2 oh2 lf2 ce2 slt).2.2.2.1), aI G o2 6 ((P_X3_save bf sg ff f oh lf ce f2 oh2 lf2 ce2 slt).2.2.2.2.1), oLed g2 k2 ((P_X3_save bf sg ff f oh lf ce f2 oh2 lf2 ce2 slt).2.2.2.2.2.1), aI G k2 80 ((P_X3_save bf sg ff f oh lf ce f2 oh2 lf2 ce2 slt).2.2.2.2.2.2)] [oBr b tx h ht pa sl fi bf, aS G sl 2 sg, aZ G fi 2 ff, oSt h o g f, aI G o 6 oh, oLed g k lf, aI G k 80 ce, oSt h2 o2 g2 f2, aI G o2 6 oh2, oLed g2 k2 lf2, aI G k2 80 ce2]) := by
  refine k_bodyL (cc := cL_trySave) (nL := 3) (ret := some .int) (hh := [(0, 5, 6, 49)]) (by decide) rfl (Nat.le_of_ble_eq_true rfl) ?_
  intro p e s m args below meth c A cx ct hP hD hS ls hl
  obtain ⟨hx, hb, hml, hown, hts, hr, hlocks, hK, hA⟩ := id cx
  obtain ⟨htab, hE, hN, hZ⟩ := ct
  obtain ⟨H, hH⟩ : ∃ H, H = s.heap := ⟨_, rfl⟩
  obtain ⟨locs, hL⟩ : ∃ locs : List Loc, locs = [] := ⟨_, rfl⟩
  have hS : va_S A s.heap H locs := by rw [hH, hL]; exact hS
  rw [← hH] at hP ⊢
  rw [← hL]
  clear hH hL
  have hl : lv_has ls 3 [(0, .ref b), (1, .int slt)] := hl
  have hC := c_X3_save l hlt G b tx h ht pa sl fi o g k h2 o2 g2 k2 bf sg ff f oh lf ce f2 oh2 lf2 ce2 slt hst hsl
  generalize hu : P_X3_save bf sg ff f oh lf ce f2 oh2 lf2 ce2 slt = u at hC htc ⊢
  refine lv_aload_n hx hb dL_trySave_0 rfl (lv_at hl 0 rfl) ?_
  refine lv_iload_n hx hb dL_trySave_1 rfl (lv_at hl 1 rfl) ?_
  refine k_iX (t := u.1) (r := u.2.1) (ws' := [oBr b tx h ht pa sl fi bf, aS G sl 2 sg, aZ G fi 2 (u.2.2.1), oSt h o g f, aI G o 6 oh, oLed g k lf, aI G k 80 ce, oSt h2 o2 g2 (u.2.2.2.1), aI G o2 6 (u.2.2.2.2.1), oLed g2 k2 (u.2.2.2.2.2.1), aI G k2 80 (u.2.2.2.2.2.2)]) (as := [b, sl, fi, h, o, g, k, h2, o2, g2, k2]) cx hP hD hS [0, 1, 2, 3, 4, 5, 6, 7, 8, 9, 10] rfl (kr_VX (n := 1) (As := [.int slt]) (ci := 3) cx hE hZ hS hC gL_trySave_X3_save rfl rfl rfl (by decide +kernel) ⟨Nat.le_of_ble_eq_true rfl, Nat.le_of_ble_eq_true rfl⟩ rfl rfl rfl hP hD [0, 1, 2, 3, 4, 5, 6, 7, 8, 9, 10] rfl rfl rfl rfl hl (Nat.le_of_ble_eq_true rfl) dL_trySave_2 ⟨Nat.le_of_ble_eq_true rfl, Nat.le_of_ble_eq_true rfl⟩) ⟨rfl, rfl⟩ rfl rfl (fun E ce9 q9 H locs hE9 hP hD hS hce hvm hcl => ?_) (fun H locs h0 hP hD hS => ?_)
  · rcases htc with h9 | h9
    · rw [h9] at hE9; have hE9 : (none : Option String) = some E := hE9; cases hE9
    · rw [h9] at hE9
      have hE9 : some "java/lang/IndexOutOfBoundsException" = some E := hE9
      cases hE9
      refine vx_catch (E := "java/lang/IndexOutOfBoundsException") (name := "java/lang/IndexOutOfBoundsException") hown [] ⟨0, 5, 6, 49⟩ [] (by rw [htab]; rfl) (fun z hz => absurd hz List.not_mem_nil) (by decide) (by decide) (hts _ (by decide +kernel)) ((hE.1 (.castable "java/lang/IndexOutOfBoundsException" "java/lang/IndexOutOfBoundsException") (by decide +kernel)).use rfl) hce hvm hcl ?_
      refine lv_astore_n (lv' := [(2, .ref q9), (0, .ref b), (1, .int slt)]) hx hb dL_trySave_6 rfl hl (by decide) rfl (fun ls hl => ?_)
      refine k_ldc (v := (-999900001)) cx (by decide +kernel) dL_trySave_7 ?_
      exact k_iretW (wf := [oBr b tx h ht pa sl fi bf, aS G sl 2 sg, aZ G fi 2 ff, oSt h o g f, aI G o 6 oh, oLed g k lf, aI G k 80 ce, oSt h2 o2 g2 f2, aI G o2 6 oh2, oLed g2 k2 lf2, aI G k2 80 ce2]) cx (by rw [h9]; rfl) (by rw [h9]; rfl) hP hS dL_trySave_9
  · exact k_iretW (wf := [oBr b tx h ht pa sl fi bf, aS G sl 2 sg, aZ G fi 2 (u.2.2.1), oSt h o g f, aI G o 6 oh, oLed g k lf, aI G k 80 ce, oSt h2 o2 g2 (u.2.2.2.1), aI G o2 6 (u.2.2.2.2.1), oLed g2 k2 (u.2.2.2.2.2.1), aI G k2 80 (u.2.2.2.2.2.2)]) cx (by rw [h0]; rfl) (by rw [h0]; rfl) hP hS dL_trySave_5

abbrev rmL_tryRestore : Room := { frames := 7, cells := 1, slots := 6, locals := 103 }
set_option maxHeartbeats 4000000 in
set_option maxRecDepth 100000 in
theorem c_L_tryRestore (l : Launch) (hlt : l.stackTraces = false) (G : gG) (b : Nat) (tx : Nat) (h : Nat) (ht : Nat) (pa : Nat) (sl : Nat) (fi : Nat) (o : Nat) (g : Nat) (k : Nat) (h2 : Nat) (o2 : Nat) (g2 : Nat) (k2 : Nat) (bf : Nat → Int32) (sg : Nat → Option Nat) (ff : Nat → Int32) (f : Nat → Int32) (oh : Nat → Int32) (lf : Nat → Int32) (ce : Nat → Int32) (f2 : Nat → Int32) (oh2 : Nat → Int32) (lf2 : Nat → Int32) (ce2 : Nat → Int32) (slt : Int32) (hst2 : f2 9 = 0 ∨ f2 9 = 1) (hsl : P_X3_outside slt 0 1 = 0 → P_X3_entry 2 sg slt = some h2) (htc : (P_X3_restore bf sg ff f oh lf ce f2 oh2 lf2 ce2 slt).1 = 0 ∨ (P_X3_restore bf sg ff f oh lf ce f2 oh2 lf2 ce2 slt).1 = 3 ∨ (P_X3_restore bf sg ff f oh lf ce f2 oh2 lf2 ce2 slt).1 = 2) : kL l G yL_tryRestore wsL_tryRestore rmL_tryRestore [.ref b, .int slt] [oBr b tx h ht pa sl fi bf, aS G sl 2 sg, aZ G fi 2 ff, oSt h o g f, aI G o 6 oh, oLed g k lf, aI G k 80 ce, oSt h2 o2 g2 f2, aI G o2 6 oh2, oLed g2 k2 lf2, aI G k2 80 ce2] (qW G (rz (P_X3_restore bf sg ff f oh lf ce f2 oh2 lf2 ce2 slt).1 (P_X3_restore bf sg ff f oh lf ce f2 oh2 lf2 ce2 slt).2.1) (P_X3_restore bf sg ff f oh lf ce f2 oh2 lf2 ce2 slt).1 [oBr b tx h ht pa sl fi ((P_X3_restore bf sg ff f oh lf ce f2 oh2 lf2 ce2 slt).2.2.1), aS G sl 2 sg, aZ G fi 2 ff, oSt h o g ((P_X3_restore bf sg ff f oh lf ce f2 oh2 lf2 ce2 slt).2.2.2.1), aI G o 6 ((P_X3_restore bf sg ff f oh lf ce f2 oh2 lf2 ce2 slt).2.2.2.2.1), oLed g k ((P_X3_restore bf sg ff f oh lf ce f2 oh2 lf2 ce2 slt).2.2.2.2.2.1), aI G k 80 ((P_X3_restore bf sg ff f oh lf ce f2 oh2 lf2 ce2 slt).2.2.2.2.2.2), oSt h2 o2 g2 f2, aI G o2 6 oh2, oLed g2 k2 lf2, aI G k2 80 ce2] [oBr b tx h ht pa sl fi bf, aS G sl 2 sg, aZ G fi 2 ff, oSt h o g f, aI G o 6 oh, oLed g k lf, aI G k 80 ce, oSt h2 o2 g2 f2, aI G o2 6 oh2, oLed g2 k2 lf2, aI G k2 80 ce2]) := by
  refine k_bodyL (cc := cL_tryRestore) (nL := 3) (ret := some .int) (hh := [(0, 5, 6, 49), (0, 5, 10, 16)]) (by decide) rfl (Nat.le_of_ble_eq_true rfl) ?_
  intro p e s m args below meth c A cx ct hP hD hS ls hl
  obtain ⟨hx, hb, hml, hown, hts, hr, hlocks, hK, hA⟩ := id cx
  obtain ⟨htab, hE, hN, hZ⟩ := ct
  obtain ⟨H, hH⟩ : ∃ H, H = s.heap := ⟨_, rfl⟩
  obtain ⟨locs, hL⟩ : ∃ locs : List Loc, locs = [] := ⟨_, rfl⟩
  have hS : va_S A s.heap H locs := by rw [hH, hL]; exact hS
  rw [← hH] at hP ⊢
  rw [← hL]
  clear hH hL
  have hl : lv_has ls 3 [(0, .ref b), (1, .int slt)] := hl
  have hC := c_X3_restore l hlt G b tx h ht pa sl fi o g k h2 o2 g2 k2 bf sg ff f oh lf ce f2 oh2 lf2 ce2 slt hst2 hsl
  generalize hu : P_X3_restore bf sg ff f oh lf ce f2 oh2 lf2 ce2 slt = u at hC htc ⊢
  refine lv_aload_n hx hb dL_tryRestore_0 rfl (lv_at hl 0 rfl) ?_
  refine lv_iload_n hx hb dL_tryRestore_1 rfl (lv_at hl 1 rfl) ?_
  refine k_iX (t := u.1) (r := u.2.1) (ws' := [oBr b tx h ht pa sl fi (u.2.2.1), aS G sl 2 sg, aZ G fi 2 ff, oSt h o g (u.2.2.2.1), aI G o 6 (u.2.2.2.2.1), oLed g k (u.2.2.2.2.2.1), aI G k 80 (u.2.2.2.2.2.2), oSt h2 o2 g2 f2, aI G o2 6 oh2, oLed g2 k2 lf2, aI G k2 80 ce2]) (as := [b, sl, fi, h, o, g, k, h2, o2, g2, k2]) cx hP hD hS [0, 1, 2, 3, 4, 5, 6, 7, 8, 9, 10] rfl (kr_VX (n := 1) (As := [.int slt]) (ci := 3) cx hE hZ hS hC gL_tryRestore_X3_restore rfl rfl rfl (by decide +kernel) ⟨Nat.le_of_ble_eq_true rfl, Nat.le_of_ble_eq_true rfl⟩ rfl rfl rfl hP hD [0, 1, 2, 3, 4, 5, 6, 7, 8, 9, 10] rfl rfl rfl rfl hl (Nat.le_of_ble_eq_true rfl) dL_tryRestore_2 ⟨Nat.le_of_ble_eq_true rfl, Nat.le_of_ble_eq_true rfl⟩) ⟨rfl, rfl⟩ rfl rfl (fun E ce9 q9 H locs hE9 hP hD hS hce hvm hcl => ?_) (fun H locs h0 hP hD hS => ?_)
  · rcases htc with h9 | h9 | h9
    · rw [h9] at hE9; have hE9 : (none : Option String) = some E := hE9; cases hE9
    · rw [h9] at hE9
      have hE9 : some "java/lang/IndexOutOfBoundsException" = some E := hE9
      cases hE9
      refine vx_catch (E := "java/lang/IndexOutOfBoundsException") (name := "java/lang/IndexOutOfBoundsException") hown [] ⟨0, 5, 6, 49⟩ [⟨0, 5, 10, 16⟩] (by rw [htab]; rfl) (fun z hz => absurd hz List.not_mem_nil) (by decide) (by decide) (hts _ (by decide +kernel)) ((hE.1 (.castable "java/lang/IndexOutOfBoundsException" "java/lang/IndexOutOfBoundsException") (by decide +kernel)).use rfl) hce hvm hcl ?_
      refine lv_astore_n (lv' := [(2, .ref q9), (0, .ref b), (1, .int slt)]) hx hb dL_tryRestore_6 rfl hl (by decide) rfl (fun ls hl => ?_)
      refine k_ldc (v := (-999900001)) cx (by decide +kernel) dL_tryRestore_7 ?_
      exact k_iretW (wf := [oBr b tx h ht pa sl fi bf, aS G sl 2 sg, aZ G fi 2 ff, oSt h o g f, aI G o 6 oh, oLed g k lf, aI G k 80 ce, oSt h2 o2 g2 f2, aI G o2 6 oh2, oLed g2 k2 lf2, aI G k2 80 ce2]) cx (by rw [h9]; rfl) (by rw [h9]; rfl) hP hS dL_tryRestore_9
    · rw [h9] at hE9
      have hE9 : some "java/lang/IllegalStateException" = some E := hE9
      cases hE9
      refine vx_catch (E := "java/lang/IllegalStateException") (name := "java/lang/IllegalStateException") hown [⟨0, 5, 6, 49⟩] ⟨0, 5, 10, 16⟩ [] (by rw [htab]; rfl) (fun z hz => by rw [List.mem_singleton.mp hz]; exact Or.inr ⟨by decide, "java/lang/IndexOutOfBoundsException", hts _ (by decide +kernel), hN.2⟩) (by decide) (by decide) (hts _ (by decide +kernel)) ((hE.1 (.castable "java/lang/IllegalStateException" "java/lang/IllegalStateException") (by decide +kernel)).use rfl) hce hvm hcl ?_
      refine lv_astore_n (lv' := [(2, .ref q9), (0, .ref b), (1, .int slt)]) hx hb dL_tryRestore_10 rfl hl (by decide) rfl (fun ls hl => ?_)
      refine k_ldc (v := (-999900003)) cx (by decide +kernel) dL_tryRestore_11 ?_
      exact k_iretW (wf := [oBr b tx h ht pa sl fi bf, aS G sl 2 sg, aZ G fi 2 ff, oSt h o g f, aI G o 6 oh, oLed g k lf, aI G k 80 ce, oSt h2 o2 g2 f2, aI G o2 6 oh2, oLed g2 k2 lf2, aI G k2 80 ce2]) cx (by rw [h9]; rfl) (by rw [h9]; rfl) hP hS dL_tryRestore_13
  · exact k_iretW (wf := [oBr b tx h ht pa sl fi (u.2.2.1), aS G sl 2 sg, aZ G fi 2 ff, oSt h o g (u.2.2.2.1), aI G o 6 (u.2.2.2.2.1), oLed g k (u.2.2.2.2.2.1), aI G k 80 (u.2.2.2.2.2.2), oSt h2 o2 g2 f2, aI G o2 6 oh2, oLed g2 k2 lf2, aI G k2 80 ce2]) cx (by rw [h0]; rfl) (by rw [h0]; rfl) hP hS dL_tryRestore_5

