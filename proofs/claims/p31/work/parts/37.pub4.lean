/-! X3_balanced -/
theorem hi_X3_balanced_1 : ∀ w ∈ u_ws RX1 TX1 16, w ∈ wsX3_balanced := by decide +kernel
theorem hi_X3_balanced_3 : ∀ w ∈ u_ws RX3 TX3 8, w ∈ wsX3_balanced := by decide +kernel
abbrev rm_X3_balanced : Room := { frames := 6, cells := 1, slots := 6, locals := 113 }
abbrev Q_X3_balanced (G : gG) (b : Nat) (tx : Nat) (h : Nat) (ht : Nat) (pa : Nat) (sl : Nat) (fi : Nat) (o : Nat) (g : Nat) (k : Nat) (ot : Nat) (gt : Nat) (kt : Nat) (w0 : va_W)  (bf : Nat → Int32) (f : Nat → Int32) (oh : Nat → Int32) (lf : Nat → Int32) (ce : Nat → Int32) (tgt : Int32 × Int32 × (Nat → Int32) × (Nat → Int32) × (Nat → Int32) × (Nat → Int32)) (below : List Frame) (args : Array Value) (s : State) (A : Nat → Prop) : State → Prop := vx_MQ below (qX G tgt.1 tgt.2.1 [oBr b tx h ht pa sl fi bf, oSt h o g f, aI G o 6 oh, oLed g k lf, aI G k 80 ce, oSt ht ot gt tgt.2.2.1, aI G ot 6 tgt.2.2.2.1, oLed gt kt tgt.2.2.2.2.1, aI G kt 80 tgt.2.2.2.2.2] A) (xX G tgt.1 w0 A) args s 1 6 A
def P_X3_balanced (bf : Nat → Int32) (f : Nat → Int32) (oh : Nat → Int32) (lf : Nat → Int32) (ce : Nat → Int32) (ft : Nat → Int32) (oht : Nat → Int32) (lft : Nat → Int32) (cet : Nat → Int32) (what : Int32) : Int32 × Int32 × (Nat → Int32) × (Nat → Int32) × (Nat → Int32) × (Nat → Int32) := (if (P_X3_outside what 0 3) = 0 then (let u27 := P_X1_copyFrom ft oht lft cet f oh lf ce; let u42 := P_X1_balanceBox (upd u27.1 9 0) u27.2.1 u27.2.2.1 u27.2.2.2; (if what = 0 then (0, (u42.1 2), u42.1, u27.2.1, u42.2.1, u42.2.2) else if what = 1 then (0, ((u42.1 10) - (f 10)), u42.1, u27.2.1, u42.2.1, u42.2.2) else if what = 2 then (0, (u42.1 7), u42.1, u27.2.1, u42.2.1, u42.2.2) else (if (u42.1 9) = 0 then (0, 0, u42.1, u27.2.1, u42.2.1, u42.2.2) else (0, 1, u42.1, u27.2.1, u42.2.1, u42.2.2)))) else (1, 0, ft, oht, lft, cet))
set_option maxHeartbeats 4000000 in
set_option maxRecDepth 100000 in
theorem c_X3_balanced (l : Launch) (hlt : l.stackTraces = false) (G : gG) (b : Nat) (tx : Nat) (h : Nat) (ht : Nat) (pa : Nat) (sl : Nat) (fi : Nat) (o : Nat) (g : Nat) (k : Nat) (ot : Nat) (gt : Nat) (kt : Nat) (bf : Nat → Int32) (f : Nat → Int32) (oh : Nat → Int32) (lf : Nat → Int32) (ce : Nat → Int32) (ft : Nat → Int32) (oht : Nat → Int32) (lft : Nat → Int32) (cet : Nat → Int32) (what : Int32) (hst : f 9 = 0 ∨ f 9 = 1) : kX l G yX3_balanced wsX3_balanced rm_X3_balanced [.ref b, .int what] [oBr b tx h ht pa sl fi bf, oSt h o g f, aI G o 6 oh, oLed g k lf, aI G k 80 ce, oSt ht ot gt ft, aI G ot 6 oht, oLed gt kt lft, aI G kt 80 cet] (qX G ((P_X3_balanced bf f oh lf ce ft oht lft cet what).1) ((P_X3_balanced bf f oh lf ce ft oht lft cet what).2.1) [oBr b tx h ht pa sl fi bf, oSt h o g f, aI G o 6 oh, oLed g k lf, aI G k 80 ce, oSt ht ot gt ((P_X3_balanced bf f oh lf ce ft oht lft cet what).2.2.1), aI G ot 6 ((P_X3_balanced bf f oh lf ce ft oht lft cet what).2.2.2.1), oLed gt kt ((P_X3_balanced bf f oh lf ce ft oht lft cet what).2.2.2.2.1), aI G kt 80 ((P_X3_balanced bf f oh lf ce ft oht lft cet what).2.2.2.2.2)]) (xX G ((P_X3_balanced bf f oh lf ce ft oht lft cet what).1) [oBr b tx h ht pa sl fi bf, oSt h o g f, aI G o 6 oh, oLed g k lf, aI G k 80 ce, oSt ht ot gt ft, aI G ot 6 oht, oLed gt kt lft, aI G kt 80 cet]) := by
  refine k_bodyX (cc := cX3_balanced) (nL := 2) (ret := (some .int)) hlt (by decide) rfl (Nat.le_of_ble_eq_true rfl) ?_
  intro p e s m args below meth c A cx ct hP hD hS ls hl
  obtain ⟨hx, hb, hml, hown, hts, hr, hlocks, hK, hA⟩ := id cx
  obtain ⟨H, hH⟩ : ∃ H, H = s.heap := ⟨_, rfl⟩
  obtain ⟨locs, hL⟩ : ∃ locs : List Loc, locs = [] := ⟨_, rfl⟩
  obtain ⟨tgt, hq⟩ : ∃ tgt, (P_X3_balanced bf f oh lf ce ft oht lft cet what) = tgt := ⟨_, rfl⟩
  obtain ⟨w0, hw0⟩ : ∃ w0 : va_W, w0 = [oBr b tx h ht pa sl fi bf, oSt h o g f, aI G o 6 oh, oLed g k lf, aI G k 80 ce, oSt ht ot gt ft, aI G ot 6 oht, oLed gt kt lft, aI G kt 80 cet] := ⟨_, rfl⟩
  have hS : va_S A s.heap H locs := by rw [hH, hL]; exact hS
  rw [← hH] at hP
  have hl : lv_has ls 2 [(0, .ref b), (1, .int what)] := hl
  have key : ∀ (H : Heap) (locs : List Loc), va_P G.1 vwCl [oBr b tx h ht pa sl fi bf, oSt h o g f, aI G o 6 oh, oLed g k lf, aI G k 80 ce, oSt ht ot gt ft, aI G ot 6 oht, oLed gt kt lft, aI G kt 80 cet] H → va_D A [oBr b tx h ht pa sl fi bf, oSt h o g f, aI G o 6 oh, oLed g k lf, aI G k 80 ce, oSt ht ot gt ft, aI G ot 6 oht, oLed gt kt lft, aI G kt 80 cet] → va_S A s.heap H locs → W p l e rm_X3_balanced s m args below meth c H locs 0 0 (Q_X3_balanced G b tx h ht pa sl fi o g k ot gt kt w0 bf f oh lf ce tgt below args s A) (F0 m 0 ls []) := by
    clear hP hD hS hH hL
    intro H locs hP hD hS
    unfold P_X3_balanced at hq
    refine lv_iload_n hx hb dX3_balanced_0 rfl (lv_at hl 1 rfl) ?_
    refine lv_iconst (v := 0) hx hb dX3_balanced_1 (by decide) ?_
    refine lv_iconst (v := 3) hx hb dX3_balanced_2 (by decide) ?_
    have hC := c_X3_outside l G what 0 3
    refine k_i (ws' := [oBr b tx h ht pa sl fi bf, oSt h o g f, aI G o 6 oh, oLed g k lf, aI G k 80 ce, oSt ht ot gt ft, aI G ot 6 oht, oLed gt kt lft, aI G kt 80 cet]) (as := []) cx hP hD hS [] rfl (kr_S (n := 3) (As := [.int what, .int 0, .int 3]) cx hC gX3_balanced_X3_outside rfl rfl rfl (by decide +kernel) ⟨Nat.le_of_ble_eq_true rfl, Nat.le_of_ble_eq_true rfl⟩ hP hD [] rfl rfl rfl rfl hl (Nat.le_of_ble_eq_true rfl) dX3_balanced_3 ⟨Nat.zero_le _, Nat.zero_le _⟩) ⟨rfl, rfl⟩ rfl (fun H locs hP hD hS => ?_)
    refine lv_if_eq (tgt := 19) hx hb dX3_balanced_6 (by decide) (fun c_6 => ?_) (fun c_6 => ?_)
    · replace hq := (if_pos c_6).symm.trans hq
      refine lv_aload_n hx hb dX3_balanced_19 rfl (lv_at hl 0 rfl) ?_
      refine k_get (v := .ref ht) (T := TX3) (C := RX3) (N := 8) cx hi_X3_balanced_3 hP 0 rfl rfl 2 (by decide) (by decide +kernel) rfl dX3_balanced_20 ?_
      refine lv_aload_n hx hb dX3_balanced_23 rfl (lv_at hl 0 rfl) ?_
      refine k_get (v := .ref h) (T := TX3) (C := RX3) (N := 8) cx hi_X3_balanced_3 hP 0 rfl rfl 1 (by decide) (by decide +kernel) rfl dX3_balanced_24 ?_
      have hC := c_X1_copyFrom l G ht ot gt kt h o g k ft oht lft cet f oh lf ce (hst)
      generalize hu27 : P_X1_copyFrom ft oht lft cet f oh lf ce = u27 at hC hq
      refine k_v (ws' := [oBr b tx h ht pa sl fi bf, oSt h o g f, aI G o 6 oh, oLed g k lf, aI G k 80 ce, oSt ht ot gt u27.1, aI G ot 6 u27.2.1, oLed gt kt u27.2.2.1, aI G kt 80 u27.2.2.2]) (as := [ht, ot, gt, kt, h, o, g, k]) cx hP hD hS [5, 6, 7, 8, 1, 2, 3, 4] rfl (kr_VN (n := 1) (As := [.ref h]) (ci := 1) cx hC gX3_balanced_X1_copyFrom_n181 rfl rfl rfl nn_X3_181 (by decide +kernel) (by decide +kernel) (by decide +kernel) (by decide +kernel) ⟨Nat.le_of_ble_eq_true rfl, Nat.le_of_ble_eq_true rfl⟩ rfl rfl rfl hP hD [5, 6, 7, 8, 1, 2, 3, 4] rfl rfl rfl rfl hl (Nat.le_of_ble_eq_true rfl) dX3_balanced_27 ⟨Nat.zero_le _, Nat.zero_le _⟩) ⟨rfl, rfl⟩ rfl (fun H locs hP hD hS => ?_)
      refine lv_aload_n hx hb dX3_balanced_30 rfl (lv_at hl 0 rfl) ?_
      refine k_get (v := .ref ht) (T := TX3) (C := RX3) (N := 8) cx hi_X3_balanced_3 hP 0 rfl rfl 2 (by decide) (by decide +kernel) rfl dX3_balanced_31 ?_
      refine lv_iconst (v := 0) hx hb dX3_balanced_34 (by decide) ?_
      refine k_putN (ws' := [oBr b tx h ht pa sl fi bf, oSt h o g f, aI G o 6 oh, oLed g k lf, aI G k 80 ce, oSt ht ot gt (upd u27.1 9 0), aI G ot 6 u27.2.1, oLed gt kt u27.2.2.1, aI G kt 80 u27.2.2.2]) (ty := .boolean) (T := TX1) (C := RX1) (N := 16) (host := RX3) cx hi_X3_balanced_1 tyX1_ok nmX1 hP hD hS 5 rfl rfl 9 (by decide) nn_X3_112 rfl rfl rfl rfl (Nat.le_of_ble_eq_true rfl) rfl dX3_balanced_35 (fun H locs hP hD hS => ?_)
      refine lv_aload_n hx hb dX3_balanced_38 rfl (lv_at hl 0 rfl) ?_
      refine k_get (v := .ref ht) (T := TX3) (C := RX3) (N := 8) cx hi_X3_balanced_3 hP 0 rfl rfl 2 (by decide) (by decide +kernel) rfl dX3_balanced_39 ?_
      have hC := c_X1_balanceBox l G ht ot gt kt (upd u27.1 9 0) u27.2.1 u27.2.2.1 u27.2.2.2
      replace hq := k_let hq
      generalize hu42 : P_X1_balanceBox (upd u27.1 9 0) u27.2.1 u27.2.2.1 u27.2.2.2 = u42 at hC hq
      refine k_v (ws' := [oBr b tx h ht pa sl fi bf, oSt h o g f, aI G o 6 oh, oLed g k lf, aI G k 80 ce, oSt ht ot gt u42.1, aI G ot 6 u27.2.1, oLed gt kt u42.2.1, aI G kt 80 u42.2.2]) (as := [ht, ot, gt, kt]) cx hP hD hS [5, 6, 7, 8] rfl (kr_VN (n := 0) (As := []) (ci := 1) cx hC gX3_balanced_X1_balanceBox_n166 rfl rfl rfl nn_X3_166 (by decide +kernel) (by decide +kernel) (by decide +kernel) (by decide +kernel) ⟨Nat.le_of_ble_eq_true rfl, Nat.le_of_ble_eq_true rfl⟩ rfl rfl rfl hP hD [5, 6, 7, 8] rfl rfl rfl rfl hl (Nat.le_of_ble_eq_true rfl) dX3_balanced_42 ⟨Nat.zero_le _, Nat.zero_le _⟩) ⟨rfl, rfl⟩ rfl (fun H locs hP hD hS => ?_)
      refine lv_iload_n hx hb dX3_balanced_45 rfl (lv_at hl 1 rfl) ?_
      by_cases c_46_0 : what = 0
      · replace hq := (if_pos c_46_0).symm.trans hq
        refine lv_tableIn (tgt := 72) (off := 26) hx hb dX3_balanced_46 (sw_lo c_46_0 (by decide)) (sw_hi c_46_0 (by decide)) (sw_at c_46_0 (by decide)) (by decide) ?_
        refine lv_aload_n hx hb dX3_balanced_72 rfl (lv_at hl 0 rfl) ?_
        refine k_get (v := .ref ht) (T := TX3) (C := RX3) (N := 8) cx hi_X3_balanced_3 hP 0 rfl rfl 2 (by decide) (by decide +kernel) rfl dX3_balanced_73 ?_
        refine k_getN (v := .int (u42.1 2)) (T := TX1) (C := RX1) (N := 16) (host := RX3) cx hi_X3_balanced_1 hP 5 rfl rfl 2 (by decide) nn_X3_97 rfl dX3_balanced_76 ?_
        subst hq
        exact k_iretX cx rfl hP hS dX3_balanced_79
      replace hq := (if_neg c_46_0).symm.trans hq
      by_cases c_46_1 : what = 1
      · replace hq := (if_pos c_46_1).symm.trans hq
        refine lv_tableIn (tgt := 80) (off := 34) hx hb dX3_balanced_46 (sw_lo c_46_1 (by decide)) (sw_hi c_46_1 (by decide)) (sw_at c_46_1 (by decide)) (by decide) ?_
        refine lv_aload_n hx hb dX3_balanced_80 rfl (lv_at hl 0 rfl) ?_
        refine k_get (v := .ref ht) (T := TX3) (C := RX3) (N := 8) cx hi_X3_balanced_3 hP 0 rfl rfl 2 (by decide) (by decide +kernel) rfl dX3_balanced_81 ?_
        refine k_getN (v := .int (u42.1 10)) (T := TX1) (C := RX1) (N := 16) (host := RX3) cx hi_X3_balanced_1 hP 5 rfl rfl 10 (by decide) nn_X3_238 rfl dX3_balanced_84 ?_
        refine lv_aload_n hx hb dX3_balanced_87 rfl (lv_at hl 0 rfl) ?_
        refine k_get (v := .ref h) (T := TX3) (C := RX3) (N := 8) cx hi_X3_balanced_3 hP 0 rfl rfl 1 (by decide) (by decide +kernel) rfl dX3_balanced_88 ?_
        refine k_getN (v := .int (f 10)) (T := TX1) (C := RX1) (N := 16) (host := RX3) cx hi_X3_balanced_1 hP 1 rfl rfl 10 (by decide) nn_X3_238 rfl dX3_balanced_91 ?_
        refine lv_isub hx hb dX3_balanced_94 ?_
        subst hq
        exact k_iretX cx rfl hP hS dX3_balanced_95
      replace hq := (if_neg c_46_1).symm.trans hq
      by_cases c_46_2 : what = 2
      · replace hq := (if_pos c_46_2).symm.trans hq
        refine lv_tableIn (tgt := 96) (off := 50) hx hb dX3_balanced_46 (sw_lo c_46_2 (by decide)) (sw_hi c_46_2 (by decide)) (sw_at c_46_2 (by decide)) (by decide) ?_
        refine lv_aload_n hx hb dX3_balanced_96 rfl (lv_at hl 0 rfl) ?_
        refine k_get (v := .ref ht) (T := TX3) (C := RX3) (N := 8) cx hi_X3_balanced_3 hP 0 rfl rfl 2 (by decide) (by decide +kernel) rfl dX3_balanced_97 ?_
        refine k_getN (v := .int (u42.1 7)) (T := TX1) (C := RX1) (N := 16) (host := RX3) cx hi_X3_balanced_1 hP 5 rfl rfl 7 (by decide) nn_X3_219 rfl dX3_balanced_100 ?_
        subst hq
        exact k_iretX cx rfl hP hS dX3_balanced_103
      replace hq := (if_neg c_46_2).symm.trans hq
      have e0 := lv_neT (a := 0) c_46_0 (by decide)
      have e1 := lv_neT (a := 1) c_46_1 (by decide)
      have e2 := lv_neT (a := 2) c_46_2 (by decide)
      refine lv_tableOut (tgt := 104) hx hb dX3_balanced_46 (by omega) (by decide) ?_
      refine lv_aload_n hx hb dX3_balanced_104 rfl (lv_at hl 0 rfl) ?_
      refine k_get (v := .ref ht) (T := TX3) (C := RX3) (N := 8) cx hi_X3_balanced_3 hP 0 rfl rfl 2 (by decide) (by decide +kernel) rfl dX3_balanced_105 ?_
      refine k_getN (v := .int (u42.1 9)) (T := TX1) (C := RX1) (N := 16) (host := RX3) cx hi_X3_balanced_1 hP 5 rfl rfl 9 (by decide) nn_X3_112 rfl dX3_balanced_108 ?_
      refine lv_if_eq (tgt := 118) hx hb dX3_balanced_111 (by decide) (fun c_111 => ?_) (fun c_111 => ?_)
      · replace hq := (if_pos c_111).symm.trans hq
        refine lv_iconst (v := 0) hx hb dX3_balanced_118 (by decide) ?_
        subst hq
        exact k_iretX cx rfl hP hS dX3_balanced_119
      · replace hq := (if_neg c_111).symm.trans hq
        refine lv_iconst (v := 1) hx hb dX3_balanced_114 (by decide) ?_
        refine lv_goto (tgt := 119) hx hb dX3_balanced_115 (by decide) ?_
        subst hq
        exact k_iretX cx rfl hP hS dX3_balanced_119
    · replace hq := (if_neg c_6).symm.trans hq
      subst hq
      exact k_thrS (cls := "java/lang/IllegalArgumentException") (tx := "what is not 0 to 3") (r := 0) (ws := [oBr b tx h ht pa sl fi bf, oSt h o g f, aI G o 6 oh, oLed g k lf, aI G k 80 ce, oSt ht ot gt ft, aI G ot 6 oht, oLed gt kt lft, aI G kt 80 cet]) (w0 := w0) cx ct (by decide +kernel) ⟨by decide +kernel, by decide +kernel⟩ (by decide +kernel) (fun w h => List.mem_cons_of_mem _ (List.mem_append_right _ h)) e1_45 e2_41_45 rfl (by rw [hw0]; exact hP) hS hl ⟨Nat.le_of_ble_eq_true rfl, Nat.le_of_ble_eq_true rfl, Nat.le_of_ble_eq_true rfl, Nat.le_of_ble_eq_true rfl⟩ dX3_balanced_9 dX3_balanced_12 dX3_balanced_13 dX3_balanced_15 dX3_balanced_18
  subst hL
  subst hH
  subst hq
  subst hw0
  exact key _ _ hP hD hS

/-! X3_runScript -/
theorem hi_X3_runScript_3 : ∀ w ∈ u_ws RX3 TX3 8, w ∈ wsX3_runScript := by decide +kernel
abbrev rm_X3_runScript : Room := { frames := 6, cells := 1, slots := 6, locals := 138 }
abbrev Q_X3_runScript (G : gG) (b : Nat) (tx : Nat) (h : Nat) (ht : Nat) (pa : Nat) (sl : Nat) (fi : Nat) (o : Nat) (g : Nat) (k : Nat) (ot : Nat) (gt : Nat) (kt : Nat) (w0 : va_W)  (bf : Nat → Int32) (f : Nat → Int32) (oh : Nat → Int32) (lf : Nat → Int32) (ce : Nat → Int32) (tgt : Int32 × Int32 × (Nat → Int32) × (Nat → Int32) × (Nat → Int32) × (Nat → Int32)) (below : List Frame) (args : Array Value) (s : State) (A : Nat → Prop) : State → Prop := vx_MQ below (qX G tgt.1 tgt.2.1 [oBr b tx h ht pa sl fi bf, oSt h o g f, aI G o 6 oh, oLed g k lf, aI G k 80 ce, oSt ht ot gt tgt.2.2.1, aI G ot 6 tgt.2.2.2.1, oLed gt kt tgt.2.2.2.2.1, aI G kt 80 tgt.2.2.2.2.2] A) (xX G tgt.1 w0 A) args s 1 6 A
def P_X3_runScript_59 (bf : Nat → Int32) (f : Nat → Int32) (oh : Nat → Int32) (lf : Nat → Int32) (ce : Nat → Int32) (nn : Int32) (sc : Int64) : Nat → Int32 → (Nat → Int32) → (Nat → Int32) → (Nat → Int32) → (Nat → Int32) → Int32 × Int32 × (Nat → Int32) × (Nat → Int32) × (Nat → Int32) × (Nat → Int32)
  | 0, _, _, _, _, _ => (0, 0, (fun _ => 0), (fun _ => 0), (fun _ => 0), (fun _ => 0))
  | n + 1, v4, ft, oht, lft, cet => (if nn ≤ v4 then (0, (-9999), ft, oht, lft, cet) else (let u81 := P_X3_succeeds bf ft oht lft cet ((((P_X3_withoutLast sc ((nn - 1) - v4)) - (P_X3_withoutLast sc ((nn - 1) - v4)) / 100000 * 100000)).toInt32); (if u81.1 = 0 then (0, v4, u81.2.1, oht, u81.2.2.1, u81.2.2.2) else (P_X3_runScript_59 bf f oh lf ce nn sc n (v4 + 1) u81.2.1 oht u81.2.2.1 u81.2.2.2))))
set_option maxHeartbeats 4000000 in
set_option maxRecDepth 100000 in
theorem b_X3_runScript_59 {p : Program} {l : Launch} {e : Env} {s : State} {m : MethodId} {args : Array Value} {below : List Frame} {meth : Method} {c : Code} {G : gG} {A : Nat → Prop} (cx : Cx p s m args meth c cX3_runScript 5 yX3_runScript.cls wsX3_runScript (some .int) G A) (b : Nat) (tx : Nat) (h : Nat) (ht : Nat) (pa : Nat) (sl : Nat) (fi : Nat) (o : Nat) (g : Nat) (k : Nat) (ot : Nat) (gt : Nat) (kt : Nat) (w0 : va_W) (bf : Nat → Int32) (f : Nat → Int32) (oh : Nat → Int32) (lf : Nat → Int32) (ce : Nat → Int32) (nn : Int32) (sc : Int64) (hst : f 9 = 0 ∨ f 9 = 1)  (tgt : Int32 × Int32 × (Nat → Int32) × (Nat → Int32) × (Nat → Int32) × (Nat → Int32)) : ∀ (n : Nat) (v4 : Int32) (ft : Nat → Int32) (oht : Nat → Int32) (lft : Nat → Int32) (cet : Nat → Int32) (h0 : ¬ v4 < 0) (hm : ((nn).toInt - (v4 : Int32).toInt).toNat < n) (hq : P_X3_runScript_59  bf f oh lf ce nn sc n v4 ft oht lft cet = tgt) (H : Heap) (locs : List Loc) (hP : va_P G.1 vwCl [oBr b tx h ht pa sl fi bf, oSt h o g f, aI G o 6 oh, oLed g k lf, aI G k 80 ce, oSt ht ot gt ft, aI G ot 6 oht, oLed gt kt lft, aI G kt 80 cet] H) (hD : va_D A [oBr b tx h ht pa sl fi bf, oSt h o g f, aI G o 6 oh, oLed g k lf, aI G k 80 ce, oSt ht ot gt ft, aI G ot 6 oht, oLed gt kt lft, aI G kt 80 cet]) (hS : va_S A s.heap H locs) (ls : Array Slot) (hl : lv_has ls 5 [(0, .ref b), (1, .int nn), (2, .long sc), (4, .int v4)]), W p l e rm_X3_runScript s m args below meth c H locs 0 0 (Q_X3_runScript G b tx h ht pa sl fi o g k ot gt kt w0 bf f oh lf ce tgt below args s A) (F0 m 59 ls []) := by
  obtain ⟨hx, hb, hml, hown, hts, hr, hlocks, hK, hA⟩ := id cx
  intro n
  induction n with
  | zero => intros; omega
  | succ n ih =>
    intro v4 ft oht lft cet h0 hm hq H locs hP hD hS ls hl
    unfold P_X3_runScript_59 at hq
    refine lv_iload hx hb dX3_runScript_59 (lv_at hl 3 rfl) ?_
    refine lv_iload_n hx hb dX3_runScript_61 rfl (lv_at hl 1 rfl) ?_
    refine lv_icmp_ge (tgt := 96) hx hb dX3_runScript_62 (by decide) (fun c_62 => ?_) (fun c_62 => ?_)
    · replace hq := (if_pos c_62).symm.trans hq
      refine lv_sipush (v := (-9999)) hx hb dX3_runScript_96 (by decide) ?_
      subst hq
      exact k_iretX cx rfl hP hS dX3_runScript_99
    · replace hq := (if_neg c_62).symm.trans hq
      refine lv_aload_n hx hb dX3_runScript_65 rfl (lv_at hl 0 rfl) ?_
      refine lv_lload_n hx hb dX3_runScript_66 rfl (lv_at hl 2 rfl) ?_
      refine lv_iload_n hx hb dX3_runScript_67 rfl (lv_at hl 1 rfl) ?_
      refine lv_iconst (v := 1) hx hb dX3_runScript_68 (by decide) ?_
      refine lv_isub hx hb dX3_runScript_69 ?_
      refine lv_iload hx hb dX3_runScript_70 (lv_at hl 3 rfl) ?_
      refine lv_isub hx hb dX3_runScript_72 ?_
      have hC := c_X3_withoutLast l G sc ((nn - 1) - v4)
      refine k_l (ws' := [oBr b tx h ht pa sl fi bf, oSt h o g f, aI G o 6 oh, oLed g k lf, aI G k 80 ce, oSt ht ot gt ft, aI G ot 6 oht, oLed gt kt lft, aI G kt 80 cet]) (as := []) cx hP hD hS [] rfl (kr_S (n := 2) (As := [.long sc, .int ((nn - 1) - v4)]) cx hC gX3_runScript_X3_withoutLast rfl rfl rfl (by decide +kernel) ⟨Nat.le_of_ble_eq_true rfl, Nat.le_of_ble_eq_true rfl⟩ hP hD [] rfl rfl rfl rfl hl (Nat.le_of_ble_eq_true rfl) dX3_runScript_73 ⟨Nat.zero_le _, Nat.zero_le _⟩) ⟨rfl, rfl⟩ rfl (fun H locs hP hD hS => ?_)
      refine k_ldc2 (v := 100000) cx (by decide +kernel) dX3_runScript_76 ?_
      refine lv_lrem hx hb dX3_runScript_79 (by decide) ?_
      refine lv_l2i hx hb dX3_runScript_80 rfl ?_
      have hC := c_X3_succeeds l G b tx h ht pa sl fi ot gt kt bf ft oht lft cet ((((P_X3_withoutLast sc ((nn - 1) - v4)) - (P_X3_withoutLast sc ((nn - 1) - v4)) / 100000 * 100000)).toInt32)
      generalize hu81 : P_X3_succeeds bf ft oht lft cet ((((P_X3_withoutLast sc ((nn - 1) - v4)) - (P_X3_withoutLast sc ((nn - 1) - v4)) / 100000 * 100000)).toInt32) = u81 at hC hq
      refine k_i (ws' := [oBr b tx h ht pa sl fi bf, oSt h o g f, aI G o 6 oh, oLed g k lf, aI G k 80 ce, oSt ht ot gt u81.2.1, aI G ot 6 oht, oLed gt kt u81.2.2.1, aI G kt 80 u81.2.2.2]) (as := [b, ht, ot, gt, kt]) cx hP hD hS [0, 5, 6, 7, 8] rfl (kr_V (n := 1) (As := [.int (((P_X3_withoutLast sc ((nn - 1) - v4)) - (P_X3_withoutLast sc ((nn - 1) - v4)) / 100000 * 100000)).toInt32]) (ci := 3) cx hC gX3_runScript_X3_succeeds rfl rfl rfl (by decide +kernel) ⟨Nat.le_of_ble_eq_true rfl, Nat.le_of_ble_eq_true rfl⟩ rfl rfl rfl hP hD [0, 5, 6, 7, 8] rfl rfl rfl rfl hl (Nat.le_of_ble_eq_true rfl) dX3_runScript_81 ⟨Nat.zero_le _, Nat.zero_le _⟩) ⟨rfl, rfl⟩ rfl (fun H locs hP hD hS => ?_)
      refine lv_if_ne (tgt := 90) hx hb dX3_runScript_84 (by decide) (fun c_84 => ?_) (fun c_84 => ?_)
      · replace hq := (if_neg c_84).symm.trans hq
        refine lv_iinc (v := (v4 + 1)) (lv' := [(4, .int (v4 + 1)), (0, .ref b), (1, .int nn), (2, .long sc)]) hx hb dX3_runScript_90 hl (k := 3) rfl rfl (by decide) rfl (fun ls hl => ?_)
        refine lv_goto (tgt := 59) hx hb dX3_runScript_93 (by decide) ?_
        exact ih (v4 + 1) u81.2.1 oht u81.2.2.1 u81.2.2.2 (nn_inc h0 (N := nn) (by assumption)) (by have hmd := mu_up (N := nn) (by assumption); omega) hq H locs hP hD hS _ (lv_sub hl [1, 2, 3, 0] rfl)
      · replace hq := (if_pos c_84).symm.trans hq
        refine lv_iload hx hb dX3_runScript_87 (lv_at hl 3 rfl) ?_
        subst hq
        exact k_iretX cx rfl hP hS dX3_runScript_89
def P_X3_runScript (bf : Nat → Int32) (f : Nat → Int32) (oh : Nat → Int32) (lf : Nat → Int32) (ce : Nat → Int32) (ft : Nat → Int32) (oht : Nat → Int32) (lft : Nat → Int32) (cet : Nat → Int32) (nn : Int32) (sc : Int64) : Int32 × Int32 × (Nat → Int32) × (Nat → Int32) × (Nat → Int32) × (Nat → Int32) := (if (P_X3_outside nn 1 3) = 0 then (if (lg_cmp sc 0) < 0 then (1, 0, ft, oht, lft, cet) else (if (lg_cmp (P_X3_withoutLast sc nn) 0) = 0 then (let u53 := P_X1_copyFrom ft oht lft cet f oh lf ce; (P_X3_runScript_59 bf f oh lf ce nn sc (((nn).toInt - (0 : Int32).toInt).toNat + 1) 0 u53.1 u53.2.1 u53.2.2.1 u53.2.2.2)) else (1, 0, ft, oht, lft, cet))) else (1, 0, ft, oht, lft, cet))
set_option maxHeartbeats 4000000 in
set_option maxRecDepth 100000 in
theorem c_X3_runScript (l : Launch) (hlt : l.stackTraces = false) (G : gG) (b : Nat) (tx : Nat) (h : Nat) (ht : Nat) (pa : Nat) (sl : Nat) (fi : Nat) (o : Nat) (g : Nat) (k : Nat) (ot : Nat) (gt : Nat) (kt : Nat) (bf : Nat → Int32) (f : Nat → Int32) (oh : Nat → Int32) (lf : Nat → Int32) (ce : Nat → Int32) (ft : Nat → Int32) (oht : Nat → Int32) (lft : Nat → Int32) (cet : Nat → Int32) (nn : Int32) (sc : Int64) (hst : f 9 = 0 ∨ f 9 = 1) : kX l G yX3_runScript wsX3_runScript rm_X3_runScript [.ref b, .int nn, .long sc] [oBr b tx h ht pa sl fi bf, oSt h o g f, aI G o 6 oh, oLed g k lf, aI G k 80 ce, oSt ht ot gt ft, aI G ot 6 oht, oLed gt kt lft, aI G kt 80 cet] (qX G ((P_X3_runScript bf f oh lf ce ft oht lft cet nn sc).1) ((P_X3_runScript bf f oh lf ce ft oht lft cet nn sc).2.1) [oBr b tx h ht pa sl fi bf, oSt h o g f, aI G o 6 oh, oLed g k lf, aI G k 80 ce, oSt ht ot gt ((P_X3_runScript bf f oh lf ce ft oht lft cet nn sc).2.2.1), aI G ot 6 ((P_X3_runScript bf f oh lf ce ft oht lft cet nn sc).2.2.2.1), oLed gt kt ((P_X3_runScript bf f oh lf ce ft oht lft cet nn sc).2.2.2.2.1), aI G kt 80 ((P_X3_runScript bf f oh lf ce ft oht lft cet nn sc).2.2.2.2.2)]) (xX G ((P_X3_runScript bf f oh lf ce ft oht lft cet nn sc).1) [oBr b tx h ht pa sl fi bf, oSt h o g f, aI G o 6 oh, oLed g k lf, aI G k 80 ce, oSt ht ot gt ft, aI G ot 6 oht, oLed gt kt lft, aI G kt 80 cet]) := by
  refine k_bodyX (cc := cX3_runScript) (nL := 5) (ret := (some .int)) hlt (by decide) rfl (Nat.le_of_ble_eq_true rfl) ?_
  intro p e s m args below meth c A cx ct hP hD hS ls hl
  obtain ⟨hx, hb, hml, hown, hts, hr, hlocks, hK, hA⟩ := id cx
  obtain ⟨H, hH⟩ : ∃ H, H = s.heap := ⟨_, rfl⟩
  obtain ⟨locs, hL⟩ : ∃ locs : List Loc, locs = [] := ⟨_, rfl⟩
  obtain ⟨tgt, hq⟩ : ∃ tgt, (P_X3_runScript bf f oh lf ce ft oht lft cet nn sc) = tgt := ⟨_, rfl⟩
  obtain ⟨w0, hw0⟩ : ∃ w0 : va_W, w0 = [oBr b tx h ht pa sl fi bf, oSt h o g f, aI G o 6 oh, oLed g k lf, aI G k 80 ce, oSt ht ot gt ft, aI G ot 6 oht, oLed gt kt lft, aI G kt 80 cet] := ⟨_, rfl⟩
  have hS : va_S A s.heap H locs := by rw [hH, hL]; exact hS
  rw [← hH] at hP
  have hl : lv_has ls 5 [(0, .ref b), (1, .int nn), (2, .long sc)] := hl
  have key : ∀ (H : Heap) (locs : List Loc), va_P G.1 vwCl [oBr b tx h ht pa sl fi bf, oSt h o g f, aI G o 6 oh, oLed g k lf, aI G k 80 ce, oSt ht ot gt ft, aI G ot 6 oht, oLed gt kt lft, aI G kt 80 cet] H → va_D A [oBr b tx h ht pa sl fi bf, oSt h o g f, aI G o 6 oh, oLed g k lf, aI G k 80 ce, oSt ht ot gt ft, aI G ot 6 oht, oLed gt kt lft, aI G kt 80 cet] → va_S A s.heap H locs → W p l e rm_X3_runScript s m args below meth c H locs 0 0 (Q_X3_runScript G b tx h ht pa sl fi o g k ot gt kt w0 bf f oh lf ce tgt below args s A) (F0 m 0 ls []) := by
    clear hP hD hS hH hL
    intro H locs hP hD hS
    unfold P_X3_runScript at hq
    refine lv_iload_n hx hb dX3_runScript_0 rfl (lv_at hl 1 rfl) ?_
    refine lv_iconst (v := 1) hx hb dX3_runScript_1 (by decide) ?_
    refine lv_iconst (v := 3) hx hb dX3_runScript_2 (by decide) ?_
    have hC := c_X3_outside l G nn 1 3
    refine k_i (ws' := [oBr b tx h ht pa sl fi bf, oSt h o g f, aI G o 6 oh, oLed g k lf, aI G k 80 ce, oSt ht ot gt ft, aI G ot 6 oht, oLed gt kt lft, aI G kt 80 cet]) (as := []) cx hP hD hS [] rfl (kr_S (n := 3) (As := [.int nn, .int 1, .int 3]) cx hC gX3_runScript_X3_outside rfl rfl rfl (by decide +kernel) ⟨Nat.le_of_ble_eq_true rfl, Nat.le_of_ble_eq_true rfl⟩ hP hD [] rfl rfl rfl rfl hl (Nat.le_of_ble_eq_true rfl) dX3_runScript_3 ⟨Nat.zero_le _, Nat.zero_le _⟩) ⟨rfl, rfl⟩ rfl (fun H locs hP hD hS => ?_)
    refine lv_if_eq (tgt := 19) hx hb dX3_runScript_6 (by decide) (fun c_6 => ?_) (fun c_6 => ?_)
    · replace hq := (if_pos c_6).symm.trans hq
      refine lv_lload_n hx hb dX3_runScript_19 rfl (lv_at hl 2 rfl) ?_
      refine lv_lconst (v := 0) hx hb dX3_runScript_20 (by decide) ?_
      refine W.lcmp hx hb dX3_runScript_21 ?_
      refine lv_if_lt (tgt := 35) hx hb dX3_runScript_22 (by decide) (fun c_22 => ?_) (fun c_22 => ?_)
      · replace hq := (if_pos c_22).symm.trans hq
        subst hq
        exact k_thrS (cls := "java/lang/IllegalArgumentException") (tx := "script is negative or too long") (r := 0) (ws := [oBr b tx h ht pa sl fi bf, oSt h o g f, aI G o 6 oh, oLed g k lf, aI G k 80 ce, oSt ht ot gt ft, aI G ot 6 oht, oLed gt kt lft, aI G kt 80 cet]) (w0 := w0) cx ct (by decide +kernel) ⟨by decide +kernel, by decide +kernel⟩ (by decide +kernel) (fun w h => List.mem_cons_of_mem _ (List.mem_append_right _ h)) e1_45 e2_41_45 rfl (by rw [hw0]; exact hP) hS hl ⟨Nat.le_of_ble_eq_true rfl, Nat.le_of_ble_eq_true rfl, Nat.le_of_ble_eq_true rfl, Nat.le_of_ble_eq_true rfl⟩ dX3_runScript_35 dX3_runScript_38 dX3_runScript_39 dX3_runScript_41 dX3_runScript_44
      · replace hq := (if_neg c_22).symm.trans hq
        refine lv_lload_n hx hb dX3_runScript_25 rfl (lv_at hl 2 rfl) ?_
        refine lv_iload_n hx hb dX3_runScript_26 rfl (lv_at hl 1 rfl) ?_
        have hC := c_X3_withoutLast l G sc nn
        refine k_l (ws' := [oBr b tx h ht pa sl fi bf, oSt h o g f, aI G o 6 oh, oLed g k lf, aI G k 80 ce, oSt ht ot gt ft, aI G ot 6 oht, oLed gt kt lft, aI G kt 80 cet]) (as := []) cx hP hD hS [] rfl (kr_S (n := 2) (As := [.long sc, .int nn]) cx hC gX3_runScript_X3_withoutLast rfl rfl rfl (by decide +kernel) ⟨Nat.le_of_ble_eq_true rfl, Nat.le_of_ble_eq_true rfl⟩ hP hD [] rfl rfl rfl rfl hl (Nat.le_of_ble_eq_true rfl) dX3_runScript_27 ⟨Nat.zero_le _, Nat.zero_le _⟩) ⟨rfl, rfl⟩ rfl (fun H locs hP hD hS => ?_)
        refine lv_lconst (v := 0) hx hb dX3_runScript_30 (by decide) ?_
        refine W.lcmp hx hb dX3_runScript_31 ?_
        refine lv_if_eq (tgt := 45) hx hb dX3_runScript_32 (by decide) (fun c_32 => ?_) (fun c_32 => ?_)
        · replace hq := (if_pos c_32).symm.trans hq
          refine lv_aload_n hx hb dX3_runScript_45 rfl (lv_at hl 0 rfl) ?_
          refine k_get (v := .ref ht) (T := TX3) (C := RX3) (N := 8) cx hi_X3_runScript_3 hP 0 rfl rfl 2 (by decide) (by decide +kernel) rfl dX3_runScript_46 ?_
          refine lv_aload_n hx hb dX3_runScript_49 rfl (lv_at hl 0 rfl) ?_
          refine k_get (v := .ref h) (T := TX3) (C := RX3) (N := 8) cx hi_X3_runScript_3 hP 0 rfl rfl 1 (by decide) (by decide +kernel) rfl dX3_runScript_50 ?_
          have hC := c_X1_copyFrom l G ht ot gt kt h o g k ft oht lft cet f oh lf ce (hst)
          generalize hu53 : P_X1_copyFrom ft oht lft cet f oh lf ce = u53 at hC hq
          refine k_v (ws' := [oBr b tx h ht pa sl fi bf, oSt h o g f, aI G o 6 oh, oLed g k lf, aI G k 80 ce, oSt ht ot gt u53.1, aI G ot 6 u53.2.1, oLed gt kt u53.2.2.1, aI G kt 80 u53.2.2.2]) (as := [ht, ot, gt, kt, h, o, g, k]) cx hP hD hS [5, 6, 7, 8, 1, 2, 3, 4] rfl (kr_VN (n := 1) (As := [.ref h]) (ci := 1) cx hC gX3_runScript_X1_copyFrom_n181 rfl rfl rfl nn_X3_181 (by decide +kernel) (by decide +kernel) (by decide +kernel) (by decide +kernel) ⟨Nat.le_of_ble_eq_true rfl, Nat.le_of_ble_eq_true rfl⟩ rfl rfl rfl hP hD [5, 6, 7, 8, 1, 2, 3, 4] rfl rfl rfl rfl hl (Nat.le_of_ble_eq_true rfl) dX3_runScript_53 ⟨Nat.zero_le _, Nat.zero_le _⟩) ⟨rfl, rfl⟩ rfl (fun H locs hP hD hS => ?_)
          refine lv_iconst (v := 0) hx hb dX3_runScript_56 (by decide) ?_
          refine lv_istore (lv' := [(4, .int 0), (0, .ref b), (1, .int nn), (2, .long sc)]) hx hb dX3_runScript_57 hl (by decide) rfl (fun ls hl => ?_)
          exact b_X3_runScript_59 cx b tx h ht pa sl fi o g k ot gt kt w0 bf f oh lf ce nn sc hst tgt (((nn).toInt - (0 : Int32).toInt).toNat + 1) 0 u53.1 u53.2.1 u53.2.2.1 u53.2.2.2 (by decide) (Nat.lt_succ_self _) hq H locs hP hD hS _ (lv_sub hl [1, 2, 3, 0] rfl)
        · replace hq := (if_neg c_32).symm.trans hq
          subst hq
          exact k_thrS (cls := "java/lang/IllegalArgumentException") (tx := "script is negative or too long") (r := 0) (ws := [oBr b tx h ht pa sl fi bf, oSt h o g f, aI G o 6 oh, oLed g k lf, aI G k 80 ce, oSt ht ot gt ft, aI G ot 6 oht, oLed gt kt lft, aI G kt 80 cet]) (w0 := w0) cx ct (by decide +kernel) ⟨by decide +kernel, by decide +kernel⟩ (by decide +kernel) (fun w h => List.mem_cons_of_mem _ (List.mem_append_right _ h)) e1_45 e2_41_45 rfl (by rw [hw0]; exact hP) hS hl ⟨Nat.le_of_ble_eq_true rfl, Nat.le_of_ble_eq_true rfl, Nat.le_of_ble_eq_true rfl, Nat.le_of_ble_eq_true rfl⟩ dX3_runScript_35 dX3_runScript_38 dX3_runScript_39 dX3_runScript_41 dX3_runScript_44
    · replace hq := (if_neg c_6).symm.trans hq
      subst hq
      exact k_thrS (cls := "java/lang/IllegalArgumentException") (tx := "n is not 1 to 3") (r := 0) (ws := [oBr b tx h ht pa sl fi bf, oSt h o g f, aI G o 6 oh, oLed g k lf, aI G k 80 ce, oSt ht ot gt ft, aI G ot 6 oht, oLed gt kt lft, aI G kt 80 cet]) (w0 := w0) cx ct (by decide +kernel) ⟨by decide +kernel, by decide +kernel⟩ (by decide +kernel) (fun w h => List.mem_cons_of_mem _ (List.mem_append_right _ h)) e1_45 e2_41_45 rfl (by rw [hw0]; exact hP) hS hl ⟨Nat.le_of_ble_eq_true rfl, Nat.le_of_ble_eq_true rfl, Nat.le_of_ble_eq_true rfl, Nat.le_of_ble_eq_true rfl⟩ dX3_runScript_9 dX3_runScript_12 dX3_runScript_13 dX3_runScript_15 dX3_runScript_18
  subst hL
  subst hH
  subst hq
  subst hw0
  exact key _ _ hP hD hS

/-! X3_simulate -/
theorem hi_X3_simulate_3 : ∀ w ∈ u_ws RX3 TX3 8, w ∈ wsX3_simulate := by decide +kernel
abbrev rm_X3_simulate : Room := { frames := 6, cells := 1, slots := 6, locals := 97 }
abbrev Q_X3_simulate (G : gG) (b : Nat) (tx : Nat) (h : Nat) (ht : Nat) (pa : Nat) (sl : Nat) (fi : Nat) (o : Nat) (g : Nat) (k : Nat) (ot : Nat) (gt : Nat) (kt : Nat) (w0 : va_W)  (bf : Nat → Int32) (f : Nat → Int32) (oh : Nat → Int32) (lf : Nat → Int32) (ce : Nat → Int32) (tgt : Int32 × Int32 × (Nat → Int32) × (Nat → Int32) × (Nat → Int32) × (Nat → Int32)) (below : List Frame) (args : Array Value) (s : State) (A : Nat → Prop) : State → Prop := vx_MQ below (qX G tgt.1 tgt.2.1 [oBr b tx h ht pa sl fi bf, oSt h o g f, aI G o 6 oh, oLed g k lf, aI G k 80 ce, oSt ht ot gt tgt.2.2.1, aI G ot 6 tgt.2.2.2.1, oLed gt kt tgt.2.2.2.2.1, aI G kt 80 tgt.2.2.2.2.2] A) (xX G tgt.1 w0 A) args s 1 6 A
def P_X3_simulate_40 (bf : Nat → Int32) (f : Nat → Int32) (oh : Nat → Int32) (lf : Nat → Int32) (ce : Nat → Int32) (sd : Int64) (mm : Int32) : Nat → Int64 → Int32 → Int32 → (Nat → Int32) → (Nat → Int32) → (Nat → Int32) → (Nat → Int32) → Int32 × Int32 × (Nat → Int32) × (Nat → Int32) × (Nat → Int32) × (Nat → Int32)
  | 0, _, _, _, _, _, _, _ => (0, 0, (fun _ => 0), (fun _ => 0), (fun _ => 0), (fun _ => 0))
  | n + 1, v4, v6, v7, ft, oht, lft, cet => (if mm ≤ v7 then (0, v6, ft, oht, lft, cet) else (let u67 := P_X3_playRound bf ft oht lft cet ((((((v4 * 6364136223846793005) + 1442695040888963407)).toUInt64 >>> ((33 : Int32).toInt64.toUInt64 &&& Int64.toUInt64 63)).toInt64).toInt32); (P_X3_simulate_40 bf f oh lf ce sd mm n ((v4 * 6364136223846793005) + 1442695040888963407) (v6 + u67.1) (v7 + 1) u67.2.1 oht u67.2.2.1 u67.2.2.2)))
set_option maxHeartbeats 4000000 in
set_option maxRecDepth 100000 in
theorem b_X3_simulate_40 {p : Program} {l : Launch} {e : Env} {s : State} {m : MethodId} {args : Array Value} {below : List Frame} {meth : Method} {c : Code} {G : gG} {A : Nat → Prop} (cx : Cx p s m args meth c cX3_simulate 8 yX3_simulate.cls wsX3_simulate (some .int) G A) (b : Nat) (tx : Nat) (h : Nat) (ht : Nat) (pa : Nat) (sl : Nat) (fi : Nat) (o : Nat) (g : Nat) (k : Nat) (ot : Nat) (gt : Nat) (kt : Nat) (w0 : va_W) (bf : Nat → Int32) (f : Nat → Int32) (oh : Nat → Int32) (lf : Nat → Int32) (ce : Nat → Int32) (sd : Int64) (mm : Int32) (hst : f 9 = 0 ∨ f 9 = 1)  (tgt : Int32 × Int32 × (Nat → Int32) × (Nat → Int32) × (Nat → Int32) × (Nat → Int32)) : ∀ (n : Nat) (v4 : Int64) (v6 : Int32) (v7 : Int32) (ft : Nat → Int32) (oht : Nat → Int32) (lft : Nat → Int32) (cet : Nat → Int32) (h0 : ¬ v7 < 0) (hm : ((mm).toInt - (v7 : Int32).toInt).toNat < n) (hq : P_X3_simulate_40  bf f oh lf ce sd mm n v4 v6 v7 ft oht lft cet = tgt) (H : Heap) (locs : List Loc) (hP : va_P G.1 vwCl [oBr b tx h ht pa sl fi bf, oSt h o g f, aI G o 6 oh, oLed g k lf, aI G k 80 ce, oSt ht ot gt ft, aI G ot 6 oht, oLed gt kt lft, aI G kt 80 cet] H) (hD : va_D A [oBr b tx h ht pa sl fi bf, oSt h o g f, aI G o 6 oh, oLed g k lf, aI G k 80 ce, oSt ht ot gt ft, aI G ot 6 oht, oLed gt kt lft, aI G kt 80 cet]) (hS : va_S A s.heap H locs) (ls : Array Slot) (hl : lv_has ls 8 [(0, .ref b), (3, .int mm), (4, .long v4), (6, .int v6), (7, .int v7)]), W p l e rm_X3_simulate s m args below meth c H locs 0 0 (Q_X3_simulate G b tx h ht pa sl fi o g k ot gt kt w0 bf f oh lf ce tgt below args s A) (F0 m 40 ls []) := by
  obtain ⟨hx, hb, hml, hown, hts, hr, hlocks, hK, hA⟩ := id cx
  intro n
  induction n with
  | zero => intros; omega
  | succ n ih =>
    intro v4 v6 v7 ft oht lft cet h0 hm hq H locs hP hD hS ls hl
    unfold P_X3_simulate_40 at hq
    refine lv_iload hx hb dX3_simulate_40 (lv_at hl 4 rfl) ?_
    refine lv_iload_n hx hb dX3_simulate_42 rfl (lv_at hl 1 rfl) ?_
    refine lv_icmp_ge (tgt := 79) hx hb dX3_simulate_43 (by decide) (fun c_43 => ?_) (fun c_43 => ?_)
    · replace hq := (if_pos c_43).symm.trans hq
      refine lv_iload hx hb dX3_simulate_79 (lv_at hl 3 rfl) ?_
      subst hq
      exact k_iretX cx rfl hP hS dX3_simulate_81
    · replace hq := (if_neg c_43).symm.trans hq
      refine lv_lload hx hb dX3_simulate_46 (lv_at hl 2 rfl) ?_
      refine k_ldc2 (v := 6364136223846793005) cx (by decide +kernel) dX3_simulate_48 ?_
      refine lv_lmul hx hb dX3_simulate_51 ?_
      refine k_ldc2 (v := 1442695040888963407) cx (by decide +kernel) dX3_simulate_52 ?_
      refine lv_ladd hx hb dX3_simulate_55 ?_
      refine lv_lstore (lv' := [(4, .long ((v4 * 6364136223846793005) + 1442695040888963407)), (0, .ref b), (3, .int mm), (6, .int v6), (7, .int v7)]) hx hb dX3_simulate_56 hl (by decide) rfl (fun ls hl => ?_)
      refine lv_iload hx hb dX3_simulate_58 (lv_at hl 3 rfl) ?_
      refine lv_aload_n hx hb dX3_simulate_60 rfl (lv_at hl 1 rfl) ?_
      refine lv_lload hx hb dX3_simulate_61 (lv_at hl 0 rfl) ?_
      refine lv_bipush (v := 33) hx hb dX3_simulate_63 (by decide) ?_
      refine lv_lushr hx hb dX3_simulate_65 rfl ?_
      refine lv_l2i hx hb dX3_simulate_66 rfl ?_
      have hC := c_X3_playRound l G b tx h ht pa sl fi ot gt kt bf ft oht lft cet ((((((v4 * 6364136223846793005) + 1442695040888963407)).toUInt64 >>> ((33 : Int32).toInt64.toUInt64 &&& Int64.toUInt64 63)).toInt64).toInt32)
      generalize hu67 : P_X3_playRound bf ft oht lft cet ((((((v4 * 6364136223846793005) + 1442695040888963407)).toUInt64 >>> ((33 : Int32).toInt64.toUInt64 &&& Int64.toUInt64 63)).toInt64).toInt32) = u67 at hC hq
      refine k_i (ws' := [oBr b tx h ht pa sl fi bf, oSt h o g f, aI G o 6 oh, oLed g k lf, aI G k 80 ce, oSt ht ot gt u67.2.1, aI G ot 6 oht, oLed gt kt u67.2.2.1, aI G kt 80 u67.2.2.2]) (as := [b, ht, ot, gt, kt]) cx hP hD hS [0, 5, 6, 7, 8] rfl (kr_V (n := 1) (As := [.int (((((v4 * 6364136223846793005) + 1442695040888963407)).toUInt64 >>> ((33 : Int32).toInt64.toUInt64 &&& Int64.toUInt64 63)).toInt64).toInt32]) (ci := 3) cx hC gX3_simulate_X3_playRound rfl rfl rfl (by decide +kernel) ⟨Nat.le_of_ble_eq_true rfl, Nat.le_of_ble_eq_true rfl⟩ rfl rfl rfl hP hD [0, 5, 6, 7, 8] rfl rfl rfl rfl hl (Nat.le_of_ble_eq_true rfl) dX3_simulate_67 ⟨Nat.zero_le _, Nat.zero_le _⟩) ⟨rfl, rfl⟩ rfl (fun H locs hP hD hS => ?_)
      refine lv_iadd hx hb dX3_simulate_70 ?_
      refine lv_istore (lv' := [(6, .int (v6 + u67.1)), (4, .long ((v4 * 6364136223846793005) + 1442695040888963407)), (0, .ref b), (3, .int mm), (7, .int v7)]) hx hb dX3_simulate_71 hl (by decide) rfl (fun ls hl => ?_)
      refine lv_iinc (v := (v7 + 1)) (lv' := [(7, .int (v7 + 1)), (6, .int (v6 + u67.1)), (4, .long ((v4 * 6364136223846793005) + 1442695040888963407)), (0, .ref b), (3, .int mm)]) hx hb dX3_simulate_73 hl (k := 4) rfl rfl (by decide) rfl (fun ls hl => ?_)
      refine lv_goto (tgt := 40) hx hb dX3_simulate_76 (by decide) ?_
      exact ih ((v4 * 6364136223846793005) + 1442695040888963407) (v6 + u67.1) (v7 + 1) u67.2.1 oht u67.2.2.1 u67.2.2.2 (nn_inc h0 (N := mm) (by assumption)) (by have hmd := mu_up (N := mm) (by assumption); omega) hq H locs hP hD hS _ (lv_sub hl [3, 4, 2, 1, 0] rfl)
def P_X3_simulate (bf : Nat → Int32) (f : Nat → Int32) (oh : Nat → Int32) (lf : Nat → Int32) (ce : Nat → Int32) (ft : Nat → Int32) (oht : Nat → Int32) (lft : Nat → Int32) (cet : Nat → Int32) (sd : Int64) (mm : Int32) : Int32 × Int32 × (Nat → Int32) × (Nat → Int32) × (Nat → Int32) × (Nat → Int32) := (if (P_X3_outside mm 1 99) = 0 then (let u28 := P_X1_copyFrom ft oht lft cet f oh lf ce; (P_X3_simulate_40 bf f oh lf ce sd mm (((mm).toInt - (0 : Int32).toInt).toNat + 1) sd 0 0 u28.1 u28.2.1 u28.2.2.1 u28.2.2.2)) else (1, 0, ft, oht, lft, cet))
set_option maxHeartbeats 4000000 in
set_option maxRecDepth 100000 in
theorem c_X3_simulate (l : Launch) (hlt : l.stackTraces = false) (G : gG) (b : Nat) (tx : Nat) (h : Nat) (ht : Nat) (pa : Nat) (sl : Nat) (fi : Nat) (o : Nat) (g : Nat) (k : Nat) (ot : Nat) (gt : Nat) (kt : Nat) (bf : Nat → Int32) (f : Nat → Int32) (oh : Nat → Int32) (lf : Nat → Int32) (ce : Nat → Int32) (ft : Nat → Int32) (oht : Nat → Int32) (lft : Nat → Int32) (cet : Nat → Int32) (sd : Int64) (mm : Int32) (hst : f 9 = 0 ∨ f 9 = 1) : kX l G yX3_simulate wsX3_simulate rm_X3_simulate [.ref b, .long sd, .int mm] [oBr b tx h ht pa sl fi bf, oSt h o g f, aI G o 6 oh, oLed g k lf, aI G k 80 ce, oSt ht ot gt ft, aI G ot 6 oht, oLed gt kt lft, aI G kt 80 cet] (qX G ((P_X3_simulate bf f oh lf ce ft oht lft cet sd mm).1) ((P_X3_simulate bf f oh lf ce ft oht lft cet sd mm).2.1) [oBr b tx h ht pa sl fi bf, oSt h o g f, aI G o 6 oh, oLed g k lf, aI G k 80 ce, oSt ht ot gt ((P_X3_simulate bf f oh lf ce ft oht lft cet sd mm).2.2.1), aI G ot 6 ((P_X3_simulate bf f oh lf ce ft oht lft cet sd mm).2.2.2.1), oLed gt kt ((P_X3_simulate bf f oh lf ce ft oht lft cet sd mm).2.2.2.2.1), aI G kt 80 ((P_X3_simulate bf f oh lf ce ft oht lft cet sd mm).2.2.2.2.2)]) (xX G ((P_X3_simulate bf f oh lf ce ft oht lft cet sd mm).1) [oBr b tx h ht pa sl fi bf, oSt h o g f, aI G o 6 oh, oLed g k lf, aI G k 80 ce, oSt ht ot gt ft, aI G ot 6 oht, oLed gt kt lft, aI G kt 80 cet]) := by
  refine k_bodyX (cc := cX3_simulate) (nL := 8) (ret := (some .int)) hlt (by decide) rfl (Nat.le_of_ble_eq_true rfl) ?_
  intro p e s m args below meth c A cx ct hP hD hS ls hl
  obtain ⟨hx, hb, hml, hown, hts, hr, hlocks, hK, hA⟩ := id cx
  obtain ⟨H, hH⟩ : ∃ H, H = s.heap := ⟨_, rfl⟩
  obtain ⟨locs, hL⟩ : ∃ locs : List Loc, locs = [] := ⟨_, rfl⟩
  obtain ⟨tgt, hq⟩ : ∃ tgt, (P_X3_simulate bf f oh lf ce ft oht lft cet sd mm) = tgt := ⟨_, rfl⟩
  obtain ⟨w0, hw0⟩ : ∃ w0 : va_W, w0 = [oBr b tx h ht pa sl fi bf, oSt h o g f, aI G o 6 oh, oLed g k lf, aI G k 80 ce, oSt ht ot gt ft, aI G ot 6 oht, oLed gt kt lft, aI G kt 80 cet] := ⟨_, rfl⟩
  have hS : va_S A s.heap H locs := by rw [hH, hL]; exact hS
  rw [← hH] at hP
  have hl : lv_has ls 8 [(0, .ref b), (1, .long sd), (3, .int mm)] := hl
  have key : ∀ (H : Heap) (locs : List Loc), va_P G.1 vwCl [oBr b tx h ht pa sl fi bf, oSt h o g f, aI G o 6 oh, oLed g k lf, aI G k 80 ce, oSt ht ot gt ft, aI G ot 6 oht, oLed gt kt lft, aI G kt 80 cet] H → va_D A [oBr b tx h ht pa sl fi bf, oSt h o g f, aI G o 6 oh, oLed g k lf, aI G k 80 ce, oSt ht ot gt ft, aI G ot 6 oht, oLed gt kt lft, aI G kt 80 cet] → va_S A s.heap H locs → W p l e rm_X3_simulate s m args below meth c H locs 0 0 (Q_X3_simulate G b tx h ht pa sl fi o g k ot gt kt w0 bf f oh lf ce tgt below args s A) (F0 m 0 ls []) := by
    clear hP hD hS hH hL
    intro H locs hP hD hS
    unfold P_X3_simulate at hq
    refine lv_iload_n hx hb dX3_simulate_0 rfl (lv_at hl 2 rfl) ?_
    refine lv_iconst (v := 1) hx hb dX3_simulate_1 (by decide) ?_
    refine lv_bipush (v := 99) hx hb dX3_simulate_2 (by decide) ?_
    have hC := c_X3_outside l G mm 1 99
    refine k_i (ws' := [oBr b tx h ht pa sl fi bf, oSt h o g f, aI G o 6 oh, oLed g k lf, aI G k 80 ce, oSt ht ot gt ft, aI G ot 6 oht, oLed gt kt lft, aI G kt 80 cet]) (as := []) cx hP hD hS [] rfl (kr_S (n := 3) (As := [.int mm, .int 1, .int 99]) cx hC gX3_simulate_X3_outside rfl rfl rfl (by decide +kernel) ⟨Nat.le_of_ble_eq_true rfl, Nat.le_of_ble_eq_true rfl⟩ hP hD [] rfl rfl rfl rfl hl (Nat.le_of_ble_eq_true rfl) dX3_simulate_4 ⟨Nat.zero_le _, Nat.zero_le _⟩) ⟨rfl, rfl⟩ rfl (fun H locs hP hD hS => ?_)
    refine lv_if_eq (tgt := 20) hx hb dX3_simulate_7 (by decide) (fun c_7 => ?_) (fun c_7 => ?_)
    · replace hq := (if_pos c_7).symm.trans hq
      refine lv_aload_n hx hb dX3_simulate_20 rfl (lv_at hl 0 rfl) ?_
      refine k_get (v := .ref ht) (T := TX3) (C := RX3) (N := 8) cx hi_X3_simulate_3 hP 0 rfl rfl 2 (by decide) (by decide +kernel) rfl dX3_simulate_21 ?_
      refine lv_aload_n hx hb dX3_simulate_24 rfl (lv_at hl 0 rfl) ?_
      refine k_get (v := .ref h) (T := TX3) (C := RX3) (N := 8) cx hi_X3_simulate_3 hP 0 rfl rfl 1 (by decide) (by decide +kernel) rfl dX3_simulate_25 ?_
      have hC := c_X1_copyFrom l G ht ot gt kt h o g k ft oht lft cet f oh lf ce (hst)
      generalize hu28 : P_X1_copyFrom ft oht lft cet f oh lf ce = u28 at hC hq
      refine k_v (ws' := [oBr b tx h ht pa sl fi bf, oSt h o g f, aI G o 6 oh, oLed g k lf, aI G k 80 ce, oSt ht ot gt u28.1, aI G ot 6 u28.2.1, oLed gt kt u28.2.2.1, aI G kt 80 u28.2.2.2]) (as := [ht, ot, gt, kt, h, o, g, k]) cx hP hD hS [5, 6, 7, 8, 1, 2, 3, 4] rfl (kr_VN (n := 1) (As := [.ref h]) (ci := 1) cx hC gX3_simulate_X1_copyFrom_n181 rfl rfl rfl nn_X3_181 (by decide +kernel) (by decide +kernel) (by decide +kernel) (by decide +kernel) ⟨Nat.le_of_ble_eq_true rfl, Nat.le_of_ble_eq_true rfl⟩ rfl rfl rfl hP hD [5, 6, 7, 8, 1, 2, 3, 4] rfl rfl rfl rfl hl (Nat.le_of_ble_eq_true rfl) dX3_simulate_28 ⟨Nat.zero_le _, Nat.zero_le _⟩) ⟨rfl, rfl⟩ rfl (fun H locs hP hD hS => ?_)
      refine lv_lload_n hx hb dX3_simulate_31 rfl (lv_at hl 1 rfl) ?_
      refine lv_lstore (lv' := [(4, .long sd), (0, .ref b), (1, .long sd), (3, .int mm)]) hx hb dX3_simulate_32 hl (by decide) rfl (fun ls hl => ?_)
      refine lv_iconst (v := 0) hx hb dX3_simulate_34 (by decide) ?_
      refine lv_istore (lv' := [(6, .int 0), (4, .long sd), (0, .ref b), (1, .long sd), (3, .int mm)]) hx hb dX3_simulate_35 hl (by decide) rfl (fun ls hl => ?_)
      refine lv_iconst (v := 0) hx hb dX3_simulate_37 (by decide) ?_
      refine lv_istore (lv' := [(7, .int 0), (6, .int 0), (4, .long sd), (0, .ref b), (1, .long sd), (3, .int mm)]) hx hb dX3_simulate_38 hl (by decide) rfl (fun ls hl => ?_)
      exact b_X3_simulate_40 cx b tx h ht pa sl fi o g k ot gt kt w0 bf f oh lf ce sd mm hst tgt (((mm).toInt - (0 : Int32).toInt).toNat + 1) sd 0 0 u28.1 u28.2.1 u28.2.2.1 u28.2.2.2 (by decide) (Nat.lt_succ_self _) hq H locs hP hD hS _ (lv_sub hl [3, 5, 2, 1, 0] rfl)
    · replace hq := (if_neg c_7).symm.trans hq
      subst hq
      exact k_thrS (cls := "java/lang/IllegalArgumentException") (tx := "m is not 1 to 99") (r := 0) (ws := [oBr b tx h ht pa sl fi bf, oSt h o g f, aI G o 6 oh, oLed g k lf, aI G k 80 ce, oSt ht ot gt ft, aI G ot 6 oht, oLed gt kt lft, aI G kt 80 cet]) (w0 := w0) cx ct (by decide +kernel) ⟨by decide +kernel, by decide +kernel⟩ (by decide +kernel) (fun w h => List.mem_cons_of_mem _ (List.mem_append_right _ h)) e1_45 e2_41_45 rfl (by rw [hw0]; exact hP) hS hl ⟨Nat.le_of_ble_eq_true rfl, Nat.le_of_ble_eq_true rfl, Nat.le_of_ble_eq_true rfl, Nat.le_of_ble_eq_true rfl⟩ dX3_simulate_10 dX3_simulate_13 dX3_simulate_14 dX3_simulate_16 dX3_simulate_19
  subst hL
  subst hH
  subst hq
  subst hw0
  exact key _ _ hP hD hS

/-! X3_save -/
theorem hi_X3_save_1 : ∀ w ∈ u_ws RX1 TX1 16, w ∈ wsX3_save := by decide +kernel
theorem hi_X3_save_3 : ∀ w ∈ u_ws RX3 TX3 8, w ∈ wsX3_save := by decide +kernel
abbrev rm_X3_save : Room := { frames := 6, cells := 1, slots := 6, locals := 82 }
abbrev Q_X3_save (G : gG) (b : Nat) (tx : Nat) (h : Nat) (ht : Nat) (pa : Nat) (sl : Nat) (fi : Nat) (o : Nat) (g : Nat) (k : Nat) (h2 : Nat) (o2 : Nat) (g2 : Nat) (k2 : Nat) (w0 : va_W)  (bf : Nat → Int32) (sg : Nat → Option Nat) (f : Nat → Int32) (oh : Nat → Int32) (lf : Nat → Int32) (ce : Nat → Int32) (tgt : Int32 × Int32 × (Nat → Int32) × (Nat → Int32) × (Nat → Int32) × (Nat → Int32) × (Nat → Int32)) (below : List Frame) (args : Array Value) (s : State) (A : Nat → Prop) : State → Prop := vx_MQ below (qX G tgt.1 tgt.2.1 [oBr b tx h ht pa sl fi bf, aS G sl 2 sg, aZ G fi 2 tgt.2.2.1, oSt h o g f, aI G o 6 oh, oLed g k lf, aI G k 80 ce, oSt h2 o2 g2 tgt.2.2.2.1, aI G o2 6 tgt.2.2.2.2.1, oLed g2 k2 tgt.2.2.2.2.2.1, aI G k2 80 tgt.2.2.2.2.2.2] A) (xX G tgt.1 w0 A) args s 1 6 A
def P_X3_save (bf : Nat → Int32) (sg : Nat → Option Nat) (ff : Nat → Int32) (f : Nat → Int32) (oh : Nat → Int32) (lf : Nat → Int32) (ce : Nat → Int32) (f2 : Nat → Int32) (oh2 : Nat → Int32) (lf2 : Nat → Int32) (ce2 : Nat → Int32) (slt : Int32) : Int32 × Int32 × (Nat → Int32) × (Nat → Int32) × (Nat → Int32) × (Nat → Int32) × (Nat → Int32) := (if (P_X3_outside slt 0 1) = 0 then (if slt < 2 then (let u47 := P_X1_copyFrom f2 oh2 lf2 ce2 f oh lf ce; (0, (f 8), (upd ff slt.toNatClampNeg 1), u47.1, u47.2.1, u47.2.2.1, u47.2.2.2)) else (3, 0, ff, f2, oh2, lf2, ce2)) else (3, 0, ff, f2, oh2, lf2, ce2))
set_option maxHeartbeats 4000000 in
set_option maxRecDepth 100000 in
theorem c_X3_save (l : Launch) (hlt : l.stackTraces = false) (G : gG) (b : Nat) (tx : Nat) (h : Nat) (ht : Nat) (pa : Nat) (sl : Nat) (fi : Nat) (o : Nat) (g : Nat) (k : Nat) (h2 : Nat) (o2 : Nat) (g2 : Nat) (k2 : Nat) (bf : Nat → Int32) (sg : Nat → Option Nat) (ff : Nat → Int32) (f : Nat → Int32) (oh : Nat → Int32) (lf : Nat → Int32) (ce : Nat → Int32) (f2 : Nat → Int32) (oh2 : Nat → Int32) (lf2 : Nat → Int32) (ce2 : Nat → Int32) (slt : Int32) (hst : f 9 = 0 ∨ f 9 = 1) (hsl : P_X3_outside slt 0 1 = 0 → P_X3_entry 2 sg slt = some h2) : kX l G yX3_save wsX3_save rm_X3_save [.ref b, .int slt] [oBr b tx h ht pa sl fi bf, aS G sl 2 sg, aZ G fi 2 ff, oSt h o g f, aI G o 6 oh, oLed g k lf, aI G k 80 ce, oSt h2 o2 g2 f2, aI G o2 6 oh2, oLed g2 k2 lf2, aI G k2 80 ce2] (qX G ((P_X3_save bf sg ff f oh lf ce f2 oh2 lf2 ce2 slt).1) ((P_X3_save bf sg ff f oh lf ce f2 oh2 lf2 ce2 slt).2.1) [oBr b tx h ht pa sl fi bf, aS G sl 2 sg, aZ G fi 2 ((P_X3_save bf sg ff f oh lf ce f2 oh2 lf2 ce2 slt).2.2.1), oSt h o g f, aI G o 6 oh, oLed g k lf, aI G k 80 ce, oSt h2 o2 g2 ((P_X3_save bf sg ff f oh lf ce f2 oh2 lf2 ce2 slt).2.2.2.1), aI G o2 6 ((P_X3_save bf sg ff f oh lf ce f2 oh2 lf2 ce2 slt).2.2.2.2.1), oLed g2 k2 ((P_X3_save bf sg ff f oh lf ce f2 oh2 lf2 ce2 slt).2.2.2.2.2.1), aI G k2 80 ((P_X3_save bf sg ff f oh lf ce f2 oh2 lf2 ce2 slt).2.2.2.2.2.2)]) (xX G ((P_X3_save bf sg ff f oh lf ce f2 oh2 lf2 ce2 slt).1) [oBr b tx h ht pa sl fi bf, aS G sl 2 sg, aZ G fi 2 ff, oSt h o g f, aI G o 6 oh, oLed g k lf, aI G k 80 ce, oSt h2 o2 g2 f2, aI G o2 6 oh2, oLed g2 k2 lf2, aI G k2 80 ce2]) := by
  refine k_bodyX (cc := cX3_save) (nL := 3) (ret := (some .int)) hlt (by decide) rfl (Nat.le_of_ble_eq_true rfl) ?_
  intro p e s m args below meth c A cx ct hP hD hS ls hl
  obtain ⟨hx, hb, hml, hown, hts, hr, hlocks, hK, hA⟩ := id cx
  obtain ⟨H, hH⟩ : ∃ H, H = s.heap := ⟨_, rfl⟩
  obtain ⟨locs, hL⟩ : ∃ locs : List Loc, locs = [] := ⟨_, rfl⟩
  obtain ⟨tgt, hq⟩ : ∃ tgt, (P_X3_save bf sg ff f oh lf ce f2 oh2 lf2 ce2 slt) = tgt := ⟨_, rfl⟩
  obtain ⟨w0, hw0⟩ : ∃ w0 : va_W, w0 = [oBr b tx h ht pa sl fi bf, aS G sl 2 sg, aZ G fi 2 ff, oSt h o g f, aI G o 6 oh, oLed g k lf, aI G k 80 ce, oSt h2 o2 g2 f2, aI G o2 6 oh2, oLed g2 k2 lf2, aI G k2 80 ce2] := ⟨_, rfl⟩
  have hS : va_S A s.heap H locs := by rw [hH, hL]; exact hS
  rw [← hH] at hP
  have hl : lv_has ls 3 [(0, .ref b), (1, .int slt)] := hl
  have key : ∀ (H : Heap) (locs : List Loc), va_P G.1 vwCl [oBr b tx h ht pa sl fi bf, aS G sl 2 sg, aZ G fi 2 ff, oSt h o g f, aI G o 6 oh, oLed g k lf, aI G k 80 ce, oSt h2 o2 g2 f2, aI G o2 6 oh2, oLed g2 k2 lf2, aI G k2 80 ce2] H → va_D A [oBr b tx h ht pa sl fi bf, aS G sl 2 sg, aZ G fi 2 ff, oSt h o g f, aI G o 6 oh, oLed g k lf, aI G k 80 ce, oSt h2 o2 g2 f2, aI G o2 6 oh2, oLed g2 k2 lf2, aI G k2 80 ce2] → va_S A s.heap H locs → W p l e rm_X3_save s m args below meth c H locs 0 0 (Q_X3_save G b tx h ht pa sl fi o g k h2 o2 g2 k2 w0 bf sg f oh lf ce tgt below args s A) (F0 m 0 ls []) := by
    clear hP hD hS hH hL
    intro H locs hP hD hS
    unfold P_X3_save at hq
    refine lv_iload_n hx hb dX3_save_0 rfl (lv_at hl 1 rfl) ?_
    refine lv_iconst (v := 0) hx hb dX3_save_1 (by decide) ?_
    refine lv_iconst (v := 1) hx hb dX3_save_2 (by decide) ?_
    have hC := c_X3_outside l G slt 0 1
    refine k_i (ws' := [oBr b tx h ht pa sl fi bf, aS G sl 2 sg, aZ G fi 2 ff, oSt h o g f, aI G o 6 oh, oLed g k lf, aI G k 80 ce, oSt h2 o2 g2 f2, aI G o2 6 oh2, oLed g2 k2 lf2, aI G k2 80 ce2]) (as := []) cx hP hD hS [] rfl (kr_S (n := 3) (As := [.int slt, .int 0, .int 1]) cx hC gX3_save_X3_outside rfl rfl rfl (by decide +kernel) ⟨Nat.le_of_ble_eq_true rfl, Nat.le_of_ble_eq_true rfl⟩ hP hD [] rfl rfl rfl rfl hl (Nat.le_of_ble_eq_true rfl) dX3_save_3 ⟨Nat.zero_le _, Nat.zero_le _⟩) ⟨rfl, rfl⟩ rfl (fun H locs hP hD hS => ?_)
    refine lv_if_ne (tgt := 18) hx hb dX3_save_6 (by decide) (fun c_6 => ?_) (fun c_6 => ?_)
    · replace hq := (if_neg c_6).symm.trans hq
      subst hq
      exact k_thrW (cls := "java/lang/IndexOutOfBoundsException") (tx := "no such save slot") (r := 0) (ws := [oBr b tx h ht pa sl fi bf, aS G sl 2 sg, aZ G fi 2 ff, oSt h o g f, aI G o 6 oh, oLed g k lf, aI G k 80 ce, oSt h2 o2 g2 f2, aI G o2 6 oh2, oLed g2 k2 lf2, aI G k2 80 ce2]) (w0 := w0) cx ct (by decide +kernel) ⟨by decide +kernel, by decide +kernel⟩ (by decide +kernel) (fun w h => List.mem_cons_of_mem _ (List.mem_append_right _ h)) e1_152 e2_148_152 rfl (by rw [hw0]; exact hP) hS hl ⟨Nat.le_of_ble_eq_true rfl, Nat.le_of_ble_eq_true rfl, Nat.le_of_ble_eq_true rfl, Nat.le_of_ble_eq_true rfl⟩ dX3_save_18 dX3_save_21 dX3_save_22 dX3_save_25 dX3_save_28
    · replace hq := (if_pos c_6).symm.trans hq
      refine lv_iload_n hx hb dX3_save_9 rfl (lv_at hl 1 rfl) ?_
      refine lv_aload_n hx hb dX3_save_10 rfl (lv_at hl 0 rfl) ?_
      refine k_get (v := .ref fi) (T := TX3) (C := RX3) (N := 8) cx hi_X3_save_3 hP 0 rfl rfl 7 (by decide) (by decide +kernel) rfl dX3_save_11 ?_
      refine k_alenI (v := 2) (t0 := 2) cx hP 2 rfl rfl rfl dX3_save_14 ?_
      refine lv_icmp_lt (tgt := 29) hx hb dX3_save_15 (by decide) (fun c_15 => ?_) (fun c_15 => ?_)
      · replace hq := (if_pos c_15).symm.trans hq
        refine lv_aload_n hx hb dX3_save_29 rfl (lv_at hl 0 rfl) ?_
        refine k_get (v := .ref sl) (T := TX3) (C := RX3) (N := 8) cx hi_X3_save_3 hP 0 rfl rfl 6 (by decide) (by decide +kernel) rfl dX3_save_30 ?_
        refine lv_iload_n hx hb dX3_save_33 rfl (lv_at hl 1 rfl) ?_
        have hC := c_X3_entry l G sl 2 sg slt (by decide)
        refine k_q (ws' := [oBr b tx h ht pa sl fi bf, aS G sl 2 sg, aZ G fi 2 ff, oSt h o g f, aI G o 6 oh, oLed g k lf, aI G k 80 ce, oSt h2 o2 g2 f2, aI G o2 6 oh2, oLed g2 k2 lf2, aI G k2 80 ce2]) (as := [sl]) cx hP hD hS [1] rfl (kr_S (n := 2) (As := [.ref sl, .int slt]) cx hC gX3_save_X3_entry rfl rfl rfl (by decide +kernel) ⟨Nat.le_of_ble_eq_true rfl, Nat.le_of_ble_eq_true rfl⟩ hP hD [1] rfl rfl rfl rfl hl (Nat.le_of_ble_eq_true rfl) dX3_save_34 ⟨Nat.zero_le _, Nat.zero_le _⟩) ⟨rfl, rfl⟩ rfl (fun H locs hP hD hS => ?_)
        refine k_known (a := h2) (hsl c_6) ?_
        refine lv_astore_n (lv' := [(2, .ref h2), (0, .ref b), (1, .int slt)]) hx hb dX3_save_37 rfl hl (by decide) rfl (fun ls hl => ?_)
        refine lv_aload_n hx hb dX3_save_38 rfl (lv_at hl 0 rfl) ?_
        refine lv_ifnull hx hb dX3_save_39 ?_
        refine lv_aload_n hx hb dX3_save_42 rfl (lv_at hl 0 rfl) ?_
        refine lv_aload_n hx hb dX3_save_43 rfl (lv_at hl 1 rfl) ?_
        refine k_get (v := .ref h) (T := TX3) (C := RX3) (N := 8) cx hi_X3_save_3 hP 0 rfl rfl 1 (by decide) (by decide +kernel) rfl dX3_save_44 ?_
        have hC := c_X1_copyFrom l G h2 o2 g2 k2 h o g k f2 oh2 lf2 ce2 f oh lf ce (hst)
        generalize hu47 : P_X1_copyFrom f2 oh2 lf2 ce2 f oh lf ce = u47 at hC hq
        refine k_v (ws' := [oBr b tx h ht pa sl fi bf, aS G sl 2 sg, aZ G fi 2 ff, oSt h o g f, aI G o 6 oh, oLed g k lf, aI G k 80 ce, oSt h2 o2 g2 u47.1, aI G o2 6 u47.2.1, oLed g2 k2 u47.2.2.1, aI G k2 80 u47.2.2.2]) (as := [h2, o2, g2, k2, h, o, g, k]) cx hP hD hS [7, 8, 9, 10, 3, 4, 5, 6] rfl (kr_VN (n := 1) (As := [.ref h]) (ci := 1) cx hC gX3_save_X1_copyFrom_n181 rfl rfl rfl nn_X3_181 (by decide +kernel) (by decide +kernel) (by decide +kernel) (by decide +kernel) ⟨Nat.le_of_ble_eq_true rfl, Nat.le_of_ble_eq_true rfl⟩ rfl rfl rfl hP hD [7, 8, 9, 10, 3, 4, 5, 6] rfl rfl rfl rfl hl (Nat.le_of_ble_eq_true rfl) dX3_save_47 ⟨Nat.zero_le _, Nat.zero_le _⟩) ⟨rfl, rfl⟩ rfl (fun H locs hP hD hS => ?_)
        refine lv_aload_n hx hb dX3_save_50 rfl (lv_at hl 1 rfl) ?_
        refine k_get (v := .ref fi) (T := TX3) (C := RX3) (N := 8) cx hi_X3_save_3 hP 0 rfl rfl 7 (by decide) (by decide +kernel) rfl dX3_save_51 ?_
        refine lv_iload_n hx hb dX3_save_54 rfl (lv_at hl 2 rfl) ?_
        refine lv_iconst (v := 1) hx hb dX3_save_55 (by decide) ?_
        refine k_zast (ws' := [oBr b tx h ht pa sl fi bf, aS G sl 2 sg, aZ G fi 2 (upd ff slt.toNatClampNeg 1), oSt h o g f, aI G o 6 oh, oLed g k lf, aI G k 80 ce, oSt h2 o2 g2 u47.1, aI G o2 6 u47.2.1, oLed g2 k2 u47.2.2.1, aI G k2 80 u47.2.2.2]) (j := slt.toNatClampNeg) (z := 1) cx hP hD hS 2 rfl rfl (ix_o2 c_6) rfl rfl dX3_save_56 (fun H locs hP hD hS => ?_)
        refine lv_aload_n hx hb dX3_save_57 rfl (lv_at hl 1 rfl) ?_
        refine k_get (v := .ref h) (T := TX3) (C := RX3) (N := 8) cx hi_X3_save_3 hP 0 rfl rfl 1 (by decide) (by decide +kernel) rfl dX3_save_58 ?_
        refine k_getN (v := .int (f 8)) (T := TX1) (C := RX1) (N := 16) (host := RX3) cx hi_X3_save_1 hP 3 rfl rfl 8 (by decide) nn_X3_265 rfl dX3_save_61 ?_
        subst hq
        exact k_iretX cx rfl hP hS dX3_save_64
      · replace hq := (if_neg c_15).symm.trans hq
        subst hq
        exact k_thrW (cls := "java/lang/IndexOutOfBoundsException") (tx := "no such save slot") (r := 0) (ws := [oBr b tx h ht pa sl fi bf, aS G sl 2 sg, aZ G fi 2 ff, oSt h o g f, aI G o 6 oh, oLed g k lf, aI G k 80 ce, oSt h2 o2 g2 f2, aI G o2 6 oh2, oLed g2 k2 lf2, aI G k2 80 ce2]) (w0 := w0) cx ct (by decide +kernel) ⟨by decide +kernel, by decide +kernel⟩ (by decide +kernel) (fun w h => List.mem_cons_of_mem _ (List.mem_append_right _ h)) e1_152 e2_148_152 rfl (by rw [hw0]; exact hP) hS hl ⟨Nat.le_of_ble_eq_true rfl, Nat.le_of_ble_eq_true rfl, Nat.le_of_ble_eq_true rfl, Nat.le_of_ble_eq_true rfl⟩ dX3_save_18 dX3_save_21 dX3_save_22 dX3_save_25 dX3_save_28
  subst hL
  subst hH
  subst hq
  subst hw0
  exact key _ _ hP hD hS

/-! X3_restore -/
theorem hi_X3_restore_1 : ∀ w ∈ u_ws RX1 TX1 16, w ∈ wsX3_restore := by decide +kernel
theorem hi_X3_restore_3 : ∀ w ∈ u_ws RX3 TX3 8, w ∈ wsX3_restore := by decide +kernel
abbrev rm_X3_restore : Room := { frames := 6, cells := 1, slots := 6, locals := 82 }
abbrev Q_X3_restore (G : gG) (b : Nat) (tx : Nat) (h : Nat) (ht : Nat) (pa : Nat) (sl : Nat) (fi : Nat) (o : Nat) (g : Nat) (k : Nat) (h2 : Nat) (o2 : Nat) (g2 : Nat) (k2 : Nat) (w0 : va_W)  (sg : Nat → Option Nat) (ff : Nat → Int32) (f2 : Nat → Int32) (oh2 : Nat → Int32) (lf2 : Nat → Int32) (ce2 : Nat → Int32) (tgt : Int32 × Int32 × (Nat → Int32) × (Nat → Int32) × (Nat → Int32) × (Nat → Int32) × (Nat → Int32)) (below : List Frame) (args : Array Value) (s : State) (A : Nat → Prop) : State → Prop := vx_MQ below (qX G tgt.1 tgt.2.1 [oBr b tx h ht pa sl fi tgt.2.2.1, aS G sl 2 sg, aZ G fi 2 ff, oSt h o g tgt.2.2.2.1, aI G o 6 tgt.2.2.2.2.1, oLed g k tgt.2.2.2.2.2.1, aI G k 80 tgt.2.2.2.2.2.2, oSt h2 o2 g2 f2, aI G o2 6 oh2, oLed g2 k2 lf2, aI G k2 80 ce2] A) (xX G tgt.1 w0 A) args s 1 6 A
def P_X3_restore (bf : Nat → Int32) (sg : Nat → Option Nat) (ff : Nat → Int32) (f : Nat → Int32) (oh : Nat → Int32) (lf : Nat → Int32) (ce : Nat → Int32) (f2 : Nat → Int32) (oh2 : Nat → Int32) (lf2 : Nat → Int32) (ce2 : Nat → Int32) (slt : Int32) : Int32 × Int32 × (Nat → Int32) × (Nat → Int32) × (Nat → Int32) × (Nat → Int32) × (Nat → Int32) := (if (P_X3_outside slt 0 1) = 0 then (if slt < 2 then (if (ff slt.toNatClampNeg) = 0 then (2, 0, bf, f, oh, lf, ce) else (let u61 := P_X1_copyFrom f oh lf ce f2 oh2 lf2 ce2; let u65 := P_X3_forgetPast bf; (0, (u61.1 8), u65, u61.1, u61.2.1, u61.2.2.1, u61.2.2.2))) else (3, 0, bf, f, oh, lf, ce)) else (3, 0, bf, f, oh, lf, ce))
set_option maxHeartbeats 4000000 in
set_option maxRecDepth 100000 in
theorem c_X3_restore (l : Launch) (hlt : l.stackTraces = false) (G : gG) (b : Nat) (tx : Nat) (h : Nat) (ht : Nat) (pa : Nat) (sl : Nat) (fi : Nat) (o : Nat) (g : Nat) (k : Nat) (h2 : Nat) (o2 : Nat) (g2 : Nat) (k2 : Nat) (bf : Nat → Int32) (sg : Nat → Option Nat) (ff : Nat → Int32) (f : Nat → Int32) (oh : Nat → Int32) (lf : Nat → Int32) (ce : Nat → Int32) (f2 : Nat → Int32) (oh2 : Nat → Int32) (lf2 : Nat → Int32) (ce2 : Nat → Int32) (slt : Int32) (hst2 : f2 9 = 0 ∨ f2 9 = 1) (hsl : P_X3_outside slt 0 1 = 0 → P_X3_entry 2 sg slt = some h2) : kX l G yX3_restore wsX3_restore rm_X3_restore [.ref b, .int slt] [oBr b tx h ht pa sl fi bf, aS G sl 2 sg, aZ G fi 2 ff, oSt h o g f, aI G o 6 oh, oLed g k lf, aI G k 80 ce, oSt h2 o2 g2 f2, aI G o2 6 oh2, oLed g2 k2 lf2, aI G k2 80 ce2] (qX G ((P_X3_restore bf sg ff f oh lf ce f2 oh2 lf2 ce2 slt).1) ((P_X3_restore bf sg ff f oh lf ce f2 oh2 lf2 ce2 slt).2.1) [oBr b tx h ht pa sl fi ((P_X3_restore bf sg ff f oh lf ce f2 oh2 lf2 ce2 slt).2.2.1), aS G sl 2 sg, aZ G fi 2 ff, oSt h o g ((P_X3_restore bf sg ff f oh lf ce f2 oh2 lf2 ce2 slt).2.2.2.1), aI G o 6 ((P_X3_restore bf sg ff f oh lf ce f2 oh2 lf2 ce2 slt).2.2.2.2.1), oLed g k ((P_X3_restore bf sg ff f oh lf ce f2 oh2 lf2 ce2 slt).2.2.2.2.2.1), aI G k 80 ((P_X3_restore bf sg ff f oh lf ce f2 oh2 lf2 ce2 slt).2.2.2.2.2.2), oSt h2 o2 g2 f2, aI G o2 6 oh2, oLed g2 k2 lf2, aI G k2 80 ce2]) (xX G ((P_X3_restore bf sg ff f oh lf ce f2 oh2 lf2 ce2 slt).1) [oBr b tx h ht pa sl fi bf, aS G sl 2 sg, aZ G fi 2 ff, oSt h o g f, aI G o 6 oh, oLed g k lf, aI G k 80 ce, oSt h2 o2 g2 f2, aI G o2 6 oh2, oLed g2 k2 lf2, aI G k2 80 ce2]) := by
  refine k_bodyX (cc := cX3_restore) (nL := 2) (ret := (some .int)) hlt (by decide) rfl (Nat.le_of_ble_eq_true rfl) ?_
  intro p e s m args below meth c A cx ct hP hD hS ls hl
  obtain ⟨hx, hb, hml, hown, hts, hr, hlocks, hK, hA⟩ := id cx
  obtain ⟨H, hH⟩ : ∃ H, H = s.heap := ⟨_, rfl⟩
  obtain ⟨locs, hL⟩ : ∃ locs : List Loc, locs = [] := ⟨_, rfl⟩
  obtain ⟨tgt, hq⟩ : ∃ tgt, (P_X3_restore bf sg ff f oh lf ce f2 oh2 lf2 ce2 slt) = tgt := ⟨_, rfl⟩
  obtain ⟨w0, hw0⟩ : ∃ w0 : va_W, w0 = [oBr b tx h ht pa sl fi bf, aS G sl 2 sg, aZ G fi 2 ff, oSt h o g f, aI G o 6 oh, oLed g k lf, aI G k 80 ce, oSt h2 o2 g2 f2, aI G o2 6 oh2, oLed g2 k2 lf2, aI G k2 80 ce2] := ⟨_, rfl⟩
  have hS : va_S A s.heap H locs := by rw [hH, hL]; exact hS
  rw [← hH] at hP
  have hl : lv_has ls 2 [(0, .ref b), (1, .int slt)] := hl
  have key : ∀ (H : Heap) (locs : List Loc), va_P G.1 vwCl [oBr b tx h ht pa sl fi bf, aS G sl 2 sg, aZ G fi 2 ff, oSt h o g f, aI G o 6 oh, oLed g k lf, aI G k 80 ce, oSt h2 o2 g2 f2, aI G o2 6 oh2, oLed g2 k2 lf2, aI G k2 80 ce2] H → va_D A [oBr b tx h ht pa sl fi bf, aS G sl 2 sg, aZ G fi 2 ff, oSt h o g f, aI G o 6 oh, oLed g k lf, aI G k 80 ce, oSt h2 o2 g2 f2, aI G o2 6 oh2, oLed g2 k2 lf2, aI G k2 80 ce2] → va_S A s.heap H locs → W p l e rm_X3_restore s m args below meth c H locs 0 0 (Q_X3_restore G b tx h ht pa sl fi o g k h2 o2 g2 k2 w0 sg ff f2 oh2 lf2 ce2 tgt below args s A) (F0 m 0 ls []) := by
    clear hP hD hS hH hL
    intro H locs hP hD hS
    unfold P_X3_restore at hq
    refine lv_iload_n hx hb dX3_restore_0 rfl (lv_at hl 1 rfl) ?_
    refine lv_iconst (v := 0) hx hb dX3_restore_1 (by decide) ?_
    refine lv_iconst (v := 1) hx hb dX3_restore_2 (by decide) ?_
    have hC := c_X3_outside l G slt 0 1
    refine k_i (ws' := [oBr b tx h ht pa sl fi bf, aS G sl 2 sg, aZ G fi 2 ff, oSt h o g f, aI G o 6 oh, oLed g k lf, aI G k 80 ce, oSt h2 o2 g2 f2, aI G o2 6 oh2, oLed g2 k2 lf2, aI G k2 80 ce2]) (as := []) cx hP hD hS [] rfl (kr_S (n := 3) (As := [.int slt, .int 0, .int 1]) cx hC gX3_restore_X3_outside rfl rfl rfl (by decide +kernel) ⟨Nat.le_of_ble_eq_true rfl, Nat.le_of_ble_eq_true rfl⟩ hP hD [] rfl rfl rfl rfl hl (Nat.le_of_ble_eq_true rfl) dX3_restore_3 ⟨Nat.zero_le _, Nat.zero_le _⟩) ⟨rfl, rfl⟩ rfl (fun H locs hP hD hS => ?_)
    refine lv_if_ne (tgt := 18) hx hb dX3_restore_6 (by decide) (fun c_6 => ?_) (fun c_6 => ?_)
    · replace hq := (if_neg c_6).symm.trans hq
      subst hq
      exact k_thrW (cls := "java/lang/IndexOutOfBoundsException") (tx := "no such save slot") (r := 0) (ws := [oBr b tx h ht pa sl fi bf, aS G sl 2 sg, aZ G fi 2 ff, oSt h o g f, aI G o 6 oh, oLed g k lf, aI G k 80 ce, oSt h2 o2 g2 f2, aI G o2 6 oh2, oLed g2 k2 lf2, aI G k2 80 ce2]) (w0 := w0) cx ct (by decide +kernel) ⟨by decide +kernel, by decide +kernel⟩ (by decide +kernel) (fun w h => List.mem_cons_of_mem _ (List.mem_append_left _ (List.mem_append_right _ h))) e1_152 e2_148_152 rfl (by rw [hw0]; exact hP) hS hl ⟨Nat.le_of_ble_eq_true rfl, Nat.le_of_ble_eq_true rfl, Nat.le_of_ble_eq_true rfl, Nat.le_of_ble_eq_true rfl⟩ dX3_restore_18 dX3_restore_21 dX3_restore_22 dX3_restore_25 dX3_restore_28
    · replace hq := (if_pos c_6).symm.trans hq
      refine lv_iload_n hx hb dX3_restore_9 rfl (lv_at hl 1 rfl) ?_
      refine lv_aload_n hx hb dX3_restore_10 rfl (lv_at hl 0 rfl) ?_
      refine k_get (v := .ref fi) (T := TX3) (C := RX3) (N := 8) cx hi_X3_restore_3 hP 0 rfl rfl 7 (by decide) (by decide +kernel) rfl dX3_restore_11 ?_
      refine k_alenI (v := 2) (t0 := 2) cx hP 2 rfl rfl rfl dX3_restore_14 ?_
      refine lv_icmp_lt (tgt := 29) hx hb dX3_restore_15 (by decide) (fun c_15 => ?_) (fun c_15 => ?_)
      · replace hq := (if_pos c_15).symm.trans hq
        refine lv_aload_n hx hb dX3_restore_29 rfl (lv_at hl 0 rfl) ?_
        refine k_get (v := .ref fi) (T := TX3) (C := RX3) (N := 8) cx hi_X3_restore_3 hP 0 rfl rfl 7 (by decide) (by decide +kernel) rfl dX3_restore_30 ?_
        refine lv_iload_n hx hb dX3_restore_33 rfl (lv_at hl 1 rfl) ?_
        refine k_zald (j := slt.toNatClampNeg) cx hP 2 rfl rfl (ix_o2 c_6) dX3_restore_34 ?_
        refine lv_if_ne (tgt := 49) hx hb dX3_restore_35 (by decide) (fun c_35 => ?_) (fun c_35 => ?_)
        · replace hq := (if_neg c_35).symm.trans hq
          refine lv_aload_n hx hb dX3_restore_49 rfl (lv_at hl 0 rfl) ?_
          refine k_get (v := .ref h) (T := TX3) (C := RX3) (N := 8) cx hi_X3_restore_3 hP 0 rfl rfl 1 (by decide) (by decide +kernel) rfl dX3_restore_50 ?_
          refine lv_aload_n hx hb dX3_restore_53 rfl (lv_at hl 0 rfl) ?_
          refine k_get (v := .ref sl) (T := TX3) (C := RX3) (N := 8) cx hi_X3_restore_3 hP 0 rfl rfl 6 (by decide) (by decide +kernel) rfl dX3_restore_54 ?_
          refine lv_iload_n hx hb dX3_restore_57 rfl (lv_at hl 1 rfl) ?_
          have hC := c_X3_entry l G sl 2 sg slt (by decide)
          refine k_q (ws' := [oBr b tx h ht pa sl fi bf, aS G sl 2 sg, aZ G fi 2 ff, oSt h o g f, aI G o 6 oh, oLed g k lf, aI G k 80 ce, oSt h2 o2 g2 f2, aI G o2 6 oh2, oLed g2 k2 lf2, aI G k2 80 ce2]) (as := [sl]) cx hP hD hS [1] rfl (kr_S (n := 2) (As := [.ref sl, .int slt]) cx hC gX3_restore_X3_entry rfl rfl rfl (by decide +kernel) ⟨Nat.le_of_ble_eq_true rfl, Nat.le_of_ble_eq_true rfl⟩ hP hD [1] rfl rfl rfl rfl hl (Nat.le_of_ble_eq_true rfl) dX3_restore_58 ⟨Nat.zero_le _, Nat.zero_le _⟩) ⟨rfl, rfl⟩ rfl (fun H locs hP hD hS => ?_)
          refine k_known (a := h2) (hsl c_6) ?_
          have hC := c_X1_copyFrom l G h o g k h2 o2 g2 k2 f oh lf ce f2 oh2 lf2 ce2 (hst2)
          generalize hu61 : P_X1_copyFrom f oh lf ce f2 oh2 lf2 ce2 = u61 at hC hq
          refine k_v (ws' := [oBr b tx h ht pa sl fi bf, aS G sl 2 sg, aZ G fi 2 ff, oSt h o g u61.1, aI G o 6 u61.2.1, oLed g k u61.2.2.1, aI G k 80 u61.2.2.2, oSt h2 o2 g2 f2, aI G o2 6 oh2, oLed g2 k2 lf2, aI G k2 80 ce2]) (as := [h, o, g, k, h2, o2, g2, k2]) cx hP hD hS [3, 4, 5, 6, 7, 8, 9, 10] rfl (kr_VN (n := 1) (As := [.ref h2]) (ci := 1) cx hC gX3_restore_X1_copyFrom_n181 rfl rfl rfl nn_X3_181 (by decide +kernel) (by decide +kernel) (by decide +kernel) (by decide +kernel) ⟨Nat.le_of_ble_eq_true rfl, Nat.le_of_ble_eq_true rfl⟩ rfl rfl rfl hP hD [3, 4, 5, 6, 7, 8, 9, 10] rfl rfl rfl rfl hl (Nat.le_of_ble_eq_true rfl) dX3_restore_61 ⟨Nat.zero_le _, Nat.zero_le _⟩) ⟨rfl, rfl⟩ rfl (fun H locs hP hD hS => ?_)
          refine lv_aload_n hx hb dX3_restore_64 rfl (lv_at hl 0 rfl) ?_
          have hC := c_X3_forgetPast l G b tx h ht pa sl fi bf
          replace hq := k_let hq
          generalize hu65 : P_X3_forgetPast bf = u65 at hC hq
          refine k_v (ws' := [oBr b tx h ht pa sl fi u65, aS G sl 2 sg, aZ G fi 2 ff, oSt h o g u61.1, aI G o 6 u61.2.1, oLed g k u61.2.2.1, aI G k 80 u61.2.2.2, oSt h2 o2 g2 f2, aI G o2 6 oh2, oLed g2 k2 lf2, aI G k2 80 ce2]) (as := [b]) cx hP hD hS [0] rfl (kr_V (n := 0) (As := []) (ci := 3) cx hC gX3_restore_X3_forgetPast rfl rfl rfl (by decide +kernel) ⟨Nat.le_of_ble_eq_true rfl, Nat.le_of_ble_eq_true rfl⟩ rfl rfl rfl hP hD [0] rfl rfl rfl rfl hl (Nat.le_of_ble_eq_true rfl) dX3_restore_65 ⟨Nat.zero_le _, Nat.zero_le _⟩) ⟨rfl, rfl⟩ rfl (fun H locs hP hD hS => ?_)
          refine lv_aload_n hx hb dX3_restore_68 rfl (lv_at hl 0 rfl) ?_
          refine k_get (v := .ref h) (T := TX3) (C := RX3) (N := 8) cx hi_X3_restore_3 hP 0 rfl rfl 1 (by decide) (by decide +kernel) rfl dX3_restore_69 ?_
          refine k_getN (v := .int (u61.1 8)) (T := TX1) (C := RX1) (N := 16) (host := RX3) cx hi_X3_restore_1 hP 3 rfl rfl 8 (by decide) nn_X3_265 rfl dX3_restore_72 ?_
          subst hq
          exact k_iretX cx rfl hP hS dX3_restore_75
        · replace hq := (if_pos c_35).symm.trans hq
          subst hq
          exact k_thrW (cls := "java/lang/IllegalStateException") (tx := "nothing has been saved in this slot") (r := 0) (ws := [oBr b tx h ht pa sl fi bf, aS G sl 2 sg, aZ G fi 2 ff, oSt h o g f, aI G o 6 oh, oLed g k lf, aI G k 80 ce, oSt h2 o2 g2 f2, aI G o2 6 oh2, oLed g2 k2 lf2, aI G k2 80 ce2]) (w0 := w0) cx ct (by decide +kernel) ⟨by decide +kernel, by decide +kernel⟩ (by decide +kernel) (fun w h => List.mem_cons_of_mem _ (List.mem_append_right _ h)) e1_56 e2_52_56 rfl (by rw [hw0]; exact hP) hS hl ⟨Nat.le_of_ble_eq_true rfl, Nat.le_of_ble_eq_true rfl, Nat.le_of_ble_eq_true rfl, Nat.le_of_ble_eq_true rfl⟩ dX3_restore_38 dX3_restore_41 dX3_restore_42 dX3_restore_45 dX3_restore_48
      · replace hq := (if_neg c_15).symm.trans hq
        subst hq
        exact k_thrW (cls := "java/lang/IndexOutOfBoundsException") (tx := "no such save slot") (r := 0) (ws := [oBr b tx h ht pa sl fi bf, aS G sl 2 sg, aZ G fi 2 ff, oSt h o g f, aI G o 6 oh, oLed g k lf, aI G k 80 ce, oSt h2 o2 g2 f2, aI G o2 6 oh2, oLed g2 k2 lf2, aI G k2 80 ce2]) (w0 := w0) cx ct (by decide +kernel) ⟨by decide +kernel, by decide +kernel⟩ (by decide +kernel) (fun w h => List.mem_cons_of_mem _ (List.mem_append_left _ (List.mem_append_right _ h))) e1_152 e2_148_152 rfl (by rw [hw0]; exact hP) hS hl ⟨Nat.le_of_ble_eq_true rfl, Nat.le_of_ble_eq_true rfl, Nat.le_of_ble_eq_true rfl, Nat.le_of_ble_eq_true rfl⟩ dX3_restore_18 dX3_restore_21 dX3_restore_22 dX3_restore_25 dX3_restore_28
  subst hL
  subst hH
  subst hq
  subst hw0
  exact key _ _ hP hD hS
