/-! X3_press -/
theorem hi_X3_press_1 : ∀ w ∈ u_ws RX1 TX1 16, w ∈ wsX3_press := by decide +kernel
theorem hi_X3_press_3 : ∀ w ∈ u_ws RX3 TX3 8, w ∈ wsX3_press := by decide +kernel
abbrev rm_X3_press : Room := { frames := 6, cells := 1, slots := 6, locals := 82 }
abbrev Q_X3_press (G : gG) (b : Nat) (tx : Nat) (h : Nat) (ht : Nat) (pa : Nat) (sl : Nat) (fi : Nat) (o : Nat) (g : Nat) (k : Nat) (h2 : Nat) (o2 : Nat) (g2 : Nat) (k2 : Nat) (w0 : va_W)  (pg : Nat → Option Nat) (oh : Nat → Int32) (tgt : Int32 × Int32 × (Nat → Int32) × (Nat → Int32) × (Nat → Int32) × (Nat → Int32) × (Nat → Int32) × (Nat → Int32) × (Nat → Int32) × (Nat → Int32)) (below : List Frame) (args : Array Value) (s : State) (A : Nat → Prop) : State → Prop := vx_MQ below (qX G tgt.1 tgt.2.1 [oBr b tx h ht pa sl fi tgt.2.2.1, aS G pa 14 pg, oSt h o g tgt.2.2.2.1, aI G o 6 oh, oLed g k tgt.2.2.2.2.1, aI G k 80 tgt.2.2.2.2.2.1, oSt h2 o2 g2 tgt.2.2.2.2.2.2.1, aI G o2 6 tgt.2.2.2.2.2.2.2.1, oLed g2 k2 tgt.2.2.2.2.2.2.2.2.1, aI G k2 80 tgt.2.2.2.2.2.2.2.2.2] A) (xX G tgt.1 w0 A) args s 1 6 A
def P_X3_press (bf : Nat → Int32) (pg : Nat → Option Nat) (f : Nat → Int32) (oh : Nat → Int32) (lf : Nat → Int32) (ce : Nat → Int32) (f2 : Nat → Int32) (oh2 : Nat → Int32) (lf2 : Nat → Int32) (ce2 : Nat → Int32) (rv : Int32) : Int32 × Int32 × (Nat → Int32) × (Nat → Int32) × (Nat → Int32) × (Nat → Int32) × (Nat → Int32) × (Nat → Int32) × (Nat → Int32) × (Nat → Int32) := (if (f 9) = 0 then (let u21 := P_X3_remember bf pg f oh lf ce f2 oh2 lf2 ce2; let u29 := P_X1_pressKey f oh lf ce rv; (0, u29.1, u21.1, u29.2.1, u29.2.2.1, u29.2.2.2, u21.2.1, u21.2.2.1, u21.2.2.2.1, u21.2.2.2.2)) else (2, 0, bf, f, lf, ce, f2, oh2, lf2, ce2))
set_option maxHeartbeats 4000000 in
set_option maxRecDepth 100000 in
theorem c_X3_press (l : Launch) (hlt : l.stackTraces = false) (G : gG) (b : Nat) (tx : Nat) (h : Nat) (ht : Nat) (pa : Nat) (sl : Nat) (fi : Nat) (o : Nat) (g : Nat) (k : Nat) (h2 : Nat) (o2 : Nat) (g2 : Nat) (k2 : Nat) (bf : Nat → Int32) (pg : Nat → Option Nat) (f : Nat → Int32) (oh : Nat → Int32) (lf : Nat → Int32) (ce : Nat → Int32) (f2 : Nat → Int32) (oh2 : Nat → Int32) (lf2 : Nat → Int32) (ce2 : Nat → Int32) (rv : Int32) (hst : f 9 = 0 ∨ f 9 = 1) (hpg : P_X3_entry 14 pg (bf 5) = some h2) : kX l G yX3_press wsX3_press rm_X3_press [.ref b, .int rv] [oBr b tx h ht pa sl fi bf, aS G pa 14 pg, oSt h o g f, aI G o 6 oh, oLed g k lf, aI G k 80 ce, oSt h2 o2 g2 f2, aI G o2 6 oh2, oLed g2 k2 lf2, aI G k2 80 ce2] (qX G ((P_X3_press bf pg f oh lf ce f2 oh2 lf2 ce2 rv).1) ((P_X3_press bf pg f oh lf ce f2 oh2 lf2 ce2 rv).2.1) [oBr b tx h ht pa sl fi ((P_X3_press bf pg f oh lf ce f2 oh2 lf2 ce2 rv).2.2.1), aS G pa 14 pg, oSt h o g ((P_X3_press bf pg f oh lf ce f2 oh2 lf2 ce2 rv).2.2.2.1), aI G o 6 oh, oLed g k ((P_X3_press bf pg f oh lf ce f2 oh2 lf2 ce2 rv).2.2.2.2.1), aI G k 80 ((P_X3_press bf pg f oh lf ce f2 oh2 lf2 ce2 rv).2.2.2.2.2.1), oSt h2 o2 g2 ((P_X3_press bf pg f oh lf ce f2 oh2 lf2 ce2 rv).2.2.2.2.2.2.1), aI G o2 6 ((P_X3_press bf pg f oh lf ce f2 oh2 lf2 ce2 rv).2.2.2.2.2.2.2.1), oLed g2 k2 ((P_X3_press bf pg f oh lf ce f2 oh2 lf2 ce2 rv).2.2.2.2.2.2.2.2.1), aI G k2 80 ((P_X3_press bf pg f oh lf ce f2 oh2 lf2 ce2 rv).2.2.2.2.2.2.2.2.2)]) (xX G ((P_X3_press bf pg f oh lf ce f2 oh2 lf2 ce2 rv).1) [oBr b tx h ht pa sl fi bf, aS G pa 14 pg, oSt h o g f, aI G o 6 oh, oLed g k lf, aI G k 80 ce, oSt h2 o2 g2 f2, aI G o2 6 oh2, oLed g2 k2 lf2, aI G k2 80 ce2]) := by
  refine k_bodyX (cc := cX3_press) (nL := 2) (ret := (some .int)) hlt (by decide) rfl (Nat.le_of_ble_eq_true rfl) ?_
  intro p e s m args below meth c A cx ct hP hD hS ls hl
  obtain ⟨hx, hb, hml, hown, hts, hr, hlocks, hK, hA⟩ := id cx
  obtain ⟨H, hH⟩ : ∃ H, H = s.heap := ⟨_, rfl⟩
  obtain ⟨locs, hL⟩ : ∃ locs : List Loc, locs = [] := ⟨_, rfl⟩
  obtain ⟨tgt, hq⟩ : ∃ tgt, (P_X3_press bf pg f oh lf ce f2 oh2 lf2 ce2 rv) = tgt := ⟨_, rfl⟩
  obtain ⟨w0, hw0⟩ : ∃ w0 : va_W, w0 = [oBr b tx h ht pa sl fi bf, aS G pa 14 pg, oSt h o g f, aI G o 6 oh, oLed g k lf, aI G k 80 ce, oSt h2 o2 g2 f2, aI G o2 6 oh2, oLed g2 k2 lf2, aI G k2 80 ce2] := ⟨_, rfl⟩
  have hS : va_S A s.heap H locs := by rw [hH, hL]; exact hS
  rw [← hH] at hP
  have hl : lv_has ls 2 [(0, .ref b), (1, .int rv)] := hl
  have key : ∀ (H : Heap) (locs : List Loc), va_P G.1 vwCl [oBr b tx h ht pa sl fi bf, aS G pa 14 pg, oSt h o g f, aI G o 6 oh, oLed g k lf, aI G k 80 ce, oSt h2 o2 g2 f2, aI G o2 6 oh2, oLed g2 k2 lf2, aI G k2 80 ce2] H → va_D A [oBr b tx h ht pa sl fi bf, aS G pa 14 pg, oSt h o g f, aI G o 6 oh, oLed g k lf, aI G k 80 ce, oSt h2 o2 g2 f2, aI G o2 6 oh2, oLed g2 k2 lf2, aI G k2 80 ce2] → va_S A s.heap H locs → W p l e rm_X3_press s m args below meth c H locs 0 0 (Q_X3_press G b tx h ht pa sl fi o g k h2 o2 g2 k2 w0 pg oh tgt below args s A) (F0 m 0 ls []) := by
    clear hP hD hS hH hL
    intro H locs hP hD hS
    unfold P_X3_press at hq
    refine lv_aload_n hx hb dX3_press_0 rfl (lv_at hl 0 rfl) ?_
    refine k_get (v := .ref h) (T := TX3) (C := RX3) (N := 8) cx hi_X3_press_3 hP 0 rfl rfl 1 (by decide) (by decide +kernel) rfl dX3_press_1 ?_
    refine k_getN (v := .int (f 9)) (T := TX1) (C := RX1) (N := 16) (host := RX3) cx hi_X3_press_1 hP 2 rfl rfl 9 (by decide) nn_X3_112 rfl dX3_press_4 ?_
    refine lv_if_eq (tgt := 20) hx hb dX3_press_7 (by decide) (fun c_7 => ?_) (fun c_7 => ?_)
    · replace hq := (if_pos c_7).symm.trans hq
      refine lv_aload_n hx hb dX3_press_20 rfl (lv_at hl 0 rfl) ?_
      have hC := c_X3_remember l G b tx h ht pa sl fi o g k h2 o2 g2 k2 bf pg f oh lf ce f2 oh2 lf2 ce2 (hst) (hpg)
      generalize hu21 : P_X3_remember bf pg f oh lf ce f2 oh2 lf2 ce2 = u21 at hC hq
      refine k_v (ws' := [oBr b tx h ht pa sl fi u21.1, aS G pa 14 pg, oSt h o g f, aI G o 6 oh, oLed g k lf, aI G k 80 ce, oSt h2 o2 g2 u21.2.1, aI G o2 6 u21.2.2.1, oLed g2 k2 u21.2.2.2.1, aI G k2 80 u21.2.2.2.2]) (as := [b, pa, h, o, g, k, h2, o2, g2, k2]) cx hP hD hS [0, 1, 2, 3, 4, 5, 6, 7, 8, 9] rfl (kr_V (n := 0) (As := []) (ci := 3) cx hC gX3_press_X3_remember rfl rfl rfl (by decide +kernel) ⟨Nat.le_of_ble_eq_true rfl, Nat.le_of_ble_eq_true rfl⟩ rfl rfl rfl hP hD [0, 1, 2, 3, 4, 5, 6, 7, 8, 9] rfl rfl rfl rfl hl (Nat.le_of_ble_eq_true rfl) dX3_press_21 ⟨Nat.zero_le _, Nat.zero_le _⟩) ⟨rfl, rfl⟩ rfl (fun H locs hP hD hS => ?_)
      refine lv_aload_n hx hb dX3_press_24 rfl (lv_at hl 0 rfl) ?_
      refine k_get (v := .ref h) (T := TX3) (C := RX3) (N := 8) cx hi_X3_press_3 hP 0 rfl rfl 1 (by decide) (by decide +kernel) rfl dX3_press_25 ?_
      refine lv_iload_n hx hb dX3_press_28 rfl (lv_at hl 1 rfl) ?_
      have hC := c_X1_pressKey l G h o g k f oh lf ce rv
      replace hq := k_let hq
      generalize hu29 : P_X1_pressKey f oh lf ce rv = u29 at hC hq
      refine k_i (ws' := [oBr b tx h ht pa sl fi u21.1, aS G pa 14 pg, oSt h o g u29.2.1, aI G o 6 oh, oLed g k u29.2.2.1, aI G k 80 u29.2.2.2, oSt h2 o2 g2 u21.2.1, aI G o2 6 u21.2.2.1, oLed g2 k2 u21.2.2.2.1, aI G k2 80 u21.2.2.2.2]) (as := [h, o, g, k]) cx hP hD hS [2, 3, 4, 5] rfl (kr_VN (n := 1) (As := [.int rv]) (ci := 1) cx hC gX3_press_X1_pressKey_n121 rfl rfl rfl nn_X3_121 (by decide +kernel) (by decide +kernel) (by decide +kernel) (by decide +kernel) ⟨Nat.le_of_ble_eq_true rfl, Nat.le_of_ble_eq_true rfl⟩ rfl rfl rfl hP hD [2, 3, 4, 5] rfl rfl rfl rfl hl (Nat.le_of_ble_eq_true rfl) dX3_press_29 ⟨Nat.zero_le _, Nat.zero_le _⟩) ⟨rfl, rfl⟩ rfl (fun H locs hP hD hS => ?_)
      subst hq
      exact k_iretX cx rfl hP hS dX3_press_32
    · replace hq := (if_neg c_7).symm.trans hq
      subst hq
      exact k_thrS (cls := "java/lang/IllegalStateException") (tx := "the galvanometer sticks") (r := 0) (ws := [oBr b tx h ht pa sl fi bf, aS G pa 14 pg, oSt h o g f, aI G o 6 oh, oLed g k lf, aI G k 80 ce, oSt h2 o2 g2 f2, aI G o2 6 oh2, oLed g2 k2 lf2, aI G k2 80 ce2]) (w0 := w0) cx ct (by decide +kernel) ⟨by decide +kernel, by decide +kernel⟩ (by decide +kernel) (fun w h => List.mem_cons_of_mem _ (List.mem_append_right _ h)) e1_56 e2_52_56 rfl (by rw [hw0]; exact hP) hS hl ⟨Nat.le_of_ble_eq_true rfl, Nat.le_of_ble_eq_true rfl, Nat.le_of_ble_eq_true rfl, Nat.le_of_ble_eq_true rfl⟩ dX3_press_10 dX3_press_13 dX3_press_14 dX3_press_16 dX3_press_19
  subst hL
  subst hH
  subst hq
  subst hw0
  exact key _ _ hP hD hS

/-! X3_pair -/
theorem hi_X3_pair_1 : ∀ w ∈ u_ws RX1 TX1 16, w ∈ wsX3_pair := by decide +kernel
theorem hi_X3_pair_3 : ∀ w ∈ u_ws RX3 TX3 8, w ∈ wsX3_pair := by decide +kernel
abbrev rm_X3_pair : Room := { frames := 6, cells := 1, slots := 6, locals := 89 }
abbrev Q_X3_pair (G : gG) (b : Nat) (tx : Nat) (h : Nat) (ht : Nat) (pa : Nat) (sl : Nat) (fi : Nat) (o : Nat) (g : Nat) (k : Nat) (h2 : Nat) (o2 : Nat) (g2 : Nat) (k2 : Nat) (w0 : va_W)  (pg : Nat → Option Nat) (oh : Nat → Int32) (tgt : Int32 × Int32 × (Nat → Int32) × (Nat → Int32) × (Nat → Int32) × (Nat → Int32) × (Nat → Int32) × (Nat → Int32) × (Nat → Int32) × (Nat → Int32)) (below : List Frame) (args : Array Value) (s : State) (A : Nat → Prop) : State → Prop := vx_MQ below (qX G tgt.1 tgt.2.1 [oBr b tx h ht pa sl fi tgt.2.2.1, aS G pa 14 pg, oSt h o g tgt.2.2.2.1, aI G o 6 oh, oLed g k tgt.2.2.2.2.1, aI G k 80 tgt.2.2.2.2.2.1, oSt h2 o2 g2 tgt.2.2.2.2.2.2.1, aI G o2 6 tgt.2.2.2.2.2.2.2.1, oLed g2 k2 tgt.2.2.2.2.2.2.2.2.1, aI G k2 80 tgt.2.2.2.2.2.2.2.2.2] A) (xX G tgt.1 w0 A) args s 1 6 A
def P_X3_pair (bf : Nat → Int32) (pg : Nat → Option Nat) (f : Nat → Int32) (oh : Nat → Int32) (lf : Nat → Int32) (ce : Nat → Int32) (f2 : Nat → Int32) (oh2 : Nat → Int32) (lf2 : Nat → Int32) (ce2 : Nat → Int32) : Int32 × Int32 × (Nat → Int32) × (Nat → Int32) × (Nat → Int32) × (Nat → Int32) × (Nat → Int32) × (Nat → Int32) × (Nat → Int32) × (Nat → Int32) := (if (f 9) = 0 then (let u21 := P_X3_remember bf pg f oh lf ce f2 oh2 lf2 ce2; let u28 := P_X1_pressBothWays f oh lf ce; (0, u28.1, u21.1, u28.2.1, u28.2.2.1, u28.2.2.2, u21.2.1, u21.2.2.1, u21.2.2.2.1, u21.2.2.2.2)) else (2, 0, bf, f, lf, ce, f2, oh2, lf2, ce2))
set_option maxHeartbeats 4000000 in
set_option maxRecDepth 100000 in
theorem c_X3_pair (l : Launch) (hlt : l.stackTraces = false) (G : gG) (b : Nat) (tx : Nat) (h : Nat) (ht : Nat) (pa : Nat) (sl : Nat) (fi : Nat) (o : Nat) (g : Nat) (k : Nat) (h2 : Nat) (o2 : Nat) (g2 : Nat) (k2 : Nat) (bf : Nat → Int32) (pg : Nat → Option Nat) (f : Nat → Int32) (oh : Nat → Int32) (lf : Nat → Int32) (ce : Nat → Int32) (f2 : Nat → Int32) (oh2 : Nat → Int32) (lf2 : Nat → Int32) (ce2 : Nat → Int32) (hst : f 9 = 0 ∨ f 9 = 1) (hpg : P_X3_entry 14 pg (bf 5) = some h2) : kX l G yX3_pair wsX3_pair rm_X3_pair [.ref b] [oBr b tx h ht pa sl fi bf, aS G pa 14 pg, oSt h o g f, aI G o 6 oh, oLed g k lf, aI G k 80 ce, oSt h2 o2 g2 f2, aI G o2 6 oh2, oLed g2 k2 lf2, aI G k2 80 ce2] (qX G ((P_X3_pair bf pg f oh lf ce f2 oh2 lf2 ce2).1) ((P_X3_pair bf pg f oh lf ce f2 oh2 lf2 ce2).2.1) [oBr b tx h ht pa sl fi ((P_X3_pair bf pg f oh lf ce f2 oh2 lf2 ce2).2.2.1), aS G pa 14 pg, oSt h o g ((P_X3_pair bf pg f oh lf ce f2 oh2 lf2 ce2).2.2.2.1), aI G o 6 oh, oLed g k ((P_X3_pair bf pg f oh lf ce f2 oh2 lf2 ce2).2.2.2.2.1), aI G k 80 ((P_X3_pair bf pg f oh lf ce f2 oh2 lf2 ce2).2.2.2.2.2.1), oSt h2 o2 g2 ((P_X3_pair bf pg f oh lf ce f2 oh2 lf2 ce2).2.2.2.2.2.2.1), aI G o2 6 ((P_X3_pair bf pg f oh lf ce f2 oh2 lf2 ce2).2.2.2.2.2.2.2.1), oLed g2 k2 ((P_X3_pair bf pg f oh lf ce f2 oh2 lf2 ce2).2.2.2.2.2.2.2.2.1), aI G k2 80 ((P_X3_pair bf pg f oh lf ce f2 oh2 lf2 ce2).2.2.2.2.2.2.2.2.2)]) (xX G ((P_X3_pair bf pg f oh lf ce f2 oh2 lf2 ce2).1) [oBr b tx h ht pa sl fi bf, aS G pa 14 pg, oSt h o g f, aI G o 6 oh, oLed g k lf, aI G k 80 ce, oSt h2 o2 g2 f2, aI G o2 6 oh2, oLed g2 k2 lf2, aI G k2 80 ce2]) := by
  refine k_bodyX (cc := cX3_pair) (nL := 1) (ret := (some .int)) hlt (by decide) rfl (Nat.le_of_ble_eq_true rfl) ?_
  intro p e s m args below meth c A cx ct hP hD hS ls hl
  obtain ⟨hx, hb, hml, hown, hts, hr, hlocks, hK, hA⟩ := id cx
  obtain ⟨H, hH⟩ : ∃ H, H = s.heap := ⟨_, rfl⟩
  obtain ⟨locs, hL⟩ : ∃ locs : List Loc, locs = [] := ⟨_, rfl⟩
  obtain ⟨tgt, hq⟩ : ∃ tgt, (P_X3_pair bf pg f oh lf ce f2 oh2 lf2 ce2) = tgt := ⟨_, rfl⟩
  obtain ⟨w0, hw0⟩ : ∃ w0 : va_W, w0 = [oBr b tx h ht pa sl fi bf, aS G pa 14 pg, oSt h o g f, aI G o 6 oh, oLed g k lf, aI G k 80 ce, oSt h2 o2 g2 f2, aI G o2 6 oh2, oLed g2 k2 lf2, aI G k2 80 ce2] := ⟨_, rfl⟩
  have hS : va_S A s.heap H locs := by rw [hH, hL]; exact hS
  rw [← hH] at hP
  have hl : lv_has ls 1 [(0, .ref b)] := hl
  have key : ∀ (H : Heap) (locs : List Loc), va_P G.1 vwCl [oBr b tx h ht pa sl fi bf, aS G pa 14 pg, oSt h o g f, aI G o 6 oh, oLed g k lf, aI G k 80 ce, oSt h2 o2 g2 f2, aI G o2 6 oh2, oLed g2 k2 lf2, aI G k2 80 ce2] H → va_D A [oBr b tx h ht pa sl fi bf, aS G pa 14 pg, oSt h o g f, aI G o 6 oh, oLed g k lf, aI G k 80 ce, oSt h2 o2 g2 f2, aI G o2 6 oh2, oLed g2 k2 lf2, aI G k2 80 ce2] → va_S A s.heap H locs → W p l e rm_X3_pair s m args below meth c H locs 0 0 (Q_X3_pair G b tx h ht pa sl fi o g k h2 o2 g2 k2 w0 pg oh tgt below args s A) (F0 m 0 ls []) := by
    clear hP hD hS hH hL
    intro H locs hP hD hS
    unfold P_X3_pair at hq
    refine lv_aload_n hx hb dX3_pair_0 rfl (lv_at hl 0 rfl) ?_
    refine k_get (v := .ref h) (T := TX3) (C := RX3) (N := 8) cx hi_X3_pair_3 hP 0 rfl rfl 1 (by decide) (by decide +kernel) rfl dX3_pair_1 ?_
    refine k_getN (v := .int (f 9)) (T := TX1) (C := RX1) (N := 16) (host := RX3) cx hi_X3_pair_1 hP 2 rfl rfl 9 (by decide) nn_X3_112 rfl dX3_pair_4 ?_
    refine lv_if_eq (tgt := 20) hx hb dX3_pair_7 (by decide) (fun c_7 => ?_) (fun c_7 => ?_)
    · replace hq := (if_pos c_7).symm.trans hq
      refine lv_aload_n hx hb dX3_pair_20 rfl (lv_at hl 0 rfl) ?_
      have hC := c_X3_remember l G b tx h ht pa sl fi o g k h2 o2 g2 k2 bf pg f oh lf ce f2 oh2 lf2 ce2 (hst) (hpg)
      generalize hu21 : P_X3_remember bf pg f oh lf ce f2 oh2 lf2 ce2 = u21 at hC hq
      refine k_v (ws' := [oBr b tx h ht pa sl fi u21.1, aS G pa 14 pg, oSt h o g f, aI G o 6 oh, oLed g k lf, aI G k 80 ce, oSt h2 o2 g2 u21.2.1, aI G o2 6 u21.2.2.1, oLed g2 k2 u21.2.2.2.1, aI G k2 80 u21.2.2.2.2]) (as := [b, pa, h, o, g, k, h2, o2, g2, k2]) cx hP hD hS [0, 1, 2, 3, 4, 5, 6, 7, 8, 9] rfl (kr_V (n := 0) (As := []) (ci := 3) cx hC gX3_pair_X3_remember rfl rfl rfl (by decide +kernel) ⟨Nat.le_of_ble_eq_true rfl, Nat.le_of_ble_eq_true rfl⟩ rfl rfl rfl hP hD [0, 1, 2, 3, 4, 5, 6, 7, 8, 9] rfl rfl rfl rfl hl (Nat.le_of_ble_eq_true rfl) dX3_pair_21 ⟨Nat.zero_le _, Nat.zero_le _⟩) ⟨rfl, rfl⟩ rfl (fun H locs hP hD hS => ?_)
      refine lv_aload_n hx hb dX3_pair_24 rfl (lv_at hl 0 rfl) ?_
      refine k_get (v := .ref h) (T := TX3) (C := RX3) (N := 8) cx hi_X3_pair_3 hP 0 rfl rfl 1 (by decide) (by decide +kernel) rfl dX3_pair_25 ?_
      have hC := c_X1_pressBothWays l G h o g k f oh lf ce
      replace hq := k_let hq
      generalize hu28 : P_X1_pressBothWays f oh lf ce = u28 at hC hq
      refine k_i (ws' := [oBr b tx h ht pa sl fi u21.1, aS G pa 14 pg, oSt h o g u28.2.1, aI G o 6 oh, oLed g k u28.2.2.1, aI G k 80 u28.2.2.2, oSt h2 o2 g2 u21.2.1, aI G o2 6 u21.2.2.1, oLed g2 k2 u21.2.2.2.1, aI G k2 80 u21.2.2.2.2]) (as := [h, o, g, k]) cx hP hD hS [2, 3, 4, 5] rfl (kr_VN (n := 0) (As := []) (ci := 1) cx hC gX3_pair_X1_pressBothWays_n125 rfl rfl rfl nn_X3_125 (by decide +kernel) (by decide +kernel) (by decide +kernel) (by decide +kernel) ⟨Nat.le_of_ble_eq_true rfl, Nat.le_of_ble_eq_true rfl⟩ rfl rfl rfl hP hD [2, 3, 4, 5] rfl rfl rfl rfl hl (Nat.le_of_ble_eq_true rfl) dX3_pair_28 ⟨Nat.zero_le _, Nat.zero_le _⟩) ⟨rfl, rfl⟩ rfl (fun H locs hP hD hS => ?_)
      subst hq
      exact k_iretX cx rfl hP hS dX3_pair_31
    · replace hq := (if_neg c_7).symm.trans hq
      subst hq
      exact k_thrS (cls := "java/lang/IllegalStateException") (tx := "the galvanometer sticks") (r := 0) (ws := [oBr b tx h ht pa sl fi bf, aS G pa 14 pg, oSt h o g f, aI G o 6 oh, oLed g k lf, aI G k 80 ce, oSt h2 o2 g2 f2, aI G o2 6 oh2, oLed g2 k2 lf2, aI G k2 80 ce2]) (w0 := w0) cx ct (by decide +kernel) ⟨by decide +kernel, by decide +kernel⟩ (by decide +kernel) (fun w h => List.mem_cons_of_mem _ (List.mem_append_right _ h)) e1_56 e2_52_56 rfl (by rw [hw0]; exact hP) hS hl ⟨Nat.le_of_ble_eq_true rfl, Nat.le_of_ble_eq_true rfl, Nat.le_of_ble_eq_true rfl, Nat.le_of_ble_eq_true rfl⟩ dX3_pair_10 dX3_pair_13 dX3_pair_14 dX3_pair_16 dX3_pair_19
  subst hL
  subst hH
  subst hq
  subst hw0
  exact key _ _ hP hD hS

/-! X3_pause -/
theorem hi_X3_pause_3 : ∀ w ∈ u_ws RX3 TX3 8, w ∈ wsX3_pause := by decide +kernel
abbrev rm_X3_pause : Room := { frames := 6, cells := 1, slots := 6, locals := 82 }
abbrev Q_X3_pause (G : gG) (b : Nat) (tx : Nat) (h : Nat) (ht : Nat) (pa : Nat) (sl : Nat) (fi : Nat) (o : Nat) (g : Nat) (k : Nat) (h2 : Nat) (o2 : Nat) (g2 : Nat) (k2 : Nat) (w0 : va_W)  (pg : Nat → Option Nat) (oh : Nat → Int32) (lf : Nat → Int32) (ce : Nat → Int32) (tgt : Int32 × Int32 × (Nat → Int32) × (Nat → Int32) × (Nat → Int32) × (Nat → Int32) × (Nat → Int32) × (Nat → Int32)) (below : List Frame) (args : Array Value) (s : State) (A : Nat → Prop) : State → Prop := vx_MQ below (qX G tgt.1 tgt.2.1 [oBr b tx h ht pa sl fi tgt.2.2.1, aS G pa 14 pg, oSt h o g tgt.2.2.2.1, aI G o 6 oh, oLed g k lf, aI G k 80 ce, oSt h2 o2 g2 tgt.2.2.2.2.1, aI G o2 6 tgt.2.2.2.2.2.1, oLed g2 k2 tgt.2.2.2.2.2.2.1, aI G k2 80 tgt.2.2.2.2.2.2.2] A) (xX G tgt.1 w0 A) args s 1 6 A
def P_X3_pause (bf : Nat → Int32) (pg : Nat → Option Nat) (f : Nat → Int32) (oh : Nat → Int32) (lf : Nat → Int32) (ce : Nat → Int32) (f2 : Nat → Int32) (oh2 : Nat → Int32) (lf2 : Nat → Int32) (ce2 : Nat → Int32) (tk : Int32) : Int32 × Int32 × (Nat → Int32) × (Nat → Int32) × (Nat → Int32) × (Nat → Int32) × (Nat → Int32) × (Nat → Int32) := (if (P_X3_outside tk 1 200) = 0 then (let u22 := P_X3_remember bf pg f oh lf ce f2 oh2 lf2 ce2; let u30 := P_X1_waitTicks f tk; (0, (P_X1_offset u30), u22.1, u30, u22.2.1, u22.2.2.1, u22.2.2.2.1, u22.2.2.2.2)) else (1, 0, bf, f, f2, oh2, lf2, ce2))
set_option maxHeartbeats 4000000 in
set_option maxRecDepth 100000 in
theorem c_X3_pause (l : Launch) (hlt : l.stackTraces = false) (G : gG) (b : Nat) (tx : Nat) (h : Nat) (ht : Nat) (pa : Nat) (sl : Nat) (fi : Nat) (o : Nat) (g : Nat) (k : Nat) (h2 : Nat) (o2 : Nat) (g2 : Nat) (k2 : Nat) (bf : Nat → Int32) (pg : Nat → Option Nat) (f : Nat → Int32) (oh : Nat → Int32) (lf : Nat → Int32) (ce : Nat → Int32) (f2 : Nat → Int32) (oh2 : Nat → Int32) (lf2 : Nat → Int32) (ce2 : Nat → Int32) (tk : Int32) (hst : f 9 = 0 ∨ f 9 = 1) (hpg : P_X3_entry 14 pg (bf 5) = some h2) : kX l G yX3_pause wsX3_pause rm_X3_pause [.ref b, .int tk] [oBr b tx h ht pa sl fi bf, aS G pa 14 pg, oSt h o g f, aI G o 6 oh, oLed g k lf, aI G k 80 ce, oSt h2 o2 g2 f2, aI G o2 6 oh2, oLed g2 k2 lf2, aI G k2 80 ce2] (qX G ((P_X3_pause bf pg f oh lf ce f2 oh2 lf2 ce2 tk).1) ((P_X3_pause bf pg f oh lf ce f2 oh2 lf2 ce2 tk).2.1) [oBr b tx h ht pa sl fi ((P_X3_pause bf pg f oh lf ce f2 oh2 lf2 ce2 tk).2.2.1), aS G pa 14 pg, oSt h o g ((P_X3_pause bf pg f oh lf ce f2 oh2 lf2 ce2 tk).2.2.2.1), aI G o 6 oh, oLed g k lf, aI G k 80 ce, oSt h2 o2 g2 ((P_X3_pause bf pg f oh lf ce f2 oh2 lf2 ce2 tk).2.2.2.2.1), aI G o2 6 ((P_X3_pause bf pg f oh lf ce f2 oh2 lf2 ce2 tk).2.2.2.2.2.1), oLed g2 k2 ((P_X3_pause bf pg f oh lf ce f2 oh2 lf2 ce2 tk).2.2.2.2.2.2.1), aI G k2 80 ((P_X3_pause bf pg f oh lf ce f2 oh2 lf2 ce2 tk).2.2.2.2.2.2.2)]) (xX G ((P_X3_pause bf pg f oh lf ce f2 oh2 lf2 ce2 tk).1) [oBr b tx h ht pa sl fi bf, aS G pa 14 pg, oSt h o g f, aI G o 6 oh, oLed g k lf, aI G k 80 ce, oSt h2 o2 g2 f2, aI G o2 6 oh2, oLed g2 k2 lf2, aI G k2 80 ce2]) := by
  refine k_bodyX (cc := cX3_pause) (nL := 2) (ret := (some .int)) hlt (by decide) rfl (Nat.le_of_ble_eq_true rfl) ?_
  intro p e s m args below meth c A cx ct hP hD hS ls hl
  obtain ⟨hx, hb, hml, hown, hts, hr, hlocks, hK, hA⟩ := id cx
  obtain ⟨H, hH⟩ : ∃ H, H = s.heap := ⟨_, rfl⟩
  obtain ⟨locs, hL⟩ : ∃ locs : List Loc, locs = [] := ⟨_, rfl⟩
  obtain ⟨tgt, hq⟩ : ∃ tgt, (P_X3_pause bf pg f oh lf ce f2 oh2 lf2 ce2 tk) = tgt := ⟨_, rfl⟩
  obtain ⟨w0, hw0⟩ : ∃ w0 : va_W, w0 = [oBr b tx h ht pa sl fi bf, aS G pa 14 pg, oSt h o g f, aI G o 6 oh, oLed g k lf, aI G k 80 ce, oSt h2 o2 g2 f2, aI G o2 6 oh2, oLed g2 k2 lf2, aI G k2 80 ce2] := ⟨_, rfl⟩
  have hS : va_S A s.heap H locs := by rw [hH, hL]; exact hS
  rw [← hH] at hP
  have hl : lv_has ls 2 [(0, .ref b), (1, .int tk)] := hl
  have key : ∀ (H : Heap) (locs : List Loc), va_P G.1 vwCl [oBr b tx h ht pa sl fi bf, aS G pa 14 pg, oSt h o g f, aI G o 6 oh, oLed g k lf, aI G k 80 ce, oSt h2 o2 g2 f2, aI G o2 6 oh2, oLed g2 k2 lf2, aI G k2 80 ce2] H → va_D A [oBr b tx h ht pa sl fi bf, aS G pa 14 pg, oSt h o g f, aI G o 6 oh, oLed g k lf, aI G k 80 ce, oSt h2 o2 g2 f2, aI G o2 6 oh2, oLed g2 k2 lf2, aI G k2 80 ce2] → va_S A s.heap H locs → W p l e rm_X3_pause s m args below meth c H locs 0 0 (Q_X3_pause G b tx h ht pa sl fi o g k h2 o2 g2 k2 w0 pg oh lf ce tgt below args s A) (F0 m 0 ls []) := by
    clear hP hD hS hH hL
    intro H locs hP hD hS
    unfold P_X3_pause at hq
    refine lv_iload_n hx hb dX3_pause_0 rfl (lv_at hl 1 rfl) ?_
    refine lv_iconst (v := 1) hx hb dX3_pause_1 (by decide) ?_
    refine lv_sipush (v := 200) hx hb dX3_pause_2 (by decide) ?_
    have hC := c_X3_outside l G tk 1 200
    refine k_i (ws' := [oBr b tx h ht pa sl fi bf, aS G pa 14 pg, oSt h o g f, aI G o 6 oh, oLed g k lf, aI G k 80 ce, oSt h2 o2 g2 f2, aI G o2 6 oh2, oLed g2 k2 lf2, aI G k2 80 ce2]) (as := []) cx hP hD hS [] rfl (kr_S (n := 3) (As := [.int tk, .int 1, .int 200]) cx hC gX3_pause_X3_outside rfl rfl rfl (by decide +kernel) ⟨Nat.le_of_ble_eq_true rfl, Nat.le_of_ble_eq_true rfl⟩ hP hD [] rfl rfl rfl rfl hl (Nat.le_of_ble_eq_true rfl) dX3_pause_5 ⟨Nat.zero_le _, Nat.zero_le _⟩) ⟨rfl, rfl⟩ rfl (fun H locs hP hD hS => ?_)
    refine lv_if_eq (tgt := 21) hx hb dX3_pause_8 (by decide) (fun c_8 => ?_) (fun c_8 => ?_)
    · replace hq := (if_pos c_8).symm.trans hq
      refine lv_aload_n hx hb dX3_pause_21 rfl (lv_at hl 0 rfl) ?_
      have hC := c_X3_remember l G b tx h ht pa sl fi o g k h2 o2 g2 k2 bf pg f oh lf ce f2 oh2 lf2 ce2 (hst) (hpg)
      generalize hu22 : P_X3_remember bf pg f oh lf ce f2 oh2 lf2 ce2 = u22 at hC hq
      refine k_v (ws' := [oBr b tx h ht pa sl fi u22.1, aS G pa 14 pg, oSt h o g f, aI G o 6 oh, oLed g k lf, aI G k 80 ce, oSt h2 o2 g2 u22.2.1, aI G o2 6 u22.2.2.1, oLed g2 k2 u22.2.2.2.1, aI G k2 80 u22.2.2.2.2]) (as := [b, pa, h, o, g, k, h2, o2, g2, k2]) cx hP hD hS [0, 1, 2, 3, 4, 5, 6, 7, 8, 9] rfl (kr_V (n := 0) (As := []) (ci := 3) cx hC gX3_pause_X3_remember rfl rfl rfl (by decide +kernel) ⟨Nat.le_of_ble_eq_true rfl, Nat.le_of_ble_eq_true rfl⟩ rfl rfl rfl hP hD [0, 1, 2, 3, 4, 5, 6, 7, 8, 9] rfl rfl rfl rfl hl (Nat.le_of_ble_eq_true rfl) dX3_pause_22 ⟨Nat.zero_le _, Nat.zero_le _⟩) ⟨rfl, rfl⟩ rfl (fun H locs hP hD hS => ?_)
      refine lv_aload_n hx hb dX3_pause_25 rfl (lv_at hl 0 rfl) ?_
      refine k_get (v := .ref h) (T := TX3) (C := RX3) (N := 8) cx hi_X3_pause_3 hP 0 rfl rfl 1 (by decide) (by decide +kernel) rfl dX3_pause_26 ?_
      refine lv_iload_n hx hb dX3_pause_29 rfl (lv_at hl 1 rfl) ?_
      have hC := c_X1_waitTicks l G h o g f tk
      replace hq := k_let hq
      generalize hu30 : P_X1_waitTicks f tk = u30 at hC hq
      refine k_v (ws' := [oBr b tx h ht pa sl fi u22.1, aS G pa 14 pg, oSt h o g u30, aI G o 6 oh, oLed g k lf, aI G k 80 ce, oSt h2 o2 g2 u22.2.1, aI G o2 6 u22.2.2.1, oLed g2 k2 u22.2.2.2.1, aI G k2 80 u22.2.2.2.2]) (as := [h]) cx hP hD hS [2] rfl (kr_VN (n := 1) (As := [.int tk]) (ci := 1) cx hC gX3_pause_X1_waitTicks_n130 rfl rfl rfl nn_X3_130 (by decide +kernel) (by decide +kernel) (by decide +kernel) (by decide +kernel) ⟨Nat.le_of_ble_eq_true rfl, Nat.le_of_ble_eq_true rfl⟩ rfl rfl rfl hP hD [2] rfl rfl rfl rfl hl (Nat.le_of_ble_eq_true rfl) dX3_pause_30 ⟨Nat.zero_le _, Nat.zero_le _⟩) ⟨rfl, rfl⟩ rfl (fun H locs hP hD hS => ?_)
      refine lv_aload_n hx hb dX3_pause_33 rfl (lv_at hl 0 rfl) ?_
      refine k_get (v := .ref h) (T := TX3) (C := RX3) (N := 8) cx hi_X3_pause_3 hP 0 rfl rfl 1 (by decide) (by decide +kernel) rfl dX3_pause_34 ?_
      have hC := c_X1_offset l G h o g u30
      refine k_i (ws' := [oBr b tx h ht pa sl fi u22.1, aS G pa 14 pg, oSt h o g u30, aI G o 6 oh, oLed g k lf, aI G k 80 ce, oSt h2 o2 g2 u22.2.1, aI G o2 6 u22.2.2.1, oLed g2 k2 u22.2.2.2.1, aI G k2 80 u22.2.2.2.2]) (as := [h]) cx hP hD hS [2] rfl (kr_VN (n := 0) (As := []) (ci := 1) cx hC gX3_pause_X1_offset_n109 rfl rfl rfl nn_X3_109 (by decide +kernel) (by decide +kernel) (by decide +kernel) (by decide +kernel) ⟨Nat.le_of_ble_eq_true rfl, Nat.le_of_ble_eq_true rfl⟩ rfl rfl rfl hP hD [2] rfl rfl rfl rfl hl (Nat.le_of_ble_eq_true rfl) dX3_pause_37 ⟨Nat.zero_le _, Nat.zero_le _⟩) ⟨rfl, rfl⟩ rfl (fun H locs hP hD hS => ?_)
      subst hq
      exact k_iretX cx rfl hP hS dX3_pause_40
    · replace hq := (if_neg c_8).symm.trans hq
      subst hq
      exact k_thrS (cls := "java/lang/IllegalArgumentException") (tx := "m is not 1 to 200") (r := 0) (ws := [oBr b tx h ht pa sl fi bf, aS G pa 14 pg, oSt h o g f, aI G o 6 oh, oLed g k lf, aI G k 80 ce, oSt h2 o2 g2 f2, aI G o2 6 oh2, oLed g2 k2 lf2, aI G k2 80 ce2]) (w0 := w0) cx ct (by decide +kernel) ⟨by decide +kernel, by decide +kernel⟩ (by decide +kernel) (fun w h => List.mem_cons_of_mem _ (List.mem_append_right _ h)) e1_45 e2_41_45 rfl (by rw [hw0]; exact hP) hS hl ⟨Nat.le_of_ble_eq_true rfl, Nat.le_of_ble_eq_true rfl, Nat.le_of_ble_eq_true rfl, Nat.le_of_ble_eq_true rfl⟩ dX3_pause_11 dX3_pause_14 dX3_pause_15 dX3_pause_17 dX3_pause_20
  subst hL
  subst hH
  subst hq
  subst hw0
  exact key _ _ hP hD hS

/-! X3_set -/
theorem hi_X3_set_3 : ∀ w ∈ u_ws RX3 TX3 8, w ∈ wsX3_set := by decide +kernel
abbrev rm_X3_set : Room := { frames := 6, cells := 1, slots := 6, locals := 82 }
abbrev Q_X3_set (G : gG) (b : Nat) (tx : Nat) (h : Nat) (ht : Nat) (pa : Nat) (sl : Nat) (fi : Nat) (o : Nat) (g : Nat) (k : Nat) (h2 : Nat) (o2 : Nat) (g2 : Nat) (k2 : Nat) (w0 : va_W)  (pg : Nat → Option Nat) (oh : Nat → Int32) (lf : Nat → Int32) (ce : Nat → Int32) (tgt : Int32 × Int32 × (Nat → Int32) × (Nat → Int32) × (Nat → Int32) × (Nat → Int32) × (Nat → Int32) × (Nat → Int32)) (below : List Frame) (args : Array Value) (s : State) (A : Nat → Prop) : State → Prop := vx_MQ below (qX G tgt.1 tgt.2.1 [oBr b tx h ht pa sl fi tgt.2.2.1, aS G pa 14 pg, oSt h o g tgt.2.2.2.1, aI G o 6 oh, oLed g k lf, aI G k 80 ce, oSt h2 o2 g2 tgt.2.2.2.2.1, aI G o2 6 tgt.2.2.2.2.2.1, oLed g2 k2 tgt.2.2.2.2.2.2.1, aI G k2 80 tgt.2.2.2.2.2.2.2] A) (xX G tgt.1 w0 A) args s 1 6 A
def P_X3_set (bf : Nat → Int32) (pg : Nat → Option Nat) (f : Nat → Int32) (oh : Nat → Int32) (lf : Nat → Int32) (ce : Nat → Int32) (f2 : Nat → Int32) (oh2 : Nat → Int32) (lf2 : Nat → Int32) (ce2 : Nat → Int32) (what : Int32) (v : Int32) : Int32 × Int32 × (Nat → Int32) × (Nat → Int32) × (Nat → Int32) × (Nat → Int32) × (Nat → Int32) × (Nat → Int32) := (if (P_X1_mayBe what v) = 0 then (1, 0, bf, f, f2, oh2, lf2, ce2) else (let u19 := P_X3_remember bf pg f oh lf ce f2 oh2 lf2 ce2; let u37 := P_X1_change f what v; (0, (P_X1_number f lf what), u19.1, u37, u19.2.1, u19.2.2.1, u19.2.2.2.1, u19.2.2.2.2)))
set_option maxHeartbeats 4000000 in
set_option maxRecDepth 100000 in
theorem c_X3_set (l : Launch) (hlt : l.stackTraces = false) (G : gG) (b : Nat) (tx : Nat) (h : Nat) (ht : Nat) (pa : Nat) (sl : Nat) (fi : Nat) (o : Nat) (g : Nat) (k : Nat) (h2 : Nat) (o2 : Nat) (g2 : Nat) (k2 : Nat) (bf : Nat → Int32) (pg : Nat → Option Nat) (f : Nat → Int32) (oh : Nat → Int32) (lf : Nat → Int32) (ce : Nat → Int32) (f2 : Nat → Int32) (oh2 : Nat → Int32) (lf2 : Nat → Int32) (ce2 : Nat → Int32) (what : Int32) (v : Int32) (hst : f 9 = 0 ∨ f 9 = 1) (hpg : P_X3_entry 14 pg (bf 5) = some h2) : kX l G yX3_set wsX3_set rm_X3_set [.ref b, .int what, .int v] [oBr b tx h ht pa sl fi bf, aS G pa 14 pg, oSt h o g f, aI G o 6 oh, oLed g k lf, aI G k 80 ce, oSt h2 o2 g2 f2, aI G o2 6 oh2, oLed g2 k2 lf2, aI G k2 80 ce2] (qX G ((P_X3_set bf pg f oh lf ce f2 oh2 lf2 ce2 what v).1) ((P_X3_set bf pg f oh lf ce f2 oh2 lf2 ce2 what v).2.1) [oBr b tx h ht pa sl fi ((P_X3_set bf pg f oh lf ce f2 oh2 lf2 ce2 what v).2.2.1), aS G pa 14 pg, oSt h o g ((P_X3_set bf pg f oh lf ce f2 oh2 lf2 ce2 what v).2.2.2.1), aI G o 6 oh, oLed g k lf, aI G k 80 ce, oSt h2 o2 g2 ((P_X3_set bf pg f oh lf ce f2 oh2 lf2 ce2 what v).2.2.2.2.1), aI G o2 6 ((P_X3_set bf pg f oh lf ce f2 oh2 lf2 ce2 what v).2.2.2.2.2.1), oLed g2 k2 ((P_X3_set bf pg f oh lf ce f2 oh2 lf2 ce2 what v).2.2.2.2.2.2.1), aI G k2 80 ((P_X3_set bf pg f oh lf ce f2 oh2 lf2 ce2 what v).2.2.2.2.2.2.2)]) (xX G ((P_X3_set bf pg f oh lf ce f2 oh2 lf2 ce2 what v).1) [oBr b tx h ht pa sl fi bf, aS G pa 14 pg, oSt h o g f, aI G o 6 oh, oLed g k lf, aI G k 80 ce, oSt h2 o2 g2 f2, aI G o2 6 oh2, oLed g2 k2 lf2, aI G k2 80 ce2]) := by
  refine k_bodyX (cc := cX3_set) (nL := 4) (ret := (some .int)) hlt (by decide) rfl (Nat.le_of_ble_eq_true rfl) ?_
  intro p e s m args below meth c A cx ct hP hD hS ls hl
  obtain ⟨hx, hb, hml, hown, hts, hr, hlocks, hK, hA⟩ := id cx
  obtain ⟨H, hH⟩ : ∃ H, H = s.heap := ⟨_, rfl⟩
  obtain ⟨locs, hL⟩ : ∃ locs : List Loc, locs = [] := ⟨_, rfl⟩
  obtain ⟨tgt, hq⟩ : ∃ tgt, (P_X3_set bf pg f oh lf ce f2 oh2 lf2 ce2 what v) = tgt := ⟨_, rfl⟩
  obtain ⟨w0, hw0⟩ : ∃ w0 : va_W, w0 = [oBr b tx h ht pa sl fi bf, aS G pa 14 pg, oSt h o g f, aI G o 6 oh, oLed g k lf, aI G k 80 ce, oSt h2 o2 g2 f2, aI G o2 6 oh2, oLed g2 k2 lf2, aI G k2 80 ce2] := ⟨_, rfl⟩
  have hS : va_S A s.heap H locs := by rw [hH, hL]; exact hS
  rw [← hH] at hP
  have hl : lv_has ls 4 [(0, .ref b), (1, .int what), (2, .int v)] := hl
  have key : ∀ (H : Heap) (locs : List Loc), va_P G.1 vwCl [oBr b tx h ht pa sl fi bf, aS G pa 14 pg, oSt h o g f, aI G o 6 oh, oLed g k lf, aI G k 80 ce, oSt h2 o2 g2 f2, aI G o2 6 oh2, oLed g2 k2 lf2, aI G k2 80 ce2] H → va_D A [oBr b tx h ht pa sl fi bf, aS G pa 14 pg, oSt h o g f, aI G o 6 oh, oLed g k lf, aI G k 80 ce, oSt h2 o2 g2 f2, aI G o2 6 oh2, oLed g2 k2 lf2, aI G k2 80 ce2] → va_S A s.heap H locs → W p l e rm_X3_set s m args below meth c H locs 0 0 (Q_X3_set G b tx h ht pa sl fi o g k h2 o2 g2 k2 w0 pg oh lf ce tgt below args s A) (F0 m 0 ls []) := by
    clear hP hD hS hH hL
    intro H locs hP hD hS
    unfold P_X3_set at hq
    refine lv_iload_n hx hb dX3_set_0 rfl (lv_at hl 1 rfl) ?_
    refine lv_iload_n hx hb dX3_set_1 rfl (lv_at hl 2 rfl) ?_
    have hC := c_X1_mayBe l G what v
    refine k_i (ws' := [oBr b tx h ht pa sl fi bf, aS G pa 14 pg, oSt h o g f, aI G o 6 oh, oLed g k lf, aI G k 80 ce, oSt h2 o2 g2 f2, aI G o2 6 oh2, oLed g2 k2 lf2, aI G k2 80 ce2]) (as := []) cx hP hD hS [] rfl (kr_SN (n := 2) (As := [.int what, .int v]) cx hC gX3_set_X1_mayBe_n134 rfl rfl rfl nn_X3_134 (by decide +kernel) (by decide +kernel) (by decide +kernel) ⟨Nat.le_of_ble_eq_true rfl, Nat.le_of_ble_eq_true rfl⟩ hP hD [] rfl rfl rfl rfl hl (Nat.le_of_ble_eq_true rfl) dX3_set_2 ⟨Nat.zero_le _, Nat.zero_le _⟩) ⟨rfl, rfl⟩ rfl (fun H locs hP hD hS => ?_)
    refine lv_if_ne (tgt := 18) hx hb dX3_set_5 (by decide) (fun c_5 => ?_) (fun c_5 => ?_)
    · replace hq := (if_neg c_5).symm.trans hq
      refine lv_aload_n hx hb dX3_set_18 rfl (lv_at hl 0 rfl) ?_
      have hC := c_X3_remember l G b tx h ht pa sl fi o g k h2 o2 g2 k2 bf pg f oh lf ce f2 oh2 lf2 ce2 (hst) (hpg)
      generalize hu19 : P_X3_remember bf pg f oh lf ce f2 oh2 lf2 ce2 = u19 at hC hq
      refine k_v (ws' := [oBr b tx h ht pa sl fi u19.1, aS G pa 14 pg, oSt h o g f, aI G o 6 oh, oLed g k lf, aI G k 80 ce, oSt h2 o2 g2 u19.2.1, aI G o2 6 u19.2.2.1, oLed g2 k2 u19.2.2.2.1, aI G k2 80 u19.2.2.2.2]) (as := [b, pa, h, o, g, k, h2, o2, g2, k2]) cx hP hD hS [0, 1, 2, 3, 4, 5, 6, 7, 8, 9] rfl (kr_V (n := 0) (As := []) (ci := 3) cx hC gX3_set_X3_remember rfl rfl rfl (by decide +kernel) ⟨Nat.le_of_ble_eq_true rfl, Nat.le_of_ble_eq_true rfl⟩ rfl rfl rfl hP hD [0, 1, 2, 3, 4, 5, 6, 7, 8, 9] rfl rfl rfl rfl hl (Nat.le_of_ble_eq_true rfl) dX3_set_19 ⟨Nat.zero_le _, Nat.zero_le _⟩) ⟨rfl, rfl⟩ rfl (fun H locs hP hD hS => ?_)
      refine lv_aload_n hx hb dX3_set_22 rfl (lv_at hl 0 rfl) ?_
      refine k_get (v := .ref h) (T := TX3) (C := RX3) (N := 8) cx hi_X3_set_3 hP 0 rfl rfl 1 (by decide) (by decide +kernel) rfl dX3_set_23 ?_
      refine lv_iload_n hx hb dX3_set_26 rfl (lv_at hl 1 rfl) ?_
      have hC := c_X1_number l G h o g k f lf what
      refine k_i (ws' := [oBr b tx h ht pa sl fi u19.1, aS G pa 14 pg, oSt h o g f, aI G o 6 oh, oLed g k lf, aI G k 80 ce, oSt h2 o2 g2 u19.2.1, aI G o2 6 u19.2.2.1, oLed g2 k2 u19.2.2.2.1, aI G k2 80 u19.2.2.2.2]) (as := [h, g]) cx hP hD hS [2, 4] rfl (kr_VN (n := 1) (As := [.int what]) (ci := 1) cx hC gX3_set_X1_number_n79 rfl rfl rfl nn_X3_79 (by decide +kernel) (by decide +kernel) (by decide +kernel) (by decide +kernel) ⟨Nat.le_of_ble_eq_true rfl, Nat.le_of_ble_eq_true rfl⟩ rfl rfl rfl hP hD [2, 4] rfl rfl rfl rfl hl (Nat.le_of_ble_eq_true rfl) dX3_set_27 ⟨Nat.zero_le _, Nat.zero_le _⟩) ⟨rfl, rfl⟩ rfl (fun H locs hP hD hS => ?_)
      refine lv_istore_n (lv' := [(3, .int (P_X1_number f lf what)), (0, .ref b), (1, .int what), (2, .int v)]) hx hb dX3_set_30 rfl hl (by decide) rfl (fun ls hl => ?_)
      refine lv_aload_n hx hb dX3_set_31 rfl (lv_at hl 1 rfl) ?_
      refine k_get (v := .ref h) (T := TX3) (C := RX3) (N := 8) cx hi_X3_set_3 hP 0 rfl rfl 1 (by decide) (by decide +kernel) rfl dX3_set_32 ?_
      refine lv_iload_n hx hb dX3_set_35 rfl (lv_at hl 2 rfl) ?_
      refine lv_iload_n hx hb dX3_set_36 rfl (lv_at hl 3 rfl) ?_
      have hC := c_X1_change l G h o g f what v
      replace hq := k_let hq
      generalize hu37 : P_X1_change f what v = u37 at hC hq
      refine k_v (ws' := [oBr b tx h ht pa sl fi u19.1, aS G pa 14 pg, oSt h o g u37, aI G o 6 oh, oLed g k lf, aI G k 80 ce, oSt h2 o2 g2 u19.2.1, aI G o2 6 u19.2.2.1, oLed g2 k2 u19.2.2.2.1, aI G k2 80 u19.2.2.2.2]) (as := [h]) cx hP hD hS [2] rfl (kr_VN (n := 2) (As := [.int what, .int v]) (ci := 1) cx hC gX3_set_X1_change_n140 rfl rfl rfl nn_X3_140 (by decide +kernel) (by decide +kernel) (by decide +kernel) (by decide +kernel) ⟨Nat.le_of_ble_eq_true rfl, Nat.le_of_ble_eq_true rfl⟩ rfl rfl rfl hP hD [2] rfl rfl rfl rfl hl (Nat.le_of_ble_eq_true rfl) dX3_set_37 ⟨Nat.zero_le _, Nat.zero_le _⟩) ⟨rfl, rfl⟩ rfl (fun H locs hP hD hS => ?_)
      refine lv_iload_n hx hb dX3_set_40 rfl (lv_at hl 0 rfl) ?_
      subst hq
      exact k_iretX cx rfl hP hS dX3_set_41
    · replace hq := (if_pos c_5).symm.trans hq
      subst hq
      exact k_thrS (cls := "java/lang/IllegalArgumentException") (tx := "what or v is out of range") (r := 0) (ws := [oBr b tx h ht pa sl fi bf, aS G pa 14 pg, oSt h o g f, aI G o 6 oh, oLed g k lf, aI G k 80 ce, oSt h2 o2 g2 f2, aI G o2 6 oh2, oLed g2 k2 lf2, aI G k2 80 ce2]) (w0 := w0) cx ct (by decide +kernel) ⟨by decide +kernel, by decide +kernel⟩ (by decide +kernel) (fun w h => List.mem_cons_of_mem _ (List.mem_append_right _ h)) e1_45 e2_41_45 rfl (by rw [hw0]; exact hP) hS hl ⟨Nat.le_of_ble_eq_true rfl, Nat.le_of_ble_eq_true rfl, Nat.le_of_ble_eq_true rfl, Nat.le_of_ble_eq_true rfl⟩ dX3_set_8 dX3_set_11 dX3_set_12 dX3_set_14 dX3_set_17
  subst hL
  subst hH
  subst hq
  subst hw0
  exact key _ _ hP hD hS

/-! X3_choose -/
theorem hi_X3_choose_1 : ∀ w ∈ u_ws RX1 TX1 16, w ∈ wsX3_choose := by decide +kernel
theorem hi_X3_choose_3 : ∀ w ∈ u_ws RX3 TX3 8, w ∈ wsX3_choose := by decide +kernel
abbrev rm_X3_choose : Room := { frames := 6, cells := 1, slots := 6, locals := 82 }
abbrev Q_X3_choose (G : gG) (b : Nat) (tx : Nat) (h : Nat) (ht : Nat) (pa : Nat) (sl : Nat) (fi : Nat) (o : Nat) (g : Nat) (k : Nat) (h2 : Nat) (o2 : Nat) (g2 : Nat) (k2 : Nat) (w0 : va_W)  (pg : Nat → Option Nat) (oh : Nat → Int32) (lf : Nat → Int32) (ce : Nat → Int32) (tgt : Int32 × Int32 × (Nat → Int32) × (Nat → Int32) × (Nat → Int32) × (Nat → Int32) × (Nat → Int32) × (Nat → Int32)) (below : List Frame) (args : Array Value) (s : State) (A : Nat → Prop) : State → Prop := vx_MQ below (qX G tgt.1 tgt.2.1 [oBr b tx h ht pa sl fi tgt.2.2.1, aS G pa 14 pg, oSt h o g tgt.2.2.2.1, aI G o 6 oh, oLed g k lf, aI G k 80 ce, oSt h2 o2 g2 tgt.2.2.2.2.1, aI G o2 6 tgt.2.2.2.2.2.1, oLed g2 k2 tgt.2.2.2.2.2.2.1, aI G k2 80 tgt.2.2.2.2.2.2.2] A) (xX G tgt.1 w0 A) args s 1 6 A
def P_X3_choose (bf : Nat → Int32) (pg : Nat → Option Nat) (f : Nat → Int32) (oh : Nat → Int32) (lf : Nat → Int32) (ce : Nat → Int32) (f2 : Nat → Int32) (oh2 : Nat → Int32) (lf2 : Nat → Int32) (ce2 : Nat → Int32) (i : Int32) : Int32 × Int32 × (Nat → Int32) × (Nat → Int32) × (Nat → Int32) × (Nat → Int32) × (Nat → Int32) × (Nat → Int32) := (if (P_X1_hasUnknown f i) = 0 then (3, 0, bf, f, f2, oh2, lf2, ce2) else (let u22 := P_X3_remember bf pg f oh lf ce f2 oh2 lf2 ce2; (0, (f 14), u22.1, (upd f 14 i), u22.2.1, u22.2.2.1, u22.2.2.2.1, u22.2.2.2.2)))
set_option maxHeartbeats 4000000 in
set_option maxRecDepth 100000 in
theorem c_X3_choose (l : Launch) (hlt : l.stackTraces = false) (G : gG) (b : Nat) (tx : Nat) (h : Nat) (ht : Nat) (pa : Nat) (sl : Nat) (fi : Nat) (o : Nat) (g : Nat) (k : Nat) (h2 : Nat) (o2 : Nat) (g2 : Nat) (k2 : Nat) (bf : Nat → Int32) (pg : Nat → Option Nat) (f : Nat → Int32) (oh : Nat → Int32) (lf : Nat → Int32) (ce : Nat → Int32) (f2 : Nat → Int32) (oh2 : Nat → Int32) (lf2 : Nat → Int32) (ce2 : Nat → Int32) (i : Int32) (hst : f 9 = 0 ∨ f 9 = 1) (hpg : P_X3_entry 14 pg (bf 5) = some h2) : kX l G yX3_choose wsX3_choose rm_X3_choose [.ref b, .int i] [oBr b tx h ht pa sl fi bf, aS G pa 14 pg, oSt h o g f, aI G o 6 oh, oLed g k lf, aI G k 80 ce, oSt h2 o2 g2 f2, aI G o2 6 oh2, oLed g2 k2 lf2, aI G k2 80 ce2] (qX G ((P_X3_choose bf pg f oh lf ce f2 oh2 lf2 ce2 i).1) ((P_X3_choose bf pg f oh lf ce f2 oh2 lf2 ce2 i).2.1) [oBr b tx h ht pa sl fi ((P_X3_choose bf pg f oh lf ce f2 oh2 lf2 ce2 i).2.2.1), aS G pa 14 pg, oSt h o g ((P_X3_choose bf pg f oh lf ce f2 oh2 lf2 ce2 i).2.2.2.1), aI G o 6 oh, oLed g k lf, aI G k 80 ce, oSt h2 o2 g2 ((P_X3_choose bf pg f oh lf ce f2 oh2 lf2 ce2 i).2.2.2.2.1), aI G o2 6 ((P_X3_choose bf pg f oh lf ce f2 oh2 lf2 ce2 i).2.2.2.2.2.1), oLed g2 k2 ((P_X3_choose bf pg f oh lf ce f2 oh2 lf2 ce2 i).2.2.2.2.2.2.1), aI G k2 80 ((P_X3_choose bf pg f oh lf ce f2 oh2 lf2 ce2 i).2.2.2.2.2.2.2)]) (xX G ((P_X3_choose bf pg f oh lf ce f2 oh2 lf2 ce2 i).1) [oBr b tx h ht pa sl fi bf, aS G pa 14 pg, oSt h o g f, aI G o 6 oh, oLed g k lf, aI G k 80 ce, oSt h2 o2 g2 f2, aI G o2 6 oh2, oLed g2 k2 lf2, aI G k2 80 ce2]) := by
  refine k_bodyX (cc := cX3_choose) (nL := 3) (ret := (some .int)) hlt (by decide) rfl (Nat.le_of_ble_eq_true rfl) ?_
  intro p e s m args below meth c A cx ct hP hD hS ls hl
  obtain ⟨hx, hb, hml, hown, hts, hr, hlocks, hK, hA⟩ := id cx
  obtain ⟨H, hH⟩ : ∃ H, H = s.heap := ⟨_, rfl⟩
  obtain ⟨locs, hL⟩ : ∃ locs : List Loc, locs = [] := ⟨_, rfl⟩
  obtain ⟨tgt, hq⟩ : ∃ tgt, (P_X3_choose bf pg f oh lf ce f2 oh2 lf2 ce2 i) = tgt := ⟨_, rfl⟩
  obtain ⟨w0, hw0⟩ : ∃ w0 : va_W, w0 = [oBr b tx h ht pa sl fi bf, aS G pa 14 pg, oSt h o g f, aI G o 6 oh, oLed g k lf, aI G k 80 ce, oSt h2 o2 g2 f2, aI G o2 6 oh2, oLed g2 k2 lf2, aI G k2 80 ce2] := ⟨_, rfl⟩
  have hS : va_S A s.heap H locs := by rw [hH, hL]; exact hS
  rw [← hH] at hP
  have hl : lv_has ls 3 [(0, .ref b), (1, .int i)] := hl
  have key : ∀ (H : Heap) (locs : List Loc), va_P G.1 vwCl [oBr b tx h ht pa sl fi bf, aS G pa 14 pg, oSt h o g f, aI G o 6 oh, oLed g k lf, aI G k 80 ce, oSt h2 o2 g2 f2, aI G o2 6 oh2, oLed g2 k2 lf2, aI G k2 80 ce2] H → va_D A [oBr b tx h ht pa sl fi bf, aS G pa 14 pg, oSt h o g f, aI G o 6 oh, oLed g k lf, aI G k 80 ce, oSt h2 o2 g2 f2, aI G o2 6 oh2, oLed g2 k2 lf2, aI G k2 80 ce2] → va_S A s.heap H locs → W p l e rm_X3_choose s m args below meth c H locs 0 0 (Q_X3_choose G b tx h ht pa sl fi o g k h2 o2 g2 k2 w0 pg oh lf ce tgt below args s A) (F0 m 0 ls []) := by
    clear hP hD hS hH hL
    intro H locs hP hD hS
    unfold P_X3_choose at hq
    refine lv_aload_n hx hb dX3_choose_0 rfl (lv_at hl 0 rfl) ?_
    refine k_get (v := .ref h) (T := TX3) (C := RX3) (N := 8) cx hi_X3_choose_3 hP 0 rfl rfl 1 (by decide) (by decide +kernel) rfl dX3_choose_1 ?_
    refine lv_iload_n hx hb dX3_choose_4 rfl (lv_at hl 1 rfl) ?_
    have hC := c_X1_hasUnknown l G h o g f i
    refine k_i (ws' := [oBr b tx h ht pa sl fi bf, aS G pa 14 pg, oSt h o g f, aI G o 6 oh, oLed g k lf, aI G k 80 ce, oSt h2 o2 g2 f2, aI G o2 6 oh2, oLed g2 k2 lf2, aI G k2 80 ce2]) (as := [h]) cx hP hD hS [2] rfl (kr_VN (n := 1) (As := [.int i]) (ci := 1) cx hC gX3_choose_X1_hasUnknown_n144 rfl rfl rfl nn_X3_144 (by decide +kernel) (by decide +kernel) (by decide +kernel) (by decide +kernel) ⟨Nat.le_of_ble_eq_true rfl, Nat.le_of_ble_eq_true rfl⟩ rfl rfl rfl hP hD [2] rfl rfl rfl rfl hl (Nat.le_of_ble_eq_true rfl) dX3_choose_5 ⟨Nat.zero_le _, Nat.zero_le _⟩) ⟨rfl, rfl⟩ rfl (fun H locs hP hD hS => ?_)
    refine lv_if_ne (tgt := 21) hx hb dX3_choose_8 (by decide) (fun c_8 => ?_) (fun c_8 => ?_)
    · replace hq := (if_neg c_8).symm.trans hq
      refine lv_aload_n hx hb dX3_choose_21 rfl (lv_at hl 0 rfl) ?_
      have hC := c_X3_remember l G b tx h ht pa sl fi o g k h2 o2 g2 k2 bf pg f oh lf ce f2 oh2 lf2 ce2 (hst) (hpg)
      generalize hu22 : P_X3_remember bf pg f oh lf ce f2 oh2 lf2 ce2 = u22 at hC hq
      refine k_v (ws' := [oBr b tx h ht pa sl fi u22.1, aS G pa 14 pg, oSt h o g f, aI G o 6 oh, oLed g k lf, aI G k 80 ce, oSt h2 o2 g2 u22.2.1, aI G o2 6 u22.2.2.1, oLed g2 k2 u22.2.2.2.1, aI G k2 80 u22.2.2.2.2]) (as := [b, pa, h, o, g, k, h2, o2, g2, k2]) cx hP hD hS [0, 1, 2, 3, 4, 5, 6, 7, 8, 9] rfl (kr_V (n := 0) (As := []) (ci := 3) cx hC gX3_choose_X3_remember rfl rfl rfl (by decide +kernel) ⟨Nat.le_of_ble_eq_true rfl, Nat.le_of_ble_eq_true rfl⟩ rfl rfl rfl hP hD [0, 1, 2, 3, 4, 5, 6, 7, 8, 9] rfl rfl rfl rfl hl (Nat.le_of_ble_eq_true rfl) dX3_choose_22 ⟨Nat.zero_le _, Nat.zero_le _⟩) ⟨rfl, rfl⟩ rfl (fun H locs hP hD hS => ?_)
      refine lv_aload_n hx hb dX3_choose_25 rfl (lv_at hl 0 rfl) ?_
      refine k_get (v := .ref h) (T := TX3) (C := RX3) (N := 8) cx hi_X3_choose_3 hP 0 rfl rfl 1 (by decide) (by decide +kernel) rfl dX3_choose_26 ?_
      refine k_getN (v := .int (f 14)) (T := TX1) (C := RX1) (N := 16) (host := RX3) cx hi_X3_choose_1 hP 2 rfl rfl 14 (by decide) nn_X3_153 rfl dX3_choose_29 ?_
      refine lv_istore_n (lv' := [(2, .int (f 14)), (0, .ref b), (1, .int i)]) hx hb dX3_choose_32 rfl hl (by decide) rfl (fun ls hl => ?_)
      refine lv_aload_n hx hb dX3_choose_33 rfl (lv_at hl 1 rfl) ?_
      refine k_get (v := .ref h) (T := TX3) (C := RX3) (N := 8) cx hi_X3_choose_3 hP 0 rfl rfl 1 (by decide) (by decide +kernel) rfl dX3_choose_34 ?_
      refine lv_iload_n hx hb dX3_choose_37 rfl (lv_at hl 2 rfl) ?_
      refine k_putN (ws' := [oBr b tx h ht pa sl fi u22.1, aS G pa 14 pg, oSt h o g (upd f 14 i), aI G o 6 oh, oLed g k lf, aI G k 80 ce, oSt h2 o2 g2 u22.2.1, aI G o2 6 u22.2.2.1, oLed g2 k2 u22.2.2.2.1, aI G k2 80 u22.2.2.2.2]) (ty := .int) (T := TX1) (C := RX1) (N := 16) (host := RX3) cx hi_X3_choose_1 tyX1_ok nmX1 hP hD hS 2 rfl rfl 14 (by decide) nn_X3_153 rfl rfl rfl rfl (Nat.le_of_ble_eq_true rfl) rfl dX3_choose_38 (fun H locs hP hD hS => ?_)
      refine lv_iload_n hx hb dX3_choose_41 rfl (lv_at hl 0 rfl) ?_
      subst hq
      exact k_iretX cx rfl hP hS dX3_choose_42
    · replace hq := (if_pos c_8).symm.trans hq
      subst hq
      exact k_thrS (cls := "java/lang/IndexOutOfBoundsException") (tx := "no such unknown resistor") (r := 0) (ws := [oBr b tx h ht pa sl fi bf, aS G pa 14 pg, oSt h o g f, aI G o 6 oh, oLed g k lf, aI G k 80 ce, oSt h2 o2 g2 f2, aI G o2 6 oh2, oLed g2 k2 lf2, aI G k2 80 ce2]) (w0 := w0) cx ct (by decide +kernel) ⟨by decide +kernel, by decide +kernel⟩ (by decide +kernel) (fun w h => List.mem_cons_of_mem _ (List.mem_append_right _ h)) e1_152 e2_148_152 rfl (by rw [hw0]; exact hP) hS hl ⟨Nat.le_of_ble_eq_true rfl, Nat.le_of_ble_eq_true rfl, Nat.le_of_ble_eq_true rfl, Nat.le_of_ble_eq_true rfl⟩ dX3_choose_11 dX3_choose_14 dX3_choose_15 dX3_choose_17 dX3_choose_20
  subst hL
  subst hH
  subst hq
  subst hw0
  exact key _ _ hP hD hS

/-! X3_add -/
theorem hi_X3_add_1 : ∀ w ∈ u_ws RX1 TX1 16, w ∈ wsX3_add := by decide +kernel
theorem hi_X3_add_3 : ∀ w ∈ u_ws RX3 TX3 8, w ∈ wsX3_add := by decide +kernel
abbrev rm_X3_add : Room := { frames := 6, cells := 1, slots := 6, locals := 82 }
abbrev Q_X3_add (G : gG) (b : Nat) (tx : Nat) (h : Nat) (ht : Nat) (pa : Nat) (sl : Nat) (fi : Nat) (o : Nat) (g : Nat) (k : Nat) (h2 : Nat) (o2 : Nat) (g2 : Nat) (k2 : Nat) (w0 : va_W)  (pg : Nat → Option Nat) (lf : Nat → Int32) (ce : Nat → Int32) (tgt : Int32 × Int32 × (Nat → Int32) × (Nat → Int32) × (Nat → Int32) × (Nat → Int32) × (Nat → Int32) × (Nat → Int32) × (Nat → Int32)) (below : List Frame) (args : Array Value) (s : State) (A : Nat → Prop) : State → Prop := vx_MQ below (qX G tgt.1 tgt.2.1 [oBr b tx h ht pa sl fi tgt.2.2.1, aS G pa 14 pg, oSt h o g tgt.2.2.2.1, aI G o 6 tgt.2.2.2.2.1, oLed g k lf, aI G k 80 ce, oSt h2 o2 g2 tgt.2.2.2.2.2.1, aI G o2 6 tgt.2.2.2.2.2.2.1, oLed g2 k2 tgt.2.2.2.2.2.2.2.1, aI G k2 80 tgt.2.2.2.2.2.2.2.2] A) (xX G tgt.1 w0 A) args s 1 6 A
def P_X3_add (bf : Nat → Int32) (pg : Nat → Option Nat) (f : Nat → Int32) (oh : Nat → Int32) (lf : Nat → Int32) (ce : Nat → Int32) (f2 : Nat → Int32) (oh2 : Nat → Int32) (lf2 : Nat → Int32) (ce2 : Nat → Int32) (oh0 : Int32) : Int32 × Int32 × (Nat → Int32) × (Nat → Int32) × (Nat → Int32) × (Nat → Int32) × (Nat → Int32) × (Nat → Int32) × (Nat → Int32) := (if (P_X3_outside oh0 1 9999) = 0 then (if (f 13) < 6 then (let u44 := P_X3_remember bf pg f oh lf ce f2 oh2 lf2 ce2; let u52 := P_X1_putUnknown f oh oh0; (0, ((u52.1 13) - 1), u44.1, u52.1, u52.2, u44.2.1, u44.2.2.1, u44.2.2.2.1, u44.2.2.2.2)) else (2, 0, bf, f, oh, f2, oh2, lf2, ce2)) else (1, 0, bf, f, oh, f2, oh2, lf2, ce2))
set_option maxHeartbeats 4000000 in
set_option maxRecDepth 100000 in
theorem c_X3_add (l : Launch) (hlt : l.stackTraces = false) (G : gG) (b : Nat) (tx : Nat) (h : Nat) (ht : Nat) (pa : Nat) (sl : Nat) (fi : Nat) (o : Nat) (g : Nat) (k : Nat) (h2 : Nat) (o2 : Nat) (g2 : Nat) (k2 : Nat) (bf : Nat → Int32) (pg : Nat → Option Nat) (f : Nat → Int32) (oh : Nat → Int32) (lf : Nat → Int32) (ce : Nat → Int32) (f2 : Nat → Int32) (oh2 : Nat → Int32) (lf2 : Nat → Int32) (ce2 : Nat → Int32) (oh0 : Int32) (hst : f 9 = 0 ∨ f 9 = 1) (hpg : P_X3_entry 14 pg (bf 5) = some h2) : kX l G yX3_add wsX3_add rm_X3_add [.ref b, .int oh0] [oBr b tx h ht pa sl fi bf, aS G pa 14 pg, oSt h o g f, aI G o 6 oh, oLed g k lf, aI G k 80 ce, oSt h2 o2 g2 f2, aI G o2 6 oh2, oLed g2 k2 lf2, aI G k2 80 ce2] (qX G ((P_X3_add bf pg f oh lf ce f2 oh2 lf2 ce2 oh0).1) ((P_X3_add bf pg f oh lf ce f2 oh2 lf2 ce2 oh0).2.1) [oBr b tx h ht pa sl fi ((P_X3_add bf pg f oh lf ce f2 oh2 lf2 ce2 oh0).2.2.1), aS G pa 14 pg, oSt h o g ((P_X3_add bf pg f oh lf ce f2 oh2 lf2 ce2 oh0).2.2.2.1), aI G o 6 ((P_X3_add bf pg f oh lf ce f2 oh2 lf2 ce2 oh0).2.2.2.2.1), oLed g k lf, aI G k 80 ce, oSt h2 o2 g2 ((P_X3_add bf pg f oh lf ce f2 oh2 lf2 ce2 oh0).2.2.2.2.2.1), aI G o2 6 ((P_X3_add bf pg f oh lf ce f2 oh2 lf2 ce2 oh0).2.2.2.2.2.2.1), oLed g2 k2 ((P_X3_add bf pg f oh lf ce f2 oh2 lf2 ce2 oh0).2.2.2.2.2.2.2.1), aI G k2 80 ((P_X3_add bf pg f oh lf ce f2 oh2 lf2 ce2 oh0).2.2.2.2.2.2.2.2)]) (xX G ((P_X3_add bf pg f oh lf ce f2 oh2 lf2 ce2 oh0).1) [oBr b tx h ht pa sl fi bf, aS G pa 14 pg, oSt h o g f, aI G o 6 oh, oLed g k lf, aI G k 80 ce, oSt h2 o2 g2 f2, aI G o2 6 oh2, oLed g2 k2 lf2, aI G k2 80 ce2]) := by
  refine k_bodyX (cc := cX3_add) (nL := 2) (ret := (some .int)) hlt (by decide) rfl (Nat.le_of_ble_eq_true rfl) ?_
  intro p e s m args below meth c A cx ct hP hD hS ls hl
  obtain ⟨hx, hb, hml, hown, hts, hr, hlocks, hK, hA⟩ := id cx
  obtain ⟨H, hH⟩ : ∃ H, H = s.heap := ⟨_, rfl⟩
  obtain ⟨locs, hL⟩ : ∃ locs : List Loc, locs = [] := ⟨_, rfl⟩
  obtain ⟨tgt, hq⟩ : ∃ tgt, (P_X3_add bf pg f oh lf ce f2 oh2 lf2 ce2 oh0) = tgt := ⟨_, rfl⟩
  obtain ⟨w0, hw0⟩ : ∃ w0 : va_W, w0 = [oBr b tx h ht pa sl fi bf, aS G pa 14 pg, oSt h o g f, aI G o 6 oh, oLed g k lf, aI G k 80 ce, oSt h2 o2 g2 f2, aI G o2 6 oh2, oLed g2 k2 lf2, aI G k2 80 ce2] := ⟨_, rfl⟩
  have hS : va_S A s.heap H locs := by rw [hH, hL]; exact hS
  rw [← hH] at hP
  have hl : lv_has ls 2 [(0, .ref b), (1, .int oh0)] := hl
  have key : ∀ (H : Heap) (locs : List Loc), va_P G.1 vwCl [oBr b tx h ht pa sl fi bf, aS G pa 14 pg, oSt h o g f, aI G o 6 oh, oLed g k lf, aI G k 80 ce, oSt h2 o2 g2 f2, aI G o2 6 oh2, oLed g2 k2 lf2, aI G k2 80 ce2] H → va_D A [oBr b tx h ht pa sl fi bf, aS G pa 14 pg, oSt h o g f, aI G o 6 oh, oLed g k lf, aI G k 80 ce, oSt h2 o2 g2 f2, aI G o2 6 oh2, oLed g2 k2 lf2, aI G k2 80 ce2] → va_S A s.heap H locs → W p l e rm_X3_add s m args below meth c H locs 0 0 (Q_X3_add G b tx h ht pa sl fi o g k h2 o2 g2 k2 w0 pg lf ce tgt below args s A) (F0 m 0 ls []) := by
    clear hP hD hS hH hL
    intro H locs hP hD hS
    unfold P_X3_add at hq
    refine lv_iload_n hx hb dX3_add_0 rfl (lv_at hl 1 rfl) ?_
    refine lv_iconst (v := 1) hx hb dX3_add_1 (by decide) ?_
    refine lv_sipush (v := 9999) hx hb dX3_add_2 (by decide) ?_
    have hC := c_X3_outside l G oh0 1 9999
    refine k_i (ws' := [oBr b tx h ht pa sl fi bf, aS G pa 14 pg, oSt h o g f, aI G o 6 oh, oLed g k lf, aI G k 80 ce, oSt h2 o2 g2 f2, aI G o2 6 oh2, oLed g2 k2 lf2, aI G k2 80 ce2]) (as := []) cx hP hD hS [] rfl (kr_S (n := 3) (As := [.int oh0, .int 1, .int 9999]) cx hC gX3_add_X3_outside rfl rfl rfl (by decide +kernel) ⟨Nat.le_of_ble_eq_true rfl, Nat.le_of_ble_eq_true rfl⟩ hP hD [] rfl rfl rfl rfl hl (Nat.le_of_ble_eq_true rfl) dX3_add_5 ⟨Nat.zero_le _, Nat.zero_le _⟩) ⟨rfl, rfl⟩ rfl (fun H locs hP hD hS => ?_)
    refine lv_if_eq (tgt := 21) hx hb dX3_add_8 (by decide) (fun c_8 => ?_) (fun c_8 => ?_)
    · replace hq := (if_pos c_8).symm.trans hq
      refine lv_aload_n hx hb dX3_add_21 rfl (lv_at hl 0 rfl) ?_
      refine k_get (v := .ref h) (T := TX3) (C := RX3) (N := 8) cx hi_X3_add_3 hP 0 rfl rfl 1 (by decide) (by decide +kernel) rfl dX3_add_22 ?_
      refine k_getN (v := .int (f 13)) (T := TX1) (C := RX1) (N := 16) (host := RX3) cx hi_X3_add_1 hP 2 rfl rfl 13 (by decide) nn_X3_74 rfl dX3_add_25 ?_
      refine lv_bipush (v := 6) hx hb dX3_add_28 (by decide) ?_
      refine lv_icmp_lt (tgt := 43) hx hb dX3_add_30 (by decide) (fun c_30 => ?_) (fun c_30 => ?_)
      · replace hq := (if_pos c_30).symm.trans hq
        refine lv_aload_n hx hb dX3_add_43 rfl (lv_at hl 0 rfl) ?_
        have hC := c_X3_remember l G b tx h ht pa sl fi o g k h2 o2 g2 k2 bf pg f oh lf ce f2 oh2 lf2 ce2 (hst) (hpg)
        generalize hu44 : P_X3_remember bf pg f oh lf ce f2 oh2 lf2 ce2 = u44 at hC hq
        refine k_v (ws' := [oBr b tx h ht pa sl fi u44.1, aS G pa 14 pg, oSt h o g f, aI G o 6 oh, oLed g k lf, aI G k 80 ce, oSt h2 o2 g2 u44.2.1, aI G o2 6 u44.2.2.1, oLed g2 k2 u44.2.2.2.1, aI G k2 80 u44.2.2.2.2]) (as := [b, pa, h, o, g, k, h2, o2, g2, k2]) cx hP hD hS [0, 1, 2, 3, 4, 5, 6, 7, 8, 9] rfl (kr_V (n := 0) (As := []) (ci := 3) cx hC gX3_add_X3_remember rfl rfl rfl (by decide +kernel) ⟨Nat.le_of_ble_eq_true rfl, Nat.le_of_ble_eq_true rfl⟩ rfl rfl rfl hP hD [0, 1, 2, 3, 4, 5, 6, 7, 8, 9] rfl rfl rfl rfl hl (Nat.le_of_ble_eq_true rfl) dX3_add_44 ⟨Nat.zero_le _, Nat.zero_le _⟩) ⟨rfl, rfl⟩ rfl (fun H locs hP hD hS => ?_)
        refine lv_aload_n hx hb dX3_add_47 rfl (lv_at hl 0 rfl) ?_
        refine k_get (v := .ref h) (T := TX3) (C := RX3) (N := 8) cx hi_X3_add_3 hP 0 rfl rfl 1 (by decide) (by decide +kernel) rfl dX3_add_48 ?_
        refine lv_iload_n hx hb dX3_add_51 rfl (lv_at hl 1 rfl) ?_
        have hC := c_X1_putUnknown l G h o g f oh oh0
        replace hq := k_let hq
        generalize hu52 : P_X1_putUnknown f oh oh0 = u52 at hC hq
        refine k_v (ws' := [oBr b tx h ht pa sl fi u44.1, aS G pa 14 pg, oSt h o g u52.1, aI G o 6 u52.2, oLed g k lf, aI G k 80 ce, oSt h2 o2 g2 u44.2.1, aI G o2 6 u44.2.2.1, oLed g2 k2 u44.2.2.2.1, aI G k2 80 u44.2.2.2.2]) (as := [h, o]) cx hP hD hS [2, 3] rfl (kr_VN (n := 1) (As := [.int oh0]) (ci := 1) cx hC gX3_add_X1_putUnknown_n160 rfl rfl rfl nn_X3_160 (by decide +kernel) (by decide +kernel) (by decide +kernel) (by decide +kernel) ⟨Nat.le_of_ble_eq_true rfl, Nat.le_of_ble_eq_true rfl⟩ rfl rfl rfl hP hD [2, 3] rfl rfl rfl rfl hl (Nat.le_of_ble_eq_true rfl) dX3_add_52 ⟨Nat.zero_le _, Nat.zero_le _⟩) ⟨rfl, rfl⟩ rfl (fun H locs hP hD hS => ?_)
        refine lv_aload_n hx hb dX3_add_55 rfl (lv_at hl 0 rfl) ?_
        refine k_get (v := .ref h) (T := TX3) (C := RX3) (N := 8) cx hi_X3_add_3 hP 0 rfl rfl 1 (by decide) (by decide +kernel) rfl dX3_add_56 ?_
        refine k_getN (v := .int (u52.1 13)) (T := TX1) (C := RX1) (N := 16) (host := RX3) cx hi_X3_add_1 hP 2 rfl rfl 13 (by decide) nn_X3_74 rfl dX3_add_59 ?_
        refine lv_iconst (v := 1) hx hb dX3_add_62 (by decide) ?_
        refine lv_isub hx hb dX3_add_63 ?_
        subst hq
        exact k_iretX cx rfl hP hS dX3_add_64
      · replace hq := (if_neg c_30).symm.trans hq
        subst hq
        exact k_thrS (cls := "java/lang/IllegalStateException") (tx := "there are 6 unknown resistors") (r := 0) (ws := [oBr b tx h ht pa sl fi bf, aS G pa 14 pg, oSt h o g f, aI G o 6 oh, oLed g k lf, aI G k 80 ce, oSt h2 o2 g2 f2, aI G o2 6 oh2, oLed g2 k2 lf2, aI G k2 80 ce2]) (w0 := w0) cx ct (by decide +kernel) ⟨by decide +kernel, by decide +kernel⟩ (by decide +kernel) (fun w h => List.mem_cons_of_mem _ (List.mem_append_right _ h)) e1_56 e2_52_56 rfl (by rw [hw0]; exact hP) hS hl ⟨Nat.le_of_ble_eq_true rfl, Nat.le_of_ble_eq_true rfl, Nat.le_of_ble_eq_true rfl, Nat.le_of_ble_eq_true rfl⟩ dX3_add_33 dX3_add_36 dX3_add_37 dX3_add_39 dX3_add_42
    · replace hq := (if_neg c_8).symm.trans hq
      subst hq
      exact k_thrS (cls := "java/lang/IllegalArgumentException") (tx := "ohms is not 1 to 9999") (r := 0) (ws := [oBr b tx h ht pa sl fi bf, aS G pa 14 pg, oSt h o g f, aI G o 6 oh, oLed g k lf, aI G k 80 ce, oSt h2 o2 g2 f2, aI G o2 6 oh2, oLed g2 k2 lf2, aI G k2 80 ce2]) (w0 := w0) cx ct (by decide +kernel) ⟨by decide +kernel, by decide +kernel⟩ (by decide +kernel) (fun w h => List.mem_cons_of_mem _ (List.mem_append_left _ (List.mem_append_right _ h))) e1_45 e2_41_45 rfl (by rw [hw0]; exact hP) hS hl ⟨Nat.le_of_ble_eq_true rfl, Nat.le_of_ble_eq_true rfl, Nat.le_of_ble_eq_true rfl, Nat.le_of_ble_eq_true rfl⟩ dX3_add_11 dX3_add_14 dX3_add_15 dX3_add_17 dX3_add_20
  subst hL
  subst hH
  subst hq
  subst hw0
  exact key _ _ hP hD hS

/-! X3_free -/
theorem hi_X3_free_1 : ∀ w ∈ u_ws RX1 TX1 16, w ∈ wsX3_free := by decide +kernel
theorem hi_X3_free_3 : ∀ w ∈ u_ws RX3 TX3 8, w ∈ wsX3_free := by decide +kernel
abbrev rm_X3_free : Room := { frames := 4, cells := 0, slots := 0, locals := 75 }
abbrev Q_X3_free (G : gG) (b : Nat) (tx : Nat) (h : Nat) (ht : Nat) (pa : Nat) (sl : Nat) (fi : Nat) (o : Nat) (g : Nat) (k : Nat) (h2 : Nat) (o2 : Nat) (g2 : Nat) (k2 : Nat)  (pg : Nat → Option Nat) (oh : Nat → Int32) (lf : Nat → Int32) (ce : Nat → Int32) (tgt : Int32 × (Nat → Int32) × (Nat → Int32) × (Nat → Int32) × (Nat → Int32) × (Nat → Int32) × (Nat → Int32)) (below : List Frame) (args : Array Value) (s : State) (A : Nat → Prop) : State → Prop := MQ below (qI G tgt.1 [oBr b tx h ht pa sl fi tgt.2.1, aS G pa 14 pg, oSt h o g tgt.2.2.1, aI G o 6 oh, oLed g k lf, aI G k 80 ce, oSt h2 o2 g2 tgt.2.2.2.1, aI G o2 6 tgt.2.2.2.2.1, oLed g2 k2 tgt.2.2.2.2.2.1, aI G k2 80 tgt.2.2.2.2.2.2] A) args s 0 0 A
def P_X3_free (bf : Nat → Int32) (pg : Nat → Option Nat) (f : Nat → Int32) (oh : Nat → Int32) (lf : Nat → Int32) (ce : Nat → Int32) (f2 : Nat → Int32) (oh2 : Nat → Int32) (lf2 : Nat → Int32) (ce2 : Nat → Int32) : Int32 × (Nat → Int32) × (Nat → Int32) × (Nat → Int32) × (Nat → Int32) × (Nat → Int32) × (Nat → Int32) := (let u1 := P_X3_remember bf pg f oh lf ce f2 oh2 lf2 ce2; let j19 := fun (j19_s0 : Int32) => (let u24 := P_X1_loosen f; (j19_s0, u1.1, u24, u1.2.1, u1.2.2.1, u1.2.2.2.1, u1.2.2.2.2)); (if (f 9) = 0 then (j19 0) else (j19 1)))
set_option maxHeartbeats 4000000 in
set_option maxRecDepth 100000 in
theorem c_X3_free (l : Launch) (G : gG) (b : Nat) (tx : Nat) (h : Nat) (ht : Nat) (pa : Nat) (sl : Nat) (fi : Nat) (o : Nat) (g : Nat) (k : Nat) (h2 : Nat) (o2 : Nat) (g2 : Nat) (k2 : Nat) (bf : Nat → Int32) (pg : Nat → Option Nat) (f : Nat → Int32) (oh : Nat → Int32) (lf : Nat → Int32) (ce : Nat → Int32) (f2 : Nat → Int32) (oh2 : Nat → Int32) (lf2 : Nat → Int32) (ce2 : Nat → Int32) (hst : f 9 = 0 ∨ f 9 = 1) (hpg : P_X3_entry 14 pg (bf 5) = some h2) : kM l G yX3_free wsX3_free rm_X3_free [.ref b] [oBr b tx h ht pa sl fi bf, aS G pa 14 pg, oSt h o g f, aI G o 6 oh, oLed g k lf, aI G k 80 ce, oSt h2 o2 g2 f2, aI G o2 6 oh2, oLed g2 k2 lf2, aI G k2 80 ce2] (qI G ((P_X3_free bf pg f oh lf ce f2 oh2 lf2 ce2).1) [oBr b tx h ht pa sl fi ((P_X3_free bf pg f oh lf ce f2 oh2 lf2 ce2).2.1), aS G pa 14 pg, oSt h o g ((P_X3_free bf pg f oh lf ce f2 oh2 lf2 ce2).2.2.1), aI G o 6 oh, oLed g k lf, aI G k 80 ce, oSt h2 o2 g2 ((P_X3_free bf pg f oh lf ce f2 oh2 lf2 ce2).2.2.2.1), aI G o2 6 ((P_X3_free bf pg f oh lf ce f2 oh2 lf2 ce2).2.2.2.2.1), oLed g2 k2 ((P_X3_free bf pg f oh lf ce f2 oh2 lf2 ce2).2.2.2.2.2.1), aI G k2 80 ((P_X3_free bf pg f oh lf ce f2 oh2 lf2 ce2).2.2.2.2.2.2)]) := by
  refine k_body (cc := cX3_free) (nL := 2) (ret := (some .int)) (by decide) rfl (Nat.le_of_ble_eq_true rfl) ?_
  intro p e s m args below meth c A cx hP hD hS ls hl
  obtain ⟨hx, hb, hml, hown, hts, hr, hlocks, hK, hA⟩ := id cx
  obtain ⟨H, hH⟩ : ∃ H, H = s.heap := ⟨_, rfl⟩
  obtain ⟨locs, hL⟩ : ∃ locs : List Loc, locs = [] := ⟨_, rfl⟩
  obtain ⟨tgt, hq⟩ : ∃ tgt, (P_X3_free bf pg f oh lf ce f2 oh2 lf2 ce2) = tgt := ⟨_, rfl⟩
  have hS : va_S A s.heap H locs := by rw [hH, hL]; exact hS
  rw [← hH] at hP
  have hl : lv_has ls 2 [(0, .ref b)] := hl
  have key : ∀ (H : Heap) (locs : List Loc), va_P G.1 vwCl [oBr b tx h ht pa sl fi bf, aS G pa 14 pg, oSt h o g f, aI G o 6 oh, oLed g k lf, aI G k 80 ce, oSt h2 o2 g2 f2, aI G o2 6 oh2, oLed g2 k2 lf2, aI G k2 80 ce2] H → va_D A [oBr b tx h ht pa sl fi bf, aS G pa 14 pg, oSt h o g f, aI G o 6 oh, oLed g k lf, aI G k 80 ce, oSt h2 o2 g2 f2, aI G o2 6 oh2, oLed g2 k2 lf2, aI G k2 80 ce2] → va_S A s.heap H locs → W p l e rm_X3_free s m args below meth c H locs 0 0 (Q_X3_free G b tx h ht pa sl fi o g k h2 o2 g2 k2 pg oh lf ce tgt below args s A) (F0 m 0 ls []) := by
    clear hP hD hS hH hL
    intro H locs hP hD hS
    unfold P_X3_free at hq
    refine lv_aload_n hx hb dX3_free_0 rfl (lv_at hl 0 rfl) ?_
    have hC := c_X3_remember l G b tx h ht pa sl fi o g k h2 o2 g2 k2 bf pg f oh lf ce f2 oh2 lf2 ce2 (hst) (hpg)
    generalize hu1 : P_X3_remember bf pg f oh lf ce f2 oh2 lf2 ce2 = u1 at hC hq
    refine k_v (ws' := [oBr b tx h ht pa sl fi u1.1, aS G pa 14 pg, oSt h o g f, aI G o 6 oh, oLed g k lf, aI G k 80 ce, oSt h2 o2 g2 u1.2.1, aI G o2 6 u1.2.2.1, oLed g2 k2 u1.2.2.2.1, aI G k2 80 u1.2.2.2.2]) (as := [b, pa, h, o, g, k, h2, o2, g2, k2]) cx hP hD hS [0, 1, 2, 3, 4, 5, 6, 7, 8, 9] rfl (kr_V (n := 0) (As := []) (ci := 3) cx hC gX3_free_X3_remember rfl rfl rfl (by decide +kernel) ⟨Nat.le_of_ble_eq_true rfl, Nat.le_of_ble_eq_true rfl⟩ rfl rfl rfl hP hD [0, 1, 2, 3, 4, 5, 6, 7, 8, 9] rfl rfl rfl rfl hl (Nat.le_of_ble_eq_true rfl) dX3_free_1 ⟨Nat.le_refl _, Nat.le_refl _⟩) ⟨rfl, rfl⟩ rfl (fun H locs hP hD hS => ?_)
    refine lv_aload_n hx hb dX3_free_4 rfl (lv_at hl 0 rfl) ?_
    refine k_get (v := .ref h) (T := TX3) (C := RX3) (N := 8) cx hi_X3_free_3 hP 0 rfl rfl 1 (by decide) (by decide +kernel) rfl dX3_free_5 ?_
    refine k_getN (v := .int (f 9)) (T := TX1) (C := RX1) (N := 16) (host := RX3) cx hi_X3_free_1 hP 2 rfl rfl 9 (by decide) nn_X3_112 rfl dX3_free_8 ?_
    have J19 : ∀ (j19_s0 : Int32), (let u24 := P_X1_loosen f; (j19_s0, u1.1, u24, u1.2.1, u1.2.2.1, u1.2.2.2.1, u1.2.2.2.2)) = tgt → ∀ (H : Heap) (locs : List Loc) (ls : Array Slot), va_P G.1 vwCl [oBr b tx h ht pa sl fi u1.1, aS G pa 14 pg, oSt h o g f, aI G o 6 oh, oLed g k lf, aI G k 80 ce, oSt h2 o2 g2 u1.2.1, aI G o2 6 u1.2.2.1, oLed g2 k2 u1.2.2.2.1, aI G k2 80 u1.2.2.2.2] H → va_D A [oBr b tx h ht pa sl fi u1.1, aS G pa 14 pg, oSt h o g f, aI G o 6 oh, oLed g k lf, aI G k 80 ce, oSt h2 o2 g2 u1.2.1, aI G o2 6 u1.2.2.1, oLed g2 k2 u1.2.2.2.1, aI G k2 80 u1.2.2.2.2] → va_S A s.heap H locs → lv_has ls 2 [(0, .ref b)] → W p l e rm_X3_free s m args below meth c H locs 0 0 (Q_X3_free G b tx h ht pa sl fi o g k h2 o2 g2 k2 pg oh lf ce tgt below args s A) (F0 m 19 ls [.int j19_s0]) := by
      intro j19_s0 hq H locs ls hP hD hS hl
      refine lv_istore_n (lv' := [(1, .int j19_s0), (0, .ref b)]) hx hb dX3_free_19 rfl hl (by decide) rfl (fun ls hl => ?_)
      refine lv_aload_n hx hb dX3_free_20 rfl (lv_at hl 1 rfl) ?_
      refine k_get (v := .ref h) (T := TX3) (C := RX3) (N := 8) cx hi_X3_free_3 hP 0 rfl rfl 1 (by decide) (by decide +kernel) rfl dX3_free_21 ?_
      have hC := c_X1_loosen l G h o g f
      replace hq := k_let hq
      generalize hu24 : P_X1_loosen f = u24 at hC hq
      refine k_v (ws' := [oBr b tx h ht pa sl fi u1.1, aS G pa 14 pg, oSt h o g u24, aI G o 6 oh, oLed g k lf, aI G k 80 ce, oSt h2 o2 g2 u1.2.1, aI G o2 6 u1.2.2.1, oLed g2 k2 u1.2.2.2.1, aI G k2 80 u1.2.2.2.2]) (as := [h]) cx hP hD hS [2] rfl (kr_VN (n := 0) (As := []) (ci := 1) cx hC gX3_free_X1_loosen_n163 rfl rfl rfl nn_X3_163 (by decide +kernel) (by decide +kernel) (by decide +kernel) (by decide +kernel) ⟨Nat.le_of_ble_eq_true rfl, Nat.le_of_ble_eq_true rfl⟩ rfl rfl rfl hP hD [2] rfl rfl rfl rfl hl (Nat.le_of_ble_eq_true rfl) dX3_free_24 ⟨Nat.le_refl _, Nat.le_refl _⟩) ⟨rfl, rfl⟩ rfl (fun H locs hP hD hS => ?_)
      refine lv_iload_n hx hb dX3_free_27 rfl (lv_at hl 0 rfl) ?_
      subst hq
      exact k_iret cx hP hS dX3_free_28
    refine lv_if_eq (tgt := 18) hx hb dX3_free_11 (by decide) (fun c_11 => ?_) (fun c_11 => ?_)
    · replace hq := (if_pos c_11).symm.trans hq
      refine lv_iconst (v := 0) hx hb dX3_free_18 (by decide) ?_
      exact J19 0 hq H locs ls hP hD hS (lv_sub hl [0] rfl)
    · replace hq := (if_neg c_11).symm.trans hq
      refine lv_iconst (v := 1) hx hb dX3_free_14 (by decide) ?_
      refine lv_goto (tgt := 19) hx hb dX3_free_15 (by decide) ?_
      exact J19 1 hq H locs ls hP hD hS (lv_sub hl [0] rfl)
  subst hL
  subst hH
  subst hq
  exact key _ _ hP hD hS

/-! X3_balance -/
theorem hi_X3_balance_1 : ∀ w ∈ u_ws RX1 TX1 16, w ∈ wsX3_balance := by decide +kernel
theorem hi_X3_balance_3 : ∀ w ∈ u_ws RX3 TX3 8, w ∈ wsX3_balance := by decide +kernel
abbrev rm_X3_balance : Room := { frames := 6, cells := 1, slots := 6, locals := 113 }
abbrev Q_X3_balance (G : gG) (b : Nat) (tx : Nat) (h : Nat) (ht : Nat) (pa : Nat) (sl : Nat) (fi : Nat) (o : Nat) (g : Nat) (k : Nat) (h2 : Nat) (o2 : Nat) (g2 : Nat) (k2 : Nat) (w0 : va_W)  (pg : Nat → Option Nat) (oh : Nat → Int32) (tgt : Int32 × Int32 × (Nat → Int32) × (Nat → Int32) × (Nat → Int32) × (Nat → Int32) × (Nat → Int32) × (Nat → Int32) × (Nat → Int32) × (Nat → Int32)) (below : List Frame) (args : Array Value) (s : State) (A : Nat → Prop) : State → Prop := vx_MQ below (qX G tgt.1 tgt.2.1 [oBr b tx h ht pa sl fi tgt.2.2.1, aS G pa 14 pg, oSt h o g tgt.2.2.2.1, aI G o 6 oh, oLed g k tgt.2.2.2.2.1, aI G k 80 tgt.2.2.2.2.2.1, oSt h2 o2 g2 tgt.2.2.2.2.2.2.1, aI G o2 6 tgt.2.2.2.2.2.2.2.1, oLed g2 k2 tgt.2.2.2.2.2.2.2.2.1, aI G k2 80 tgt.2.2.2.2.2.2.2.2.2] A) (xX G tgt.1 w0 A) args s 1 6 A
def P_X3_balance (bf : Nat → Int32) (pg : Nat → Option Nat) (f : Nat → Int32) (oh : Nat → Int32) (lf : Nat → Int32) (ce : Nat → Int32) (f2 : Nat → Int32) (oh2 : Nat → Int32) (lf2 : Nat → Int32) (ce2 : Nat → Int32) : Int32 × Int32 × (Nat → Int32) × (Nat → Int32) × (Nat → Int32) × (Nat → Int32) × (Nat → Int32) × (Nat → Int32) × (Nat → Int32) × (Nat → Int32) := (if (f 9) = 0 then (let u21 := P_X3_remember bf pg f oh lf ce f2 oh2 lf2 ce2; let u28 := P_X1_balanceBox f oh lf ce; (0, (u28.1 2), u21.1, u28.1, u28.2.1, u28.2.2, u21.2.1, u21.2.2.1, u21.2.2.2.1, u21.2.2.2.2)) else (2, 0, bf, f, lf, ce, f2, oh2, lf2, ce2))
set_option maxHeartbeats 4000000 in
set_option maxRecDepth 100000 in
theorem c_X3_balance (l : Launch) (hlt : l.stackTraces = false) (G : gG) (b : Nat) (tx : Nat) (h : Nat) (ht : Nat) (pa : Nat) (sl : Nat) (fi : Nat) (o : Nat) (g : Nat) (k : Nat) (h2 : Nat) (o2 : Nat) (g2 : Nat) (k2 : Nat) (bf : Nat → Int32) (pg : Nat → Option Nat) (f : Nat → Int32) (oh : Nat → Int32) (lf : Nat → Int32) (ce : Nat → Int32) (f2 : Nat → Int32) (oh2 : Nat → Int32) (lf2 : Nat → Int32) (ce2 : Nat → Int32) (hst : f 9 = 0 ∨ f 9 = 1) (hpg : P_X3_entry 14 pg (bf 5) = some h2) : kX l G yX3_balance wsX3_balance rm_X3_balance [.ref b] [oBr b tx h ht pa sl fi bf, aS G pa 14 pg, oSt h o g f, aI G o 6 oh, oLed g k lf, aI G k 80 ce, oSt h2 o2 g2 f2, aI G o2 6 oh2, oLed g2 k2 lf2, aI G k2 80 ce2] (qX G ((P_X3_balance bf pg f oh lf ce f2 oh2 lf2 ce2).1) ((P_X3_balance bf pg f oh lf ce f2 oh2 lf2 ce2).2.1) [oBr b tx h ht pa sl fi ((P_X3_balance bf pg f oh lf ce f2 oh2 lf2 ce2).2.2.1), aS G pa 14 pg, oSt h o g ((P_X3_balance bf pg f oh lf ce f2 oh2 lf2 ce2).2.2.2.1), aI G o 6 oh, oLed g k ((P_X3_balance bf pg f oh lf ce f2 oh2 lf2 ce2).2.2.2.2.1), aI G k 80 ((P_X3_balance bf pg f oh lf ce f2 oh2 lf2 ce2).2.2.2.2.2.1), oSt h2 o2 g2 ((P_X3_balance bf pg f oh lf ce f2 oh2 lf2 ce2).2.2.2.2.2.2.1), aI G o2 6 ((P_X3_balance bf pg f oh lf ce f2 oh2 lf2 ce2).2.2.2.2.2.2.2.1), oLed g2 k2 ((P_X3_balance bf pg f oh lf ce f2 oh2 lf2 ce2).2.2.2.2.2.2.2.2.1), aI G k2 80 ((P_X3_balance bf pg f oh lf ce f2 oh2 lf2 ce2).2.2.2.2.2.2.2.2.2)]) (xX G ((P_X3_balance bf pg f oh lf ce f2 oh2 lf2 ce2).1) [oBr b tx h ht pa sl fi bf, aS G pa 14 pg, oSt h o g f, aI G o 6 oh, oLed g k lf, aI G k 80 ce, oSt h2 o2 g2 f2, aI G o2 6 oh2, oLed g2 k2 lf2, aI G k2 80 ce2]) := by
  refine k_bodyX (cc := cX3_balance) (nL := 1) (ret := (some .int)) hlt (by decide) rfl (Nat.le_of_ble_eq_true rfl) ?_
  intro p e s m args below meth c A cx ct hP hD hS ls hl
  obtain ⟨hx, hb, hml, hown, hts, hr, hlocks, hK, hA⟩ := id cx
  obtain ⟨H, hH⟩ : ∃ H, H = s.heap := ⟨_, rfl⟩
  obtain ⟨locs, hL⟩ : ∃ locs : List Loc, locs = [] := ⟨_, rfl⟩
  obtain ⟨tgt, hq⟩ : ∃ tgt, (P_X3_balance bf pg f oh lf ce f2 oh2 lf2 ce2) = tgt := ⟨_, rfl⟩
  obtain ⟨w0, hw0⟩ : ∃ w0 : va_W, w0 = [oBr b tx h ht pa sl fi bf, aS G pa 14 pg, oSt h o g f, aI G o 6 oh, oLed g k lf, aI G k 80 ce, oSt h2 o2 g2 f2, aI G o2 6 oh2, oLed g2 k2 lf2, aI G k2 80 ce2] := ⟨_, rfl⟩
  have hS : va_S A s.heap H locs := by rw [hH, hL]; exact hS
  rw [← hH] at hP
  have hl : lv_has ls 1 [(0, .ref b)] := hl
  have key : ∀ (H : Heap) (locs : List Loc), va_P G.1 vwCl [oBr b tx h ht pa sl fi bf, aS G pa 14 pg, oSt h o g f, aI G o 6 oh, oLed g k lf, aI G k 80 ce, oSt h2 o2 g2 f2, aI G o2 6 oh2, oLed g2 k2 lf2, aI G k2 80 ce2] H → va_D A [oBr b tx h ht pa sl fi bf, aS G pa 14 pg, oSt h o g f, aI G o 6 oh, oLed g k lf, aI G k 80 ce, oSt h2 o2 g2 f2, aI G o2 6 oh2, oLed g2 k2 lf2, aI G k2 80 ce2] → va_S A s.heap H locs → W p l e rm_X3_balance s m args below meth c H locs 0 0 (Q_X3_balance G b tx h ht pa sl fi o g k h2 o2 g2 k2 w0 pg oh tgt below args s A) (F0 m 0 ls []) := by
    clear hP hD hS hH hL
    intro H locs hP hD hS
    unfold P_X3_balance at hq
    refine lv_aload_n hx hb dX3_balance_0 rfl (lv_at hl 0 rfl) ?_
    refine k_get (v := .ref h) (T := TX3) (C := RX3) (N := 8) cx hi_X3_balance_3 hP 0 rfl rfl 1 (by decide) (by decide +kernel) rfl dX3_balance_1 ?_
    refine k_getN (v := .int (f 9)) (T := TX1) (C := RX1) (N := 16) (host := RX3) cx hi_X3_balance_1 hP 2 rfl rfl 9 (by decide) nn_X3_112 rfl dX3_balance_4 ?_
    refine lv_if_eq (tgt := 20) hx hb dX3_balance_7 (by decide) (fun c_7 => ?_) (fun c_7 => ?_)
    · replace hq := (if_pos c_7).symm.trans hq
      refine lv_aload_n hx hb dX3_balance_20 rfl (lv_at hl 0 rfl) ?_
      have hC := c_X3_remember l G b tx h ht pa sl fi o g k h2 o2 g2 k2 bf pg f oh lf ce f2 oh2 lf2 ce2 (hst) (hpg)
      generalize hu21 : P_X3_remember bf pg f oh lf ce f2 oh2 lf2 ce2 = u21 at hC hq
      refine k_v (ws' := [oBr b tx h ht pa sl fi u21.1, aS G pa 14 pg, oSt h o g f, aI G o 6 oh, oLed g k lf, aI G k 80 ce, oSt h2 o2 g2 u21.2.1, aI G o2 6 u21.2.2.1, oLed g2 k2 u21.2.2.2.1, aI G k2 80 u21.2.2.2.2]) (as := [b, pa, h, o, g, k, h2, o2, g2, k2]) cx hP hD hS [0, 1, 2, 3, 4, 5, 6, 7, 8, 9] rfl (kr_V (n := 0) (As := []) (ci := 3) cx hC gX3_balance_X3_remember rfl rfl rfl (by decide +kernel) ⟨Nat.le_of_ble_eq_true rfl, Nat.le_of_ble_eq_true rfl⟩ rfl rfl rfl hP hD [0, 1, 2, 3, 4, 5, 6, 7, 8, 9] rfl rfl rfl rfl hl (Nat.le_of_ble_eq_true rfl) dX3_balance_21 ⟨Nat.zero_le _, Nat.zero_le _⟩) ⟨rfl, rfl⟩ rfl (fun H locs hP hD hS => ?_)
      refine lv_aload_n hx hb dX3_balance_24 rfl (lv_at hl 0 rfl) ?_
      refine k_get (v := .ref h) (T := TX3) (C := RX3) (N := 8) cx hi_X3_balance_3 hP 0 rfl rfl 1 (by decide) (by decide +kernel) rfl dX3_balance_25 ?_
      have hC := c_X1_balanceBox l G h o g k f oh lf ce
      replace hq := k_let hq
      generalize hu28 : P_X1_balanceBox f oh lf ce = u28 at hC hq
      refine k_v (ws' := [oBr b tx h ht pa sl fi u21.1, aS G pa 14 pg, oSt h o g u28.1, aI G o 6 oh, oLed g k u28.2.1, aI G k 80 u28.2.2, oSt h2 o2 g2 u21.2.1, aI G o2 6 u21.2.2.1, oLed g2 k2 u21.2.2.2.1, aI G k2 80 u21.2.2.2.2]) (as := [h, o, g, k]) cx hP hD hS [2, 3, 4, 5] rfl (kr_VN (n := 0) (As := []) (ci := 1) cx hC gX3_balance_X1_balanceBox_n166 rfl rfl rfl nn_X3_166 (by decide +kernel) (by decide +kernel) (by decide +kernel) (by decide +kernel) ⟨Nat.le_of_ble_eq_true rfl, Nat.le_of_ble_eq_true rfl⟩ rfl rfl rfl hP hD [2, 3, 4, 5] rfl rfl rfl rfl hl (Nat.le_of_ble_eq_true rfl) dX3_balance_28 ⟨Nat.zero_le _, Nat.zero_le _⟩) ⟨rfl, rfl⟩ rfl (fun H locs hP hD hS => ?_)
      refine lv_aload_n hx hb dX3_balance_31 rfl (lv_at hl 0 rfl) ?_
      refine k_get (v := .ref h) (T := TX3) (C := RX3) (N := 8) cx hi_X3_balance_3 hP 0 rfl rfl 1 (by decide) (by decide +kernel) rfl dX3_balance_32 ?_
      refine k_getN (v := .int (u28.1 2)) (T := TX1) (C := RX1) (N := 16) (host := RX3) cx hi_X3_balance_1 hP 2 rfl rfl 2 (by decide) nn_X3_97 rfl dX3_balance_35 ?_
      subst hq
      exact k_iretX cx rfl hP hS dX3_balance_38
    · replace hq := (if_neg c_7).symm.trans hq
      subst hq
      exact k_thrS (cls := "java/lang/IllegalStateException") (tx := "the galvanometer sticks") (r := 0) (ws := [oBr b tx h ht pa sl fi bf, aS G pa 14 pg, oSt h o g f, aI G o 6 oh, oLed g k lf, aI G k 80 ce, oSt h2 o2 g2 f2, aI G o2 6 oh2, oLed g2 k2 lf2, aI G k2 80 ce2]) (w0 := w0) cx ct (by decide +kernel) ⟨by decide +kernel, by decide +kernel⟩ (by decide +kernel) (fun w h => List.mem_cons_of_mem _ (List.mem_append_right _ h)) e1_56 e2_52_56 rfl (by rw [hw0]; exact hP) hS hl ⟨Nat.le_of_ble_eq_true rfl, Nat.le_of_ble_eq_true rfl, Nat.le_of_ble_eq_true rfl, Nat.le_of_ble_eq_true rfl⟩ dX3_balance_10 dX3_balance_13 dX3_balance_14 dX3_balance_16 dX3_balance_19
  subst hL
  subst hH
  subst hq
  subst hw0
  exact key _ _ hP hD hS

/-! X3_undo -/
theorem hi_X3_undo_3 : ∀ w ∈ u_ws RX3 TX3 8, w ∈ wsX3_undo := by decide +kernel
abbrev rm_X3_undo : Room := { frames := 6, cells := 1, slots := 6, locals := 82 }
abbrev Q_X3_undo (G : gG) (b : Nat) (tx : Nat) (h : Nat) (ht : Nat) (pa : Nat) (sl : Nat) (fi : Nat) (o : Nat) (g : Nat) (k : Nat) (h2 : Nat) (o2 : Nat) (g2 : Nat) (k2 : Nat) (w0 : va_W)  (pg : Nat → Option Nat) (f2 : Nat → Int32) (oh2 : Nat → Int32) (lf2 : Nat → Int32) (ce2 : Nat → Int32) (tgt : Int32 × Int32 × (Nat → Int32) × (Nat → Int32) × (Nat → Int32) × (Nat → Int32) × (Nat → Int32)) (below : List Frame) (args : Array Value) (s : State) (A : Nat → Prop) : State → Prop := vx_MQ below (qX G tgt.1 tgt.2.1 [oBr b tx h ht pa sl fi tgt.2.2.1, aS G pa 14 pg, oSt h o g tgt.2.2.2.1, aI G o 6 tgt.2.2.2.2.1, oLed g k tgt.2.2.2.2.2.1, aI G k 80 tgt.2.2.2.2.2.2, oSt h2 o2 g2 f2, aI G o2 6 oh2, oLed g2 k2 lf2, aI G k2 80 ce2] A) (xX G tgt.1 w0 A) args s 1 6 A
def P_X3_undo (bf : Nat → Int32) (pg : Nat → Option Nat) (f : Nat → Int32) (oh : Nat → Int32) (lf : Nat → Int32) (ce : Nat → Int32) (f2 : Nat → Int32) (oh2 : Nat → Int32) (lf2 : Nat → Int32) (ce2 : Nat → Int32) : Int32 × Int32 × (Nat → Int32) × (Nat → Int32) × (Nat → Int32) × (Nat → Int32) × (Nat → Int32) := (if 0 < (bf 4) then (if (bf 5) ≤ 0 then (let u64 := P_X1_copyFrom f oh lf ce f2 oh2 lf2 ce2; (0, ((bf 4) - 1), (upd (upd bf 5 13) 4 ((bf 4) - 1)), u64.1, u64.2.1, u64.2.2.1, u64.2.2.2)) else (let u64 := P_X1_copyFrom f oh lf ce f2 oh2 lf2 ce2; (0, ((bf 4) - 1), (upd (upd bf 5 ((bf 5) - 1)) 4 ((bf 4) - 1)), u64.1, u64.2.1, u64.2.2.1, u64.2.2.2))) else (2, 0, bf, f, oh, lf, ce))
set_option maxHeartbeats 4000000 in
set_option maxRecDepth 100000 in
theorem c_X3_undo (l : Launch) (hlt : l.stackTraces = false) (G : gG) (b : Nat) (tx : Nat) (h : Nat) (ht : Nat) (pa : Nat) (sl : Nat) (fi : Nat) (o : Nat) (g : Nat) (k : Nat) (h2 : Nat) (o2 : Nat) (g2 : Nat) (k2 : Nat) (bf : Nat → Int32) (pg : Nat → Option Nat) (f : Nat → Int32) (oh : Nat → Int32) (lf : Nat → Int32) (ce : Nat → Int32) (f2 : Nat → Int32) (oh2 : Nat → Int32) (lf2 : Nat → Int32) (ce2 : Nat → Int32) (hst2 : f2 9 = 0 ∨ f2 9 = 1) (hpg : P_X3_entry 14 pg (if bf 5 ≤ 0 then 13 else bf 5 - 1) = some h2) : kX l G yX3_undo wsX3_undo rm_X3_undo [.ref b] [oBr b tx h ht pa sl fi bf, aS G pa 14 pg, oSt h o g f, aI G o 6 oh, oLed g k lf, aI G k 80 ce, oSt h2 o2 g2 f2, aI G o2 6 oh2, oLed g2 k2 lf2, aI G k2 80 ce2] (qX G ((P_X3_undo bf pg f oh lf ce f2 oh2 lf2 ce2).1) ((P_X3_undo bf pg f oh lf ce f2 oh2 lf2 ce2).2.1) [oBr b tx h ht pa sl fi ((P_X3_undo bf pg f oh lf ce f2 oh2 lf2 ce2).2.2.1), aS G pa 14 pg, oSt h o g ((P_X3_undo bf pg f oh lf ce f2 oh2 lf2 ce2).2.2.2.1), aI G o 6 ((P_X3_undo bf pg f oh lf ce f2 oh2 lf2 ce2).2.2.2.2.1), oLed g k ((P_X3_undo bf pg f oh lf ce f2 oh2 lf2 ce2).2.2.2.2.2.1), aI G k 80 ((P_X3_undo bf pg f oh lf ce f2 oh2 lf2 ce2).2.2.2.2.2.2), oSt h2 o2 g2 f2, aI G o2 6 oh2, oLed g2 k2 lf2, aI G k2 80 ce2]) (xX G ((P_X3_undo bf pg f oh lf ce f2 oh2 lf2 ce2).1) [oBr b tx h ht pa sl fi bf, aS G pa 14 pg, oSt h o g f, aI G o 6 oh, oLed g k lf, aI G k 80 ce, oSt h2 o2 g2 f2, aI G o2 6 oh2, oLed g2 k2 lf2, aI G k2 80 ce2]) := by
  refine k_bodyX (cc := cX3_undo) (nL := 1) (ret := (some .int)) hlt (by decide) rfl (Nat.le_of_ble_eq_true rfl) ?_
  intro p e s m args below meth c A cx ct hP hD hS ls hl
  obtain ⟨hx, hb, hml, hown, hts, hr, hlocks, hK, hA⟩ := id cx
  obtain ⟨H, hH⟩ : ∃ H, H = s.heap := ⟨_, rfl⟩
  obtain ⟨locs, hL⟩ : ∃ locs : List Loc, locs = [] := ⟨_, rfl⟩
  obtain ⟨tgt, hq⟩ : ∃ tgt, (P_X3_undo bf pg f oh lf ce f2 oh2 lf2 ce2) = tgt := ⟨_, rfl⟩
  obtain ⟨w0, hw0⟩ : ∃ w0 : va_W, w0 = [oBr b tx h ht pa sl fi bf, aS G pa 14 pg, oSt h o g f, aI G o 6 oh, oLed g k lf, aI G k 80 ce, oSt h2 o2 g2 f2, aI G o2 6 oh2, oLed g2 k2 lf2, aI G k2 80 ce2] := ⟨_, rfl⟩
  have hS : va_S A s.heap H locs := by rw [hH, hL]; exact hS
  rw [← hH] at hP
  have hl : lv_has ls 1 [(0, .ref b)] := hl
  have key : ∀ (H : Heap) (locs : List Loc), va_P G.1 vwCl [oBr b tx h ht pa sl fi bf, aS G pa 14 pg, oSt h o g f, aI G o 6 oh, oLed g k lf, aI G k 80 ce, oSt h2 o2 g2 f2, aI G o2 6 oh2, oLed g2 k2 lf2, aI G k2 80 ce2] H → va_D A [oBr b tx h ht pa sl fi bf, aS G pa 14 pg, oSt h o g f, aI G o 6 oh, oLed g k lf, aI G k 80 ce, oSt h2 o2 g2 f2, aI G o2 6 oh2, oLed g2 k2 lf2, aI G k2 80 ce2] → va_S A s.heap H locs → W p l e rm_X3_undo s m args below meth c H locs 0 0 (Q_X3_undo G b tx h ht pa sl fi o g k h2 o2 g2 k2 w0 pg f2 oh2 lf2 ce2 tgt below args s A) (F0 m 0 ls []) := by
    clear hP hD hS hH hL
    intro H locs hP hD hS
    unfold P_X3_undo at hq
    refine lv_aload_n hx hb dX3_undo_0 rfl (lv_at hl 0 rfl) ?_
    refine k_get (v := .int (bf 4)) (T := TX3) (C := RX3) (N := 8) cx hi_X3_undo_3 hP 0 rfl rfl 4 (by decide) (by decide +kernel) rfl dX3_undo_1 ?_
    refine lv_if_gt (tgt := 17) hx hb dX3_undo_4 (by decide) (fun c_4 => ?_) (fun c_4 => ?_)
    · replace hq := (if_pos c_4).symm.trans hq
      refine lv_aload_n hx hb dX3_undo_17 rfl (lv_at hl 0 rfl) ?_
      refine lv_aload_n hx hb dX3_undo_18 rfl (lv_at hl 0 rfl) ?_
      refine k_get (v := .int (bf 5)) (T := TX3) (C := RX3) (N := 8) cx hi_X3_undo_3 hP 0 rfl rfl 5 (by decide) (by decide +kernel) rfl dX3_undo_19 ?_
      refine lv_if_le (tgt := 34) hx hb dX3_undo_22 (by decide) (fun c_22 => ?_) (fun c_22 => ?_)
      · replace hq := (if_pos c_22).symm.trans hq
        refine lv_bipush (v := 13) hx hb dX3_undo_34 (by decide) ?_
        refine k_put (ws' := [oBr b tx h ht pa sl fi (upd bf 5 13), aS G pa 14 pg, oSt h o g f, aI G o 6 oh, oLed g k lf, aI G k 80 ce, oSt h2 o2 g2 f2, aI G o2 6 oh2, oLed g2 k2 lf2, aI G k2 80 ce2]) (ty := .int) (T := TX3) (C := RX3) (N := 8) cx hi_X3_undo_3 tyX3_ok nmX3 hP hD hS 0 rfl rfl 5 (by decide) (by decide +kernel) rfl rfl rfl rfl (Nat.le_of_ble_eq_true rfl) rfl dX3_undo_36 (fun H locs hP hD hS => ?_)
        refine lv_aload_n hx hb dX3_undo_39 rfl (lv_at hl 0 rfl) ?_
        refine lv_dup hx hb dX3_undo_40 rfl ?_
        refine k_get (v := .int (bf 4)) (T := TX3) (C := RX3) (N := 8) cx hi_X3_undo_3 hP 0 rfl rfl 4 (by decide) (by decide +kernel) rfl dX3_undo_41 ?_
        refine lv_iconst (v := 1) hx hb dX3_undo_44 (by decide) ?_
        refine lv_isub hx hb dX3_undo_45 ?_
        refine k_put (ws' := [oBr b tx h ht pa sl fi (upd (upd bf 5 13) 4 ((bf 4) - 1)), aS G pa 14 pg, oSt h o g f, aI G o 6 oh, oLed g k lf, aI G k 80 ce, oSt h2 o2 g2 f2, aI G o2 6 oh2, oLed g2 k2 lf2, aI G k2 80 ce2]) (ty := .int) (T := TX3) (C := RX3) (N := 8) cx hi_X3_undo_3 tyX3_ok nmX3 hP hD hS 0 rfl rfl 4 (by decide) (by decide +kernel) rfl rfl rfl rfl (Nat.le_of_ble_eq_true rfl) rfl dX3_undo_46 (fun H locs hP hD hS => ?_)
        refine lv_aload_n hx hb dX3_undo_49 rfl (lv_at hl 0 rfl) ?_
        refine k_get (v := .ref h) (T := TX3) (C := RX3) (N := 8) cx hi_X3_undo_3 hP 0 rfl rfl 1 (by decide) (by decide +kernel) rfl dX3_undo_50 ?_
        refine lv_aload_n hx hb dX3_undo_53 rfl (lv_at hl 0 rfl) ?_
        refine k_get (v := .ref pa) (T := TX3) (C := RX3) (N := 8) cx hi_X3_undo_3 hP 0 rfl rfl 3 (by decide) (by decide +kernel) rfl dX3_undo_54 ?_
        refine lv_aload_n hx hb dX3_undo_57 rfl (lv_at hl 0 rfl) ?_
        refine k_get (v := .int 13) (T := TX3) (C := RX3) (N := 8) cx hi_X3_undo_3 hP 0 rfl rfl 5 (by decide) (by decide +kernel) rfl dX3_undo_58 ?_
        have hC := c_X3_entry l G pa 14 pg 13 (by decide)
        refine k_q (ws' := [oBr b tx h ht pa sl fi (upd (upd bf 5 13) 4 ((bf 4) - 1)), aS G pa 14 pg, oSt h o g f, aI G o 6 oh, oLed g k lf, aI G k 80 ce, oSt h2 o2 g2 f2, aI G o2 6 oh2, oLed g2 k2 lf2, aI G k2 80 ce2]) (as := [pa]) cx hP hD hS [1] rfl (kr_S (n := 2) (As := [.ref pa, .int 13]) cx hC gX3_undo_X3_entry rfl rfl rfl (by decide +kernel) ⟨Nat.le_of_ble_eq_true rfl, Nat.le_of_ble_eq_true rfl⟩ hP hD [1] rfl rfl rfl rfl hl (Nat.le_of_ble_eq_true rfl) dX3_undo_61 ⟨Nat.zero_le _, Nat.zero_le _⟩) ⟨rfl, rfl⟩ rfl (fun H locs hP hD hS => ?_)
        refine k_known (a := h2) (by have h0 := hpg; first | rw [if_pos c_22] at h0; exact h0 | rw [if_neg c_22] at h0; exact h0) ?_
        have hC := c_X1_copyFrom l G h o g k h2 o2 g2 k2 f oh lf ce f2 oh2 lf2 ce2 (hst2)
        generalize hu64 : P_X1_copyFrom f oh lf ce f2 oh2 lf2 ce2 = u64 at hC hq
        refine k_v (ws' := [oBr b tx h ht pa sl fi (upd (upd bf 5 13) 4 ((bf 4) - 1)), aS G pa 14 pg, oSt h o g u64.1, aI G o 6 u64.2.1, oLed g k u64.2.2.1, aI G k 80 u64.2.2.2, oSt h2 o2 g2 f2, aI G o2 6 oh2, oLed g2 k2 lf2, aI G k2 80 ce2]) (as := [h, o, g, k, h2, o2, g2, k2]) cx hP hD hS [2, 3, 4, 5, 6, 7, 8, 9] rfl (kr_VN (n := 1) (As := [.ref h2]) (ci := 1) cx hC gX3_undo_X1_copyFrom_n181 rfl rfl rfl nn_X3_181 (by decide +kernel) (by decide +kernel) (by decide +kernel) (by decide +kernel) ⟨Nat.le_of_ble_eq_true rfl, Nat.le_of_ble_eq_true rfl⟩ rfl rfl rfl hP hD [2, 3, 4, 5, 6, 7, 8, 9] rfl rfl rfl rfl hl (Nat.le_of_ble_eq_true rfl) dX3_undo_64 ⟨Nat.zero_le _, Nat.zero_le _⟩) ⟨rfl, rfl⟩ rfl (fun H locs hP hD hS => ?_)
        refine lv_aload_n hx hb dX3_undo_67 rfl (lv_at hl 0 rfl) ?_
        refine k_get (v := .int ((bf 4) - 1)) (T := TX3) (C := RX3) (N := 8) cx hi_X3_undo_3 hP 0 rfl rfl 4 (by decide) (by decide +kernel) rfl dX3_undo_68 ?_
        subst hq
        exact k_iretX cx rfl hP hS dX3_undo_71
      · replace hq := (if_neg c_22).symm.trans hq
        refine lv_aload_n hx hb dX3_undo_25 rfl (lv_at hl 0 rfl) ?_
        refine k_get (v := .int (bf 5)) (T := TX3) (C := RX3) (N := 8) cx hi_X3_undo_3 hP 0 rfl rfl 5 (by decide) (by decide +kernel) rfl dX3_undo_26 ?_
        refine lv_iconst (v := 1) hx hb dX3_undo_29 (by decide) ?_
        refine lv_isub hx hb dX3_undo_30 ?_
        refine lv_goto (tgt := 36) hx hb dX3_undo_31 (by decide) ?_
        refine k_put (ws' := [oBr b tx h ht pa sl fi (upd bf 5 ((bf 5) - 1)), aS G pa 14 pg, oSt h o g f, aI G o 6 oh, oLed g k lf, aI G k 80 ce, oSt h2 o2 g2 f2, aI G o2 6 oh2, oLed g2 k2 lf2, aI G k2 80 ce2]) (ty := .int) (T := TX3) (C := RX3) (N := 8) cx hi_X3_undo_3 tyX3_ok nmX3 hP hD hS 0 rfl rfl 5 (by decide) (by decide +kernel) rfl rfl rfl rfl (Nat.le_of_ble_eq_true rfl) rfl dX3_undo_36 (fun H locs hP hD hS => ?_)
        refine lv_aload_n hx hb dX3_undo_39 rfl (lv_at hl 0 rfl) ?_
        refine lv_dup hx hb dX3_undo_40 rfl ?_
        refine k_get (v := .int (bf 4)) (T := TX3) (C := RX3) (N := 8) cx hi_X3_undo_3 hP 0 rfl rfl 4 (by decide) (by decide +kernel) rfl dX3_undo_41 ?_
        refine lv_iconst (v := 1) hx hb dX3_undo_44 (by decide) ?_
        refine lv_isub hx hb dX3_undo_45 ?_
        refine k_put (ws' := [oBr b tx h ht pa sl fi (upd (upd bf 5 ((bf 5) - 1)) 4 ((bf 4) - 1)), aS G pa 14 pg, oSt h o g f, aI G o 6 oh, oLed g k lf, aI G k 80 ce, oSt h2 o2 g2 f2, aI G o2 6 oh2, oLed g2 k2 lf2, aI G k2 80 ce2]) (ty := .int) (T := TX3) (C := RX3) (N := 8) cx hi_X3_undo_3 tyX3_ok nmX3 hP hD hS 0 rfl rfl 4 (by decide) (by decide +kernel) rfl rfl rfl rfl (Nat.le_of_ble_eq_true rfl) rfl dX3_undo_46 (fun H locs hP hD hS => ?_)
        refine lv_aload_n hx hb dX3_undo_49 rfl (lv_at hl 0 rfl) ?_
        refine k_get (v := .ref h) (T := TX3) (C := RX3) (N := 8) cx hi_X3_undo_3 hP 0 rfl rfl 1 (by decide) (by decide +kernel) rfl dX3_undo_50 ?_
        refine lv_aload_n hx hb dX3_undo_53 rfl (lv_at hl 0 rfl) ?_
        refine k_get (v := .ref pa) (T := TX3) (C := RX3) (N := 8) cx hi_X3_undo_3 hP 0 rfl rfl 3 (by decide) (by decide +kernel) rfl dX3_undo_54 ?_
        refine lv_aload_n hx hb dX3_undo_57 rfl (lv_at hl 0 rfl) ?_
        refine k_get (v := .int ((bf 5) - 1)) (T := TX3) (C := RX3) (N := 8) cx hi_X3_undo_3 hP 0 rfl rfl 5 (by decide) (by decide +kernel) rfl dX3_undo_58 ?_
        have hC := c_X3_entry l G pa 14 pg ((bf 5) - 1) (by decide)
        refine k_q (ws' := [oBr b tx h ht pa sl fi (upd (upd bf 5 ((bf 5) - 1)) 4 ((bf 4) - 1)), aS G pa 14 pg, oSt h o g f, aI G o 6 oh, oLed g k lf, aI G k 80 ce, oSt h2 o2 g2 f2, aI G o2 6 oh2, oLed g2 k2 lf2, aI G k2 80 ce2]) (as := [pa]) cx hP hD hS [1] rfl (kr_S (n := 2) (As := [.ref pa, .int ((bf 5) - 1)]) cx hC gX3_undo_X3_entry rfl rfl rfl (by decide +kernel) ⟨Nat.le_of_ble_eq_true rfl, Nat.le_of_ble_eq_true rfl⟩ hP hD [1] rfl rfl rfl rfl hl (Nat.le_of_ble_eq_true rfl) dX3_undo_61 ⟨Nat.zero_le _, Nat.zero_le _⟩) ⟨rfl, rfl⟩ rfl (fun H locs hP hD hS => ?_)
        refine k_known (a := h2) (by have h0 := hpg; first | rw [if_pos c_22] at h0; exact h0 | rw [if_neg c_22] at h0; exact h0) ?_
        have hC := c_X1_copyFrom l G h o g k h2 o2 g2 k2 f oh lf ce f2 oh2 lf2 ce2 (hst2)
        generalize hu64 : P_X1_copyFrom f oh lf ce f2 oh2 lf2 ce2 = u64 at hC hq
        refine k_v (ws' := [oBr b tx h ht pa sl fi (upd (upd bf 5 ((bf 5) - 1)) 4 ((bf 4) - 1)), aS G pa 14 pg, oSt h o g u64.1, aI G o 6 u64.2.1, oLed g k u64.2.2.1, aI G k 80 u64.2.2.2, oSt h2 o2 g2 f2, aI G o2 6 oh2, oLed g2 k2 lf2, aI G k2 80 ce2]) (as := [h, o, g, k, h2, o2, g2, k2]) cx hP hD hS [2, 3, 4, 5, 6, 7, 8, 9] rfl (kr_VN (n := 1) (As := [.ref h2]) (ci := 1) cx hC gX3_undo_X1_copyFrom_n181 rfl rfl rfl nn_X3_181 (by decide +kernel) (by decide +kernel) (by decide +kernel) (by decide +kernel) ⟨Nat.le_of_ble_eq_true rfl, Nat.le_of_ble_eq_true rfl⟩ rfl rfl rfl hP hD [2, 3, 4, 5, 6, 7, 8, 9] rfl rfl rfl rfl hl (Nat.le_of_ble_eq_true rfl) dX3_undo_64 ⟨Nat.zero_le _, Nat.zero_le _⟩) ⟨rfl, rfl⟩ rfl (fun H locs hP hD hS => ?_)
        refine lv_aload_n hx hb dX3_undo_67 rfl (lv_at hl 0 rfl) ?_
        refine k_get (v := .int ((bf 4) - 1)) (T := TX3) (C := RX3) (N := 8) cx hi_X3_undo_3 hP 0 rfl rfl 4 (by decide) (by decide +kernel) rfl dX3_undo_68 ?_
        subst hq
        exact k_iretX cx rfl hP hS dX3_undo_71
    · replace hq := (if_neg c_4).symm.trans hq
      subst hq
      exact k_thrS (cls := "java/lang/IllegalStateException") (tx := "no state is remembered") (r := 0) (ws := [oBr b tx h ht pa sl fi bf, aS G pa 14 pg, oSt h o g f, aI G o 6 oh, oLed g k lf, aI G k 80 ce, oSt h2 o2 g2 f2, aI G o2 6 oh2, oLed g2 k2 lf2, aI G k2 80 ce2]) (w0 := w0) cx ct (by decide +kernel) ⟨by decide +kernel, by decide +kernel⟩ (by decide +kernel) (fun w h => List.mem_cons_of_mem _ (List.mem_append_right _ h)) e1_56 e2_52_56 rfl (by rw [hw0]; exact hP) hS hl ⟨Nat.le_of_ble_eq_true rfl, Nat.le_of_ble_eq_true rfl, Nat.le_of_ble_eq_true rfl, Nat.le_of_ble_eq_true rfl⟩ dX3_undo_7 dX3_undo_10 dX3_undo_11 dX3_undo_13 dX3_undo_16
  subst hL
  subst hH
  subst hq
  subst hw0
  exact key _ _ hP hD hS
