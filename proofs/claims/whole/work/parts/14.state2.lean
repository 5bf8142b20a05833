/-! X1_pressBothWays -/
theorem hi_X1_pressBothWays_1 : ∀ w ∈ u_ws RX1 TX1 16, w ∈ wsX1_pressBothWays := by decide +kernel
abbrev rm_X1_pressBothWays : Room := { frames := 3, cells := 0, slots := 0, locals := 68 }
abbrev Q_X1_pressBothWays (G : gG) (h : Nat) (o : Nat) (g : Nat) (k : Nat)  (oh : Nat → Int32) (tgt : Int32 × (Nat → Int32) × (Nat → Int32) × (Nat → Int32)) (below : List Frame) (args : Array Value) (s : State) (A : Nat → Prop) : State → Prop := MQ below (qI G tgt.1 [oSt h o g tgt.2.1, aI G o 6 oh, oLed g k tgt.2.2.1, aI G k 80 tgt.2.2.2] A) args s 0 0 A
def P_X1_pressBothWays (f : Nat → Int32) (oh : Nat → Int32) (lf : Nat → Int32) (ce : Nat → Int32) : Int32 × (Nat → Int32) × (Nat → Int32) × (Nat → Int32) := (let u2 := P_X1_pressKey f oh lf ce 0; (if (u2.2.1 9) = 0 then (let u20 := P_X1_pressKey u2.2.1 oh u2.2.2.1 u2.2.2.2 1; ((u2.1 - u20.1), u20.2.1, u20.2.2.1, u20.2.2.2)) else (u2.1, u2.2.1, u2.2.2.1, u2.2.2.2)))
set_option maxHeartbeats 4000000 in
set_option maxRecDepth 100000 in
theorem c_X1_pressBothWays (l : Launch) (G : gG) (h : Nat) (o : Nat) (g : Nat) (k : Nat) (f : Nat → Int32) (oh : Nat → Int32) (lf : Nat → Int32) (ce : Nat → Int32)  : kM l G yX1_pressBothWays wsX1_pressBothWays rm_X1_pressBothWays [.ref h] [oSt h o g f, aI G o 6 oh, oLed g k lf, aI G k 80 ce] (qI G ((P_X1_pressBothWays f oh lf ce).1) [oSt h o g ((P_X1_pressBothWays f oh lf ce).2.1), aI G o 6 oh, oLed g k ((P_X1_pressBothWays f oh lf ce).2.2.1), aI G k 80 ((P_X1_pressBothWays f oh lf ce).2.2.2)]) := by
  refine k_body (cc := cX1_pressBothWays) (nL := 2) (ret := (some .int)) (by decide) rfl (Nat.le_of_ble_eq_true rfl) ?_
  intro p e s m args below meth c A cx hP hD hS ls hl
  obtain ⟨hx, hb, hml, hown, hts, hr, hlocks, hK, hA⟩ := id cx
  obtain ⟨H, hH⟩ : ∃ H, H = s.heap := ⟨_, rfl⟩
  obtain ⟨locs, hL⟩ : ∃ locs : List Loc, locs = [] := ⟨_, rfl⟩
  obtain ⟨tgt, hq⟩ : ∃ tgt, (P_X1_pressBothWays f oh lf ce) = tgt := ⟨_, rfl⟩
  have hS : va_S A s.heap H locs := by rw [hH, hL]; exact hS
  rw [← hH] at hP
  have hl : lv_has ls 2 [(0, .ref h)] := hl
  have key : ∀ (H : Heap) (locs : List Loc), va_P G.1 vwCl [oSt h o g f, aI G o 6 oh, oLed g k lf, aI G k 80 ce] H → va_D A [oSt h o g f, aI G o 6 oh, oLed g k lf, aI G k 80 ce] → va_S A s.heap H locs → W p l e rm_X1_pressBothWays s m args below meth c H locs 0 0 (Q_X1_pressBothWays G h o g k oh tgt below args s A) (F0 m 0 ls []) := by
    clear hP hD hS hH hL
    intro H locs hP hD hS
    unfold P_X1_pressBothWays at hq
    refine lv_aload_n hx hb dX1_pressBothWays_0 rfl (lv_at hl 0 rfl) ?_
    refine lv_iconst (v := 0) hx hb dX1_pressBothWays_1 (by decide) ?_
    have hC := c_X1_pressKey l G h o g k f oh lf ce 0
    generalize hu2 : P_X1_pressKey f oh lf ce 0 = u2 at hC hq
    refine k_i (ws' := [oSt h o g u2.2.1, aI G o 6 oh, oLed g k u2.2.2.1, aI G k 80 u2.2.2.2]) cx hP hD hS [0, 1, 2, 3] rfl (kr_V (n := 1) (As := [.int 0]) (ci := 1) cx hC gX1_pressBothWays_X1_pressKey rfl rfl rfl (by decide +kernel) ⟨Nat.le_of_ble_eq_true rfl, Nat.le_of_ble_eq_true rfl⟩ rfl rfl rfl hP hD [0, 1, 2, 3] rfl rfl rfl rfl hl (Nat.le_of_ble_eq_true rfl) dX1_pressBothWays_2 ⟨Nat.le_refl _, Nat.le_refl _⟩) rfl rfl (fun H locs hP hD hS => ?_)
    refine lv_istore_n (lv' := [(1, .int u2.1), (0, .ref h)]) hx hb dX1_pressBothWays_5 rfl hl (by decide) rfl (fun ls hl => ?_)
    refine lv_aload_n hx hb dX1_pressBothWays_6 rfl (lv_at hl 1 rfl) ?_
    refine k_get (v := .int (u2.2.1 9)) (T := TX1) (C := RX1) (N := 16) cx hi_X1_pressBothWays_1 hP 0 rfl rfl 9 (by decide) (by decide +kernel) rfl dX1_pressBothWays_7 ?_
    refine lv_if_eq (tgt := 17) hx hb dX1_pressBothWays_10 (by decide) (fun c_10 => ?_) (fun c_10 => ?_)
    · replace hq := (if_pos c_10).symm.trans hq
      refine lv_iload_n hx hb dX1_pressBothWays_17 rfl (lv_at hl 0 rfl) ?_
      refine lv_aload_n hx hb dX1_pressBothWays_18 rfl (lv_at hl 1 rfl) ?_
      refine lv_iconst (v := 1) hx hb dX1_pressBothWays_19 (by decide) ?_
      have hC := c_X1_pressKey l G h o g k u2.2.1 oh u2.2.2.1 u2.2.2.2 1
      generalize hu20 : P_X1_pressKey u2.2.1 oh u2.2.2.1 u2.2.2.2 1 = u20 at hC hq
      refine k_i (ws' := [oSt h o g u20.2.1, aI G o 6 oh, oLed g k u20.2.2.1, aI G k 80 u20.2.2.2]) cx hP hD hS [0, 1, 2, 3] rfl (kr_V (n := 1) (As := [.int 1]) (ci := 1) cx hC gX1_pressBothWays_X1_pressKey rfl rfl rfl (by decide +kernel) ⟨Nat.le_of_ble_eq_true rfl, Nat.le_of_ble_eq_true rfl⟩ rfl rfl rfl hP hD [0, 1, 2, 3] rfl rfl rfl rfl hl (Nat.le_of_ble_eq_true rfl) dX1_pressBothWays_20 ⟨Nat.le_refl _, Nat.le_refl _⟩) rfl rfl (fun H locs hP hD hS => ?_)
      refine lv_isub hx hb dX1_pressBothWays_23 ?_
      subst hq
      exact k_iret cx hP hS dX1_pressBothWays_24
    · replace hq := (if_neg c_10).symm.trans hq
      refine lv_iload_n hx hb dX1_pressBothWays_13 rfl (lv_at hl 0 rfl) ?_
      refine lv_goto (tgt := 24) hx hb dX1_pressBothWays_14 (by decide) ?_
      subst hq
      exact k_iret cx hP hS dX1_pressBothWays_24
  subst hL
  subst hH
  subst hq
  exact key _ _ hP hD hS
