/-! X3_outside -/
abbrev rm_X3_outside : Room := { frames := 0, cells := 0, slots := 0, locals := 0 }
abbrev Q_X3_outside (G : gG)    (tgt : Int32) (below : List Frame) (args : Array Value) (s : State) (A : Nat → Prop) : State → Prop := MQ below (qI G tgt [] A) args s 0 0 A
def P_X3_outside (v : Int32) (lo : Int32) (hi : Int32) : Int32 := (if v < lo then 1 else (if v ≤ hi then 0 else 1))
set_option maxHeartbeats 4000000 in
set_option maxRecDepth 100000 in
theorem c_X3_outside (l : Launch) (G : gG)  (v : Int32) (lo : Int32) (hi : Int32)  : kM l G yX3_outside wsX3_outside rm_X3_outside [.int v, .int lo, .int hi] [] (qI G ((P_X3_outside v lo hi)) []) := by
  refine k_body (cc := cX3_outside) (nL := 3) (ret := (some .boolean)) (by decide) rfl (Nat.le_of_ble_eq_true rfl) ?_
  intro p e s m args below meth c A cx hP hD hS ls hl
  obtain ⟨hx, hb, hml, hown, hts, hr, hlocks, hK, hA⟩ := id cx
  obtain ⟨H, hH⟩ : ∃ H, H = s.heap := ⟨_, rfl⟩
  obtain ⟨locs, hL⟩ : ∃ locs : List Loc, locs = [] := ⟨_, rfl⟩
  obtain ⟨tgt, hq⟩ : ∃ tgt, (P_X3_outside v lo hi) = tgt := ⟨_, rfl⟩
  have hS : va_S A s.heap H locs := by rw [hH, hL]; exact hS
  rw [← hH] at hP
  have hl : lv_has ls 3 [(0, .int v), (1, .int lo), (2, .int hi)] := hl
  have key : ∀ (H : Heap) (locs : List Loc), va_P G.1 vwCl [] H → va_D A [] → va_S A s.heap H locs → W p l e rm_X3_outside s m args below meth c H locs 0 0 (Q_X3_outside G  tgt below args s A) (F0 m 0 ls []) := by
    clear hP hD hS hH hL
    intro H locs hP hD hS
    unfold P_X3_outside at hq
    refine lv_iload_n hx hb dX3_outside_0 rfl (lv_at hl 0 rfl) ?_
    refine lv_iload_n hx hb dX3_outside_1 rfl (lv_at hl 1 rfl) ?_
    refine lv_icmp_lt (tgt := 10) hx hb dX3_outside_2 (by decide) (fun c_2 => ?_) (fun c_2 => ?_)
    · replace hq := (if_pos c_2).symm.trans hq
      refine lv_iconst (v := 1) hx hb dX3_outside_10 (by decide) ?_
      refine lv_goto (tgt := 15) hx hb dX3_outside_11 (by decide) ?_
      subst hq
      exact k_zret (v := 1) (w1 := []) cx (rfl) hP hS dX3_outside_15
    · replace hq := (if_neg c_2).symm.trans hq
      refine lv_iload_n hx hb dX3_outside_5 rfl (lv_at hl 0 rfl) ?_
      refine lv_iload_n hx hb dX3_outside_6 rfl (lv_at hl 2 rfl) ?_
      refine lv_icmp_le (tgt := 14) hx hb dX3_outside_7 (by decide) (fun c_7 => ?_) (fun c_7 => ?_)
      · replace hq := (if_pos c_7).symm.trans hq
        refine lv_iconst (v := 0) hx hb dX3_outside_14 (by decide) ?_
        subst hq
        exact k_zret (v := 0) (w1 := []) cx (rfl) hP hS dX3_outside_15
      · replace hq := (if_neg c_7).symm.trans hq
        refine lv_iconst (v := 1) hx hb dX3_outside_10 (by decide) ?_
        refine lv_goto (tgt := 15) hx hb dX3_outside_11 (by decide) ?_
        subst hq
        exact k_zret (v := 1) (w1 := []) cx (rfl) hP hS dX3_outside_15
  subst hL
  subst hH
  subst hq
  exact key _ _ hP hD hS
theorem zb_X3_outside (v : Int32) (lo : Int32) (hi : Int32) : P_X3_outside v lo hi = 0 ∨ P_X3_outside v lo hi = 1 := by
  unfold P_X3_outside
  repeat' first | with_reducible refine zif ?_ ?_ | with_reducible exact Or.inl rfl | with_reducible exact Or.inr rfl 

/-! X3_power -/
abbrev rm_X3_power : Room := { frames := 0, cells := 0, slots := 0, locals := 0 }
abbrev Q_X3_power (G : gG)    (tgt : Int32) (below : List Frame) (args : Array Value) (s : State) (A : Nat → Prop) : State → Prop := MQ below (qI G tgt [] A) args s 0 0 A
def P_X3_power (i : Int32) : Int32 := (if i = 0 then 1 else if i = 1 then 10 else if i = 2 then 100 else 1000)
set_option maxHeartbeats 4000000 in
set_option maxRecDepth 100000 in
theorem c_X3_power (l : Launch) (G : gG)  (i : Int32)  : kM l G yX3_power wsX3_power rm_X3_power [.int i] [] (qI G ((P_X3_power i)) []) := by
  refine k_body (cc := cX3_power) (nL := 1) (ret := (some .int)) (by decide) rfl (Nat.le_of_ble_eq_true rfl) ?_
  intro p e s m args below meth c A cx hP hD hS ls hl
  obtain ⟨hx, hb, hml, hown, hts, hr, hlocks, hK, hA⟩ := id cx
  obtain ⟨H, hH⟩ : ∃ H, H = s.heap := ⟨_, rfl⟩
  obtain ⟨locs, hL⟩ : ∃ locs : List Loc, locs = [] := ⟨_, rfl⟩
  obtain ⟨tgt, hq⟩ : ∃ tgt, (P_X3_power i) = tgt := ⟨_, rfl⟩
  have hS : va_S A s.heap H locs := by rw [hH, hL]; exact hS
  rw [← hH] at hP
  have hl : lv_has ls 1 [(0, .int i)] := hl
  have key : ∀ (H : Heap) (locs : List Loc), va_P G.1 vwCl [] H → va_D A [] → va_S A s.heap H locs → W p l e rm_X3_power s m args below meth c H locs 0 0 (Q_X3_power G  tgt below args s A) (F0 m 0 ls []) := by
    clear hP hD hS hH hL
    intro H locs hP hD hS
    unfold P_X3_power at hq
    refine lv_iload_n hx hb dX3_power_0 rfl (lv_at hl 0 rfl) ?_
    by_cases c_1_0 : i = 0
    · replace hq := (if_pos c_1_0).symm.trans hq
      refine lv_tableIn (tgt := 28) (off := 27) hx hb dX3_power_1 (sw_lo c_1_0 (by decide)) (sw_hi c_1_0 (by decide)) (sw_at c_1_0 (by decide)) (by decide) ?_
      refine lv_iconst (v := 1) hx hb dX3_power_28 (by decide) ?_
      subst hq
      exact k_iret cx hP hS dX3_power_29
    replace hq := (if_neg c_1_0).symm.trans hq
    by_cases c_1_1 : i = 1
    · replace hq := (if_pos c_1_1).symm.trans hq
      refine lv_tableIn (tgt := 30) (off := 29) hx hb dX3_power_1 (sw_lo c_1_1 (by decide)) (sw_hi c_1_1 (by decide)) (sw_at c_1_1 (by decide)) (by decide) ?_
      refine lv_bipush (v := 10) hx hb dX3_power_30 (by decide) ?_
      subst hq
      exact k_iret cx hP hS dX3_power_32
    replace hq := (if_neg c_1_1).symm.trans hq
    by_cases c_1_2 : i = 2
    · replace hq := (if_pos c_1_2).symm.trans hq
      refine lv_tableIn (tgt := 33) (off := 32) hx hb dX3_power_1 (sw_lo c_1_2 (by decide)) (sw_hi c_1_2 (by decide)) (sw_at c_1_2 (by decide)) (by decide) ?_
      refine lv_bipush (v := 100) hx hb dX3_power_33 (by decide) ?_
      subst hq
      exact k_iret cx hP hS dX3_power_35
    replace hq := (if_neg c_1_2).symm.trans hq
    have e0 := lv_neT (a := 0) c_1_0 (by decide)
    have e1 := lv_neT (a := 1) c_1_1 (by decide)
    have e2 := lv_neT (a := 2) c_1_2 (by decide)
    refine lv_tableOut (tgt := 36) hx hb dX3_power_1 (by omega) (by decide) ?_
    refine lv_sipush (v := 1000) hx hb dX3_power_36 (by decide) ?_
    subst hq
    exact k_iret cx hP hS dX3_power_39
  subst hL
  subst hH
  subst hq
  exact key _ _ hP hD hS

/-! X3_quotient -/
abbrev rm_X3_quotient : Room := { frames := 0, cells := 0, slots := 0, locals := 0 }
abbrev Q_X3_quotient (G : gG)    (tgt : Int32) (below : List Frame) (args : Array Value) (s : State) (A : Nat → Prop) : State → Prop := MQ below (qI G tgt [] A) args s 0 0 A
def P_X3_quotient (a : Int32) (b : Int32) : Int32 := (if b = 0 then 0 else (a / b))
set_option maxHeartbeats 4000000 in
set_option maxRecDepth 100000 in
theorem c_X3_quotient (l : Launch) (G : gG)  (a : Int32) (b : Int32)  : kM l G yX3_quotient wsX3_quotient rm_X3_quotient [.int a, .int b] [] (qI G ((P_X3_quotient a b)) []) := by
  refine k_body (cc := cX3_quotient) (nL := 2) (ret := (some .int)) (by decide) rfl (Nat.le_of_ble_eq_true rfl) ?_
  intro p e s m args below meth c A cx hP hD hS ls hl
  obtain ⟨hx, hb, hml, hown, hts, hr, hlocks, hK, hA⟩ := id cx
  obtain ⟨H, hH⟩ : ∃ H, H = s.heap := ⟨_, rfl⟩
  obtain ⟨locs, hL⟩ : ∃ locs : List Loc, locs = [] := ⟨_, rfl⟩
  obtain ⟨tgt, hq⟩ : ∃ tgt, (P_X3_quotient a b) = tgt := ⟨_, rfl⟩
  have hS : va_S A s.heap H locs := by rw [hH, hL]; exact hS
  rw [← hH] at hP
  have hl : lv_has ls 2 [(0, .int a), (1, .int b)] := hl
  have key : ∀ (H : Heap) (locs : List Loc), va_P G.1 vwCl [] H → va_D A [] → va_S A s.heap H locs → W p l e rm_X3_quotient s m args below meth c H locs 0 0 (Q_X3_quotient G  tgt below args s A) (F0 m 0 ls []) := by
    clear hP hD hS hH hL
    intro H locs hP hD hS
    unfold P_X3_quotient at hq
    refine lv_iload_n hx hb dX3_quotient_0 rfl (lv_at hl 1 rfl) ?_
    refine lv_if_ne (tgt := 8) hx hb dX3_quotient_1 (by decide) (fun c_1 => ?_) (fun c_1 => ?_)
    · replace hq := (if_neg c_1).symm.trans hq
      refine lv_iload_n hx hb dX3_quotient_8 rfl (lv_at hl 0 rfl) ?_
      refine lv_iload_n hx hb dX3_quotient_9 rfl (lv_at hl 1 rfl) ?_
      refine lv_idiv hx hb dX3_quotient_10 (c_1) ?_
      subst hq
      exact k_iret cx hP hS dX3_quotient_11
    · replace hq := (if_pos c_1).symm.trans hq
      refine lv_iconst (v := 0) hx hb dX3_quotient_4 (by decide) ?_
      refine lv_goto (tgt := 11) hx hb dX3_quotient_5 (by decide) ?_
      subst hq
      exact k_iret cx hP hS dX3_quotient_11
  subst hL
  subst hH
  subst hq
  exact key _ _ hP hD hS

/-! X0_wipe -/
theorem hi_X0_wipe_0 : ∀ w ∈ u_ws RX0 TX0 3, w ∈ wsX0_wipe := by decide +kernel
abbrev rm_X0_wipe : Room := { frames := 0, cells := 0, slots := 0, locals := 0 }
abbrev Q_X0_wipe (G : gG) (g : Nat) (k : Nat)   (tgt : (Nat → Int32)) (below : List Frame) (args : Array Value) (s : State) (A : Nat → Prop) : State → Prop := MQ below (qV G [oLed g k tgt] A) args s 0 0 A
def P_X0_wipe (lf : Nat → Int32) : (Nat → Int32) := (upd (upd lf 1 0) 2 0)
set_option maxHeartbeats 4000000 in
set_option maxRecDepth 100000 in
theorem c_X0_wipe (l : Launch) (G : gG) (g : Nat) (k : Nat) (lf : Nat → Int32)  : kM l G yX0_wipe wsX0_wipe rm_X0_wipe [.ref g] [oLed g k lf] (qV G [oLed g k (P_X0_wipe lf)]) := by
  refine k_body (cc := cX0_wipe) (nL := 1) (ret := none) (by decide) rfl (Nat.le_of_ble_eq_true rfl) ?_
  intro p e s m args below meth c A cx hP hD hS ls hl
  obtain ⟨hx, hb, hml, hown, hts, hr, hlocks, hK, hA⟩ := id cx
  obtain ⟨H, hH⟩ : ∃ H, H = s.heap := ⟨_, rfl⟩
  obtain ⟨locs, hL⟩ : ∃ locs : List Loc, locs = [] := ⟨_, rfl⟩
  obtain ⟨tgt, hq⟩ : ∃ tgt, (P_X0_wipe lf) = tgt := ⟨_, rfl⟩
  have hS : va_S A s.heap H locs := by rw [hH, hL]; exact hS
  rw [← hH] at hP
  have hl : lv_has ls 1 [(0, .ref g)] := hl
  have key : ∀ (H : Heap) (locs : List Loc), va_P G.1 vwCl [oLed g k lf] H → va_D A [oLed g k lf] → va_S A s.heap H locs → W p l e rm_X0_wipe s m args below meth c H locs 0 0 (Q_X0_wipe G g k tgt below args s A) (F0 m 0 ls []) := by
    clear hP hD hS hH hL
    intro H locs hP hD hS
    unfold P_X0_wipe at hq
    refine lv_aload_n hx hb dX0_wipe_0 rfl (lv_at hl 0 rfl) ?_
    refine lv_iconst (v := 0) hx hb dX0_wipe_1 (by decide) ?_
    refine k_put (ws' := [oLed g k (upd lf 1 0)]) (ty := .int) (T := TX0) (C := RX0) (N := 3) cx hi_X0_wipe_0 tyX0_ok nmX0 hP hD hS 0 rfl rfl 1 (by decide) (by decide +kernel) rfl rfl rfl rfl (Nat.le_of_ble_eq_true rfl) rfl dX0_wipe_2 (fun H locs hP hD hS => ?_)
    refine lv_aload_n hx hb dX0_wipe_5 rfl (lv_at hl 0 rfl) ?_
    refine lv_iconst (v := 0) hx hb dX0_wipe_6 (by decide) ?_
    refine k_put (ws' := [oLed g k (upd (upd lf 1 0) 2 0)]) (ty := .int) (T := TX0) (C := RX0) (N := 3) cx hi_X0_wipe_0 tyX0_ok nmX0 hP hD hS 0 rfl rfl 2 (by decide) (by decide +kernel) rfl rfl rfl rfl (Nat.le_of_ble_eq_true rfl) rfl dX0_wipe_7 (fun H locs hP hD hS => ?_)
    subst hq
    exact k_vret cx hP hS dX0_wipe_10
  subst hL
  subst hH
  subst hq
  exact key _ _ hP hD hS

/-! X0_cell -/
theorem hi_X0_cell_0 : ∀ w ∈ u_ws RX0 TX0 3, w ∈ wsX0_cell := by decide +kernel
abbrev rm_X0_cell : Room := { frames := 0, cells := 0, slots := 0, locals := 0 }
abbrev Q_X0_cell (G : gG) (g : Nat) (k : Nat)  (lf : Nat → Int32) (ce : Nat → Int32) (tgt : Int32) (below : List Frame) (args : Array Value) (s : State) (A : Nat → Prop) : State → Prop := MQ below (qI G tgt [oLed g k lf, aI G k 80 ce] A) args s 0 0 A
def P_X0_cell (lf : Nat → Int32) (ce : Nat → Int32) (j : Int32) (what : Int32) : Int32 := (if j < 0 then (-9999) else (if j < (lf 1) then (if (((((((lf 2) + 20) - 1) - j) - ((((lf 2) + 20) - 1) - j) / 20 * 20) * 4) + what) < 0 then (-9999) else (if 80 ≤ (((((((lf 2) + 20) - 1) - j) - ((((lf 2) + 20) - 1) - j) / 20 * 20) * 4) + what) then (-9999) else (ce (((((((lf 2) + 20) - 1) - j) - ((((lf 2) + 20) - 1) - j) / 20 * 20) * 4) + what).toNatClampNeg))) else (-9999)))
set_option maxHeartbeats 4000000 in
set_option maxRecDepth 100000 in
theorem c_X0_cell (l : Launch) (G : gG) (g : Nat) (k : Nat) (lf : Nat → Int32) (ce : Nat → Int32) (j : Int32) (what : Int32)  : kM l G yX0_cell wsX0_cell rm_X0_cell [.ref g, .int j, .int what] [oLed g k lf, aI G k 80 ce] (qI G ((P_X0_cell lf ce j what)) [oLed g k lf, aI G k 80 ce]) := by
  refine k_body (cc := cX0_cell) (nL := 5) (ret := (some .int)) (by decide) rfl (Nat.le_of_ble_eq_true rfl) ?_
  intro p e s m args below meth c A cx hP hD hS ls hl
  obtain ⟨hx, hb, hml, hown, hts, hr, hlocks, hK, hA⟩ := id cx
  obtain ⟨H, hH⟩ : ∃ H, H = s.heap := ⟨_, rfl⟩
  obtain ⟨locs, hL⟩ : ∃ locs : List Loc, locs = [] := ⟨_, rfl⟩
  obtain ⟨tgt, hq⟩ : ∃ tgt, (P_X0_cell lf ce j what) = tgt := ⟨_, rfl⟩
  have hS : va_S A s.heap H locs := by rw [hH, hL]; exact hS
  rw [← hH] at hP
  have hl : lv_has ls 5 [(0, .ref g), (1, .int j), (2, .int what)] := hl
  have key : ∀ (H : Heap) (locs : List Loc), va_P G.1 vwCl [oLed g k lf, aI G k 80 ce] H → va_D A [oLed g k lf, aI G k 80 ce] → va_S A s.heap H locs → W p l e rm_X0_cell s m args below meth c H locs 0 0 (Q_X0_cell G g k lf ce tgt below args s A) (F0 m 0 ls []) := by
    clear hP hD hS hH hL
    intro H locs hP hD hS
    unfold P_X0_cell at hq
    refine lv_iload_n hx hb dX0_cell_0 rfl (lv_at hl 1 rfl) ?_
    refine lv_if_lt (tgt := 12) hx hb dX0_cell_1 (by decide) (fun c_1 => ?_) (fun c_1 => ?_)
    · replace hq := (if_pos c_1).symm.trans hq
      refine lv_sipush (v := (-9999)) hx hb dX0_cell_12 (by decide) ?_
      subst hq
      exact k_iret cx hP hS dX0_cell_15
    · replace hq := (if_neg c_1).symm.trans hq
      refine lv_iload_n hx hb dX0_cell_4 rfl (lv_at hl 1 rfl) ?_
      refine lv_aload_n hx hb dX0_cell_5 rfl (lv_at hl 0 rfl) ?_
      refine k_get (v := .int (lf 1)) (T := TX0) (C := RX0) (N := 3) cx hi_X0_cell_0 hP 0 rfl rfl 1 (by decide) (by decide +kernel) rfl dX0_cell_6 ?_
      refine lv_icmp_lt (tgt := 16) hx hb dX0_cell_9 (by decide) (fun c_9 => ?_) (fun c_9 => ?_)
      · replace hq := (if_pos c_9).symm.trans hq
        refine lv_aload_n hx hb dX0_cell_16 rfl (lv_at hl 0 rfl) ?_
        refine k_get (v := .int (lf 2)) (T := TX0) (C := RX0) (N := 3) cx hi_X0_cell_0 hP 0 rfl rfl 2 (by decide) (by decide +kernel) rfl dX0_cell_17 ?_
        refine lv_bipush (v := 20) hx hb dX0_cell_20 (by decide) ?_
        refine lv_iadd hx hb dX0_cell_22 ?_
        refine lv_iconst (v := 1) hx hb dX0_cell_23 (by decide) ?_
        refine lv_isub hx hb dX0_cell_24 ?_
        refine lv_iload_n hx hb dX0_cell_25 rfl (lv_at hl 1 rfl) ?_
        refine lv_isub hx hb dX0_cell_26 ?_
        refine lv_bipush (v := 20) hx hb dX0_cell_27 (by decide) ?_
        refine lv_irem hx hb dX0_cell_29 (by decide) ?_
        refine lv_istore_n (lv' := [(3, .int (((((lf 2) + 20) - 1) - j) - ((((lf 2) + 20) - 1) - j) / 20 * 20)), (0, .ref g), (1, .int j), (2, .int what)]) hx hb dX0_cell_30 rfl hl (by decide) rfl (fun ls hl => ?_)
        refine lv_iload_n hx hb dX0_cell_31 rfl (lv_at hl 0 rfl) ?_
        refine lv_iconst (v := 4) hx hb dX0_cell_32 (by decide) ?_
        refine lv_imul hx hb dX0_cell_33 ?_
        refine lv_iload_n hx hb dX0_cell_34 rfl (lv_at hl 3 rfl) ?_
        refine lv_iadd hx hb dX0_cell_35 ?_
        refine lv_istore (lv' := [(4, .int (((((((lf 2) + 20) - 1) - j) - ((((lf 2) + 20) - 1) - j) / 20 * 20) * 4) + what)), (3, .int (((((lf 2) + 20) - 1) - j) - ((((lf 2) + 20) - 1) - j) / 20 * 20)), (0, .ref g), (1, .int j), (2, .int what)]) hx hb dX0_cell_36 hl (by decide) rfl (fun ls hl => ?_)
        refine lv_iload hx hb dX0_cell_38 (lv_at hl 0 rfl) ?_
        refine lv_if_lt (tgt := 63) hx hb dX0_cell_40 (by decide) (fun c_40 => ?_) (fun c_40 => ?_)
        · replace hq := (if_pos c_40).symm.trans hq
          refine lv_sipush (v := (-9999)) hx hb dX0_cell_63 (by decide) ?_
          subst hq
          exact k_iret cx hP hS dX0_cell_66
        · replace hq := (if_neg c_40).symm.trans hq
          refine lv_iload hx hb dX0_cell_43 (lv_at hl 0 rfl) ?_
          refine lv_aload_n hx hb dX0_cell_45 rfl (lv_at hl 2 rfl) ?_
          refine k_get (v := .ref k) (T := TX0) (C := RX0) (N := 3) cx hi_X0_cell_0 hP 0 rfl rfl 0 (by decide) (by decide +kernel) rfl dX0_cell_46 ?_
          refine k_alenI (v := 80) (t0 := 0) cx hP 1 rfl rfl rfl dX0_cell_49 ?_
          refine lv_icmp_ge (tgt := 63) hx hb dX0_cell_50 (by decide) (fun c_50 => ?_) (fun c_50 => ?_)
          · replace hq := (if_pos c_50).symm.trans hq
            refine lv_sipush (v := (-9999)) hx hb dX0_cell_63 (by decide) ?_
            subst hq
            exact k_iret cx hP hS dX0_cell_66
          · replace hq := (if_neg c_50).symm.trans hq
            refine lv_aload_n hx hb dX0_cell_53 rfl (lv_at hl 2 rfl) ?_
            refine k_get (v := .ref k) (T := TX0) (C := RX0) (N := 3) cx hi_X0_cell_0 hP 0 rfl rfl 0 (by decide) (by decide +kernel) rfl dX0_cell_54 ?_
            refine lv_iload hx hb dX0_cell_57 (lv_at hl 0 rfl) ?_
            refine k_iald (j := (((((((lf 2) + 20) - 1) - j) - ((((lf 2) + 20) - 1) - j) / 20 * 20) * 4) + what).toNatClampNeg) cx hP 1 rfl rfl (ix_le c_40 c_50 (by decide)) dX0_cell_59 ?_
            refine lv_goto (tgt := 66) hx hb dX0_cell_60 (by decide) ?_
            subst hq
            exact k_iret cx hP hS dX0_cell_66
      · replace hq := (if_neg c_9).symm.trans hq
        refine lv_sipush (v := (-9999)) hx hb dX0_cell_12 (by decide) ?_
        subst hq
        exact k_iret cx hP hS dX0_cell_15
  subst hL
  subst hH
  subst hq
  exact key _ _ hP hD hS

/-! X0_write -/
theorem hi_X0_write_0 : ∀ w ∈ u_ws RX0 TX0 3, w ∈ wsX0_write := by decide +kernel
abbrev rm_X0_write : Room := { frames := 1, cells := 0, slots := 0, locals := 14 }
abbrev Q_X0_write (G : gG) (g : Nat) (k : Nat)   (tgt : (Nat → Int32) × (Nat → Int32)) (below : List Frame) (args : Array Value) (s : State) (A : Nat → Prop) : State → Prop := MQ below (qV G [oLed g k tgt.1, aI G k 80 tgt.2] A) args s 0 0 A
def P_X0_write (lf : Nat → Int32) (ce : Nat → Int32) (rd : Int32) (wy : Int32) (r : Int32) (ck : Int32) : (Nat → Int32) × (Nat → Int32) := (let j64 := fun (j64_w1 : Nat → Int32) => (let j84 := fun (j84_s0 : Int32) => ((upd (upd lf 2 j84_s0) 1 (jmin 20 ((lf 1) + 1))), j64_w1); (if 19 ≤ (lf 2) then (j84 0) else (j84 ((lf 2) + 1)))); (if ((lf 2) * 4) < 0 then (j64 ce) else (if 80 ≤ (((lf 2) * 4) + 3) then (j64 ce) else (j64 (upd (upd (upd (upd ce ((lf 2) * 4).toNatClampNeg rd) (((lf 2) * 4) + 1).toNatClampNeg wy) (((lf 2) * 4) + 2).toNatClampNeg r) (((lf 2) * 4) + 3).toNatClampNeg ck)))))
set_option maxHeartbeats 4000000 in
set_option maxRecDepth 100000 in
theorem c_X0_write (l : Launch) (G : gG) (g : Nat) (k : Nat) (lf : Nat → Int32) (ce : Nat → Int32) (rd : Int32) (wy : Int32) (r : Int32) (ck : Int32)  : kM l G yX0_write wsX0_write rm_X0_write [.ref g, .int rd, .int wy, .int r, .int ck] [oLed g k lf, aI G k 80 ce] (qV G [oLed g k ((P_X0_write lf ce rd wy r ck).1), aI G k 80 ((P_X0_write lf ce rd wy r ck).2)]) := by
  refine k_body (cc := cX0_write) (nL := 6) (ret := none) (by decide) rfl (Nat.le_of_ble_eq_true rfl) ?_
  intro p e s m args below meth c A cx hP hD hS ls hl
  obtain ⟨hx, hb, hml, hown, hts, hr, hlocks, hK, hA⟩ := id cx
  obtain ⟨H, hH⟩ : ∃ H, H = s.heap := ⟨_, rfl⟩
  obtain ⟨locs, hL⟩ : ∃ locs : List Loc, locs = [] := ⟨_, rfl⟩
  obtain ⟨tgt, hq⟩ : ∃ tgt, (P_X0_write lf ce rd wy r ck) = tgt := ⟨_, rfl⟩
  have hS : va_S A s.heap H locs := by rw [hH, hL]; exact hS
  rw [← hH] at hP
  have hl : lv_has ls 6 [(0, .ref g), (1, .int rd), (2, .int wy), (3, .int r), (4, .int ck)] := hl
  have key : ∀ (H : Heap) (locs : List Loc), va_P G.1 vwCl [oLed g k lf, aI G k 80 ce] H → va_D A [oLed g k lf, aI G k 80 ce] → va_S A s.heap H locs → W p l e rm_X0_write s m args below meth c H locs 0 0 (Q_X0_write G g k tgt below args s A) (F0 m 0 ls []) := by
    clear hP hD hS hH hL
    intro H locs hP hD hS
    unfold P_X0_write at hq
    refine lv_aload_n hx hb dX0_write_0 rfl (lv_at hl 0 rfl) ?_
    refine k_get (v := .int (lf 2)) (T := TX0) (C := RX0) (N := 3) cx hi_X0_write_0 hP 0 rfl rfl 2 (by decide) (by decide +kernel) rfl dX0_write_1 ?_
    refine lv_iconst (v := 4) hx hb dX0_write_4 (by decide) ?_
    refine lv_imul hx hb dX0_write_5 ?_
    refine lv_istore (lv' := [(5, .int ((lf 2) * 4)), (0, .ref g), (1, .int rd), (2, .int wy), (3, .int r), (4, .int ck)]) hx hb dX0_write_6 hl (by decide) rfl (fun ls hl => ?_)
    refine lv_iload hx hb dX0_write_8 (lv_at hl 0 rfl) ?_
    have J64 : ∀ (j64_w1 : Nat → Int32), (let j84 := fun (j84_s0 : Int32) => ((upd (upd lf 2 j84_s0) 1 (jmin 20 ((lf 1) + 1))), j64_w1); (if 19 ≤ (lf 2) then (j84 0) else (j84 ((lf 2) + 1)))) = tgt → ∀ (H : Heap) (locs : List Loc) (ls : Array Slot), va_P G.1 vwCl [oLed g k lf, aI G k 80 j64_w1] H → va_D A [oLed g k lf, aI G k 80 j64_w1] → va_S A s.heap H locs → lv_has ls 6 [(0, .ref g)] → W p l e rm_X0_write s m args below meth c H locs 0 0 (Q_X0_write G g k tgt below args s A) (F0 m 64 ls []) := by
      intro j64_w1 hq H locs ls hP hD hS hl
      refine lv_aload_n hx hb dX0_write_64 rfl (lv_at hl 0 rfl) ?_
      refine lv_aload_n hx hb dX0_write_65 rfl (lv_at hl 0 rfl) ?_
      refine k_get (v := .int (lf 2)) (T := TX0) (C := RX0) (N := 3) cx hi_X0_write_0 hP 0 rfl rfl 2 (by decide) (by decide +kernel) rfl dX0_write_66 ?_
      refine lv_bipush (v := 19) hx hb dX0_write_69 (by decide) ?_
      have J84 : ∀ (j84_s0 : Int32), ((upd (upd lf 2 j84_s0) 1 (jmin 20 ((lf 1) + 1))), j64_w1) = tgt → ∀ (H : Heap) (locs : List Loc) (ls : Array Slot), va_P G.1 vwCl [oLed g k lf, aI G k 80 j64_w1] H → va_D A [oLed g k lf, aI G k 80 j64_w1] → va_S A s.heap H locs → lv_has ls 6 [(0, .ref g)] → W p l e rm_X0_write s m args below meth c H locs 0 0 (Q_X0_write G g k tgt below args s A) (F0 m 84 ls [.int j84_s0, .ref g]) := by
        intro j84_s0 hq H locs ls hP hD hS hl
        refine k_put (ws' := [oLed g k (upd lf 2 j84_s0), aI G k 80 j64_w1]) (ty := .int) (T := TX0) (C := RX0) (N := 3) cx hi_X0_write_0 tyX0_ok nmX0 hP hD hS 0 rfl rfl 2 (by decide) (by decide +kernel) rfl rfl rfl rfl (Nat.le_of_ble_eq_true rfl) rfl dX0_write_84 (fun H locs hP hD hS => ?_)
        refine lv_aload_n hx hb dX0_write_87 rfl (lv_at hl 0 rfl) ?_
        refine lv_bipush (v := 20) hx hb dX0_write_88 (by decide) ?_
        refine lv_aload_n hx hb dX0_write_90 rfl (lv_at hl 0 rfl) ?_
        refine k_get (v := .int (lf 1)) (T := TX0) (C := RX0) (N := 3) cx hi_X0_write_0 hP 0 rfl rfl 1 (by decide) (by decide +kernel) rfl dX0_write_91 ?_
        refine lv_iconst (v := 1) hx hb dX0_write_94 (by decide) ?_
        refine lv_iadd hx hb dX0_write_95 ?_
        refine k_min cx hl (by decide +kernel) (by decide +kernel) (by decide +kernel) (by decide +kernel) ⟨Nat.le_of_ble_eq_true rfl, Nat.le_of_ble_eq_true rfl, Nat.zero_le _, Nat.zero_le _⟩ dX0_write_96 ?_
        refine k_put (ws' := [oLed g k (upd (upd lf 2 j84_s0) 1 (jmin 20 ((lf 1) + 1))), aI G k 80 j64_w1]) (ty := .int) (T := TX0) (C := RX0) (N := 3) cx hi_X0_write_0 tyX0_ok nmX0 hP hD hS 0 rfl rfl 1 (by decide) (by decide +kernel) rfl rfl rfl rfl (Nat.le_of_ble_eq_true rfl) rfl dX0_write_99 (fun H locs hP hD hS => ?_)
        subst hq
        exact k_vret cx hP hS dX0_write_102
      refine lv_icmp_ge (tgt := 83) hx hb dX0_write_71 (by decide) (fun c_71 => ?_) (fun c_71 => ?_)
      · replace hq := (if_pos c_71).symm.trans hq
        refine lv_iconst (v := 0) hx hb dX0_write_83 (by decide) ?_
        exact J84 0 hq H locs ls hP hD hS (lv_sub hl [0] rfl)
      · replace hq := (if_neg c_71).symm.trans hq
        refine lv_aload_n hx hb dX0_write_74 rfl (lv_at hl 0 rfl) ?_
        refine k_get (v := .int (lf 2)) (T := TX0) (C := RX0) (N := 3) cx hi_X0_write_0 hP 0 rfl rfl 2 (by decide) (by decide +kernel) rfl dX0_write_75 ?_
        refine lv_iconst (v := 1) hx hb dX0_write_78 (by decide) ?_
        refine lv_iadd hx hb dX0_write_79 ?_
        refine lv_goto (tgt := 84) hx hb dX0_write_80 (by decide) ?_
        exact J84 ((lf 2) + 1) hq H locs ls hP hD hS (lv_sub hl [0] rfl)
    refine lv_if_lt (tgt := 64) hx hb dX0_write_10 (by decide) (fun c_10 => ?_) (fun c_10 => ?_)
    · replace hq := (if_pos c_10).symm.trans hq
      exact J64 ce hq H locs ls hP hD hS (lv_sub hl [1] rfl)
    · replace hq := (if_neg c_10).symm.trans hq
      refine lv_iload hx hb dX0_write_13 (lv_at hl 0 rfl) ?_
      refine lv_iconst (v := 3) hx hb dX0_write_15 (by decide) ?_
      refine lv_iadd hx hb dX0_write_16 ?_
      refine lv_aload_n hx hb dX0_write_17 rfl (lv_at hl 1 rfl) ?_
      refine k_get (v := .ref k) (T := TX0) (C := RX0) (N := 3) cx hi_X0_write_0 hP 0 rfl rfl 0 (by decide) (by decide +kernel) rfl dX0_write_18 ?_
      refine k_alenI (v := 80) (t0 := 0) cx hP 1 rfl rfl rfl dX0_write_21 ?_
      refine lv_icmp_ge (tgt := 64) hx hb dX0_write_22 (by decide) (fun c_22 => ?_) (fun c_22 => ?_)
      · replace hq := (if_pos c_22).symm.trans hq
        exact J64 ce hq H locs ls hP hD hS (lv_sub hl [1] rfl)
      · replace hq := (if_neg c_22).symm.trans hq
        refine lv_aload_n hx hb dX0_write_25 rfl (lv_at hl 1 rfl) ?_
        refine k_get (v := .ref k) (T := TX0) (C := RX0) (N := 3) cx hi_X0_write_0 hP 0 rfl rfl 0 (by decide) (by decide +kernel) rfl dX0_write_26 ?_
        refine lv_iload hx hb dX0_write_29 (lv_at hl 0 rfl) ?_
        refine lv_iload_n hx hb dX0_write_31 rfl (lv_at hl 2 rfl) ?_
        refine k_iast (ws' := [oLed g k lf, aI G k 80 (upd ce ((lf 2) * 4).toNatClampNeg rd)]) (j := ((lf 2) * 4).toNatClampNeg) cx hP hD hS 1 rfl rfl (ix_w0 c_10 c_22) rfl dX0_write_32 (fun H locs hP hD hS => ?_)
        refine lv_aload_n hx hb dX0_write_33 rfl (lv_at hl 1 rfl) ?_
        refine k_get (v := .ref k) (T := TX0) (C := RX0) (N := 3) cx hi_X0_write_0 hP 0 rfl rfl 0 (by decide) (by decide +kernel) rfl dX0_write_34 ?_
        refine lv_iload hx hb dX0_write_37 (lv_at hl 0 rfl) ?_
        refine lv_iconst (v := 1) hx hb dX0_write_39 (by decide) ?_
        refine lv_iadd hx hb dX0_write_40 ?_
        refine lv_iload_n hx hb dX0_write_41 rfl (lv_at hl 3 rfl) ?_
        refine k_iast (ws' := [oLed g k lf, aI G k 80 (upd (upd ce ((lf 2) * 4).toNatClampNeg rd) (((lf 2) * 4) + 1).toNatClampNeg wy)]) (j := (((lf 2) * 4) + 1).toNatClampNeg) cx hP hD hS 1 rfl rfl (ix_w1 c_10 c_22) rfl dX0_write_42 (fun H locs hP hD hS => ?_)
        refine lv_aload_n hx hb dX0_write_43 rfl (lv_at hl 1 rfl) ?_
        refine k_get (v := .ref k) (T := TX0) (C := RX0) (N := 3) cx hi_X0_write_0 hP 0 rfl rfl 0 (by decide) (by decide +kernel) rfl dX0_write_44 ?_
        refine lv_iload hx hb dX0_write_47 (lv_at hl 0 rfl) ?_
        refine lv_iconst (v := 2) hx hb dX0_write_49 (by decide) ?_
        refine lv_iadd hx hb dX0_write_50 ?_
        refine lv_iload_n hx hb dX0_write_51 rfl (lv_at hl 4 rfl) ?_
        refine k_iast (ws' := [oLed g k lf, aI G k 80 (upd (upd (upd ce ((lf 2) * 4).toNatClampNeg rd) (((lf 2) * 4) + 1).toNatClampNeg wy) (((lf 2) * 4) + 2).toNatClampNeg r)]) (j := (((lf 2) * 4) + 2).toNatClampNeg) cx hP hD hS 1 rfl rfl (ix_w2 c_10 c_22) rfl dX0_write_52 (fun H locs hP hD hS => ?_)
        refine lv_aload_n hx hb dX0_write_53 rfl (lv_at hl 1 rfl) ?_
        refine k_get (v := .ref k) (T := TX0) (C := RX0) (N := 3) cx hi_X0_write_0 hP 0 rfl rfl 0 (by decide) (by decide +kernel) rfl dX0_write_54 ?_
        refine lv_iload hx hb dX0_write_57 (lv_at hl 0 rfl) ?_
        refine lv_iconst (v := 3) hx hb dX0_write_59 (by decide) ?_
        refine lv_iadd hx hb dX0_write_60 ?_
        refine lv_iload hx hb dX0_write_61 (lv_at hl 5 rfl) ?_
        refine k_iast (ws' := [oLed g k lf, aI G k 80 (upd (upd (upd (upd ce ((lf 2) * 4).toNatClampNeg rd) (((lf 2) * 4) + 1).toNatClampNeg wy) (((lf 2) * 4) + 2).toNatClampNeg r) (((lf 2) * 4) + 3).toNatClampNeg ck)]) (j := (((lf 2) * 4) + 3).toNatClampNeg) cx hP hD hS 1 rfl rfl (ix_w3 c_10 c_22) rfl dX0_write_63 (fun H locs hP hD hS => ?_)
        exact J64 (upd (upd (upd (upd ce ((lf 2) * 4).toNatClampNeg rd) (((lf 2) * 4) + 1).toNatClampNeg wy) (((lf 2) * 4) + 2).toNatClampNeg r) (((lf 2) * 4) + 3).toNatClampNeg ck) hq H locs ls hP hD hS (lv_sub hl [1] rfl)
  subst hL
  subst hH
  subst hq
  exact key _ _ hP hD hS

/-! X1_ohmsOf -/
theorem hi_X1_ohmsOf_1 : ∀ w ∈ u_ws RX1 TX1 16, w ∈ wsX1_ohmsOf := by decide +kernel
abbrev rm_X1_ohmsOf : Room := { frames := 0, cells := 0, slots := 0, locals := 0 }
abbrev Q_X1_ohmsOf (G : gG) (h : Nat) (o : Nat) (g : Nat)  (f : Nat → Int32) (oh : Nat → Int32) (tgt : Int32) (below : List Frame) (args : Array Value) (s : State) (A : Nat → Prop) : State → Prop := MQ below (qI G tgt [oSt h o g f, aI G o 6 oh] A) args s 0 0 A
def P_X1_ohmsOf (f : Nat → Int32) (oh : Nat → Int32) (i : Int32) : Int32 := (if i < 0 then 0 else (if 6 ≤ i then 0 else (oh i.toNatClampNeg)))
set_option maxHeartbeats 4000000 in
set_option maxRecDepth 100000 in
theorem c_X1_ohmsOf (l : Launch) (G : gG) (h : Nat) (o : Nat) (g : Nat) (f : Nat → Int32) (oh : Nat → Int32) (i : Int32)  : kM l G yX1_ohmsOf wsX1_ohmsOf rm_X1_ohmsOf [.ref h, .int i] [oSt h o g f, aI G o 6 oh] (qI G ((P_X1_ohmsOf f oh i)) [oSt h o g f, aI G o 6 oh]) := by
  refine k_body (cc := cX1_ohmsOf) (nL := 2) (ret := (some .int)) (by decide) rfl (Nat.le_of_ble_eq_true rfl) ?_
  intro p e s m args below meth c A cx hP hD hS ls hl
  obtain ⟨hx, hb, hml, hown, hts, hr, hlocks, hK, hA⟩ := id cx
  obtain ⟨H, hH⟩ : ∃ H, H = s.heap := ⟨_, rfl⟩
  obtain ⟨locs, hL⟩ : ∃ locs : List Loc, locs = [] := ⟨_, rfl⟩
  obtain ⟨tgt, hq⟩ : ∃ tgt, (P_X1_ohmsOf f oh i) = tgt := ⟨_, rfl⟩
  have hS : va_S A s.heap H locs := by rw [hH, hL]; exact hS
  rw [← hH] at hP
  have hl : lv_has ls 2 [(0, .ref h), (1, .int i)] := hl
  have key : ∀ (H : Heap) (locs : List Loc), va_P G.1 vwCl [oSt h o g f, aI G o 6 oh] H → va_D A [oSt h o g f, aI G o 6 oh] → va_S A s.heap H locs → W p l e rm_X1_ohmsOf s m args below meth c H locs 0 0 (Q_X1_ohmsOf G h o g f oh tgt below args s A) (F0 m 0 ls []) := by
    clear hP hD hS hH hL
    intro H locs hP hD hS
    unfold P_X1_ohmsOf at hq
    refine lv_iload_n hx hb dX1_ohmsOf_0 rfl (lv_at hl 1 rfl) ?_
    refine lv_if_lt (tgt := 22) hx hb dX1_ohmsOf_1 (by decide) (fun c_1 => ?_) (fun c_1 => ?_)
    · replace hq := (if_pos c_1).symm.trans hq
      refine lv_iconst (v := 0) hx hb dX1_ohmsOf_22 (by decide) ?_
      subst hq
      exact k_iret cx hP hS dX1_ohmsOf_23
    · replace hq := (if_neg c_1).symm.trans hq
      refine lv_iload_n hx hb dX1_ohmsOf_4 rfl (lv_at hl 1 rfl) ?_
      refine lv_aload_n hx hb dX1_ohmsOf_5 rfl (lv_at hl 0 rfl) ?_
      refine k_get (v := .ref o) (T := TX1) (C := RX1) (N := 16) cx hi_X1_ohmsOf_1 hP 0 rfl rfl 12 (by decide) (by decide +kernel) rfl dX1_ohmsOf_6 ?_
      refine k_alenI (v := 6) (t0 := 0) cx hP 1 rfl rfl rfl dX1_ohmsOf_9 ?_
      refine lv_icmp_ge (tgt := 22) hx hb dX1_ohmsOf_10 (by decide) (fun c_10 => ?_) (fun c_10 => ?_)
      · replace hq := (if_pos c_10).symm.trans hq
        refine lv_iconst (v := 0) hx hb dX1_ohmsOf_22 (by decide) ?_
        subst hq
        exact k_iret cx hP hS dX1_ohmsOf_23
      · replace hq := (if_neg c_10).symm.trans hq
        refine lv_aload_n hx hb dX1_ohmsOf_13 rfl (lv_at hl 0 rfl) ?_
        refine k_get (v := .ref o) (T := TX1) (C := RX1) (N := 16) cx hi_X1_ohmsOf_1 hP 0 rfl rfl 12 (by decide) (by decide +kernel) rfl dX1_ohmsOf_14 ?_
        refine lv_iload_n hx hb dX1_ohmsOf_17 rfl (lv_at hl 1 rfl) ?_
        refine k_iald (j := i.toNatClampNeg) cx hP 1 rfl rfl (ix_le (N := 6) (by assumption) (by assumption) (by decide)) dX1_ohmsOf_18 ?_
        refine lv_goto (tgt := 23) hx hb dX1_ohmsOf_19 (by decide) ?_
        subst hq
        exact k_iret cx hP hS dX1_ohmsOf_23
  subst hL
  subst hH
  subst hq
  exact key _ _ hP hD hS

/-! X1_hasUnknown -/
theorem hi_X1_hasUnknown_1 : ∀ w ∈ u_ws RX1 TX1 16, w ∈ wsX1_hasUnknown := by decide +kernel
abbrev rm_X1_hasUnknown : Room := { frames := 0, cells := 0, slots := 0, locals := 0 }
abbrev Q_X1_hasUnknown (G : gG) (h : Nat) (o : Nat) (g : Nat)  (f : Nat → Int32) (tgt : Int32) (below : List Frame) (args : Array Value) (s : State) (A : Nat → Prop) : State → Prop := MQ below (qI G tgt [oSt h o g f] A) args s 0 0 A
def P_X1_hasUnknown (f : Nat → Int32) (i : Int32) : Int32 := (if i < 0 then 0 else (if (f 13) ≤ i then 0 else 1))
set_option maxHeartbeats 4000000 in
set_option maxRecDepth 100000 in
theorem c_X1_hasUnknown (l : Launch) (G : gG) (h : Nat) (o : Nat) (g : Nat) (f : Nat → Int32) (i : Int32)  : kM l G yX1_hasUnknown wsX1_hasUnknown rm_X1_hasUnknown [.ref h, .int i] [oSt h o g f] (qI G ((P_X1_hasUnknown f i)) [oSt h o g f]) := by
  refine k_body (cc := cX1_hasUnknown) (nL := 2) (ret := (some .boolean)) (by decide) rfl (Nat.le_of_ble_eq_true rfl) ?_
  intro p e s m args below meth c A cx hP hD hS ls hl
  obtain ⟨hx, hb, hml, hown, hts, hr, hlocks, hK, hA⟩ := id cx
  obtain ⟨H, hH⟩ : ∃ H, H = s.heap := ⟨_, rfl⟩
  obtain ⟨locs, hL⟩ : ∃ locs : List Loc, locs = [] := ⟨_, rfl⟩
  obtain ⟨tgt, hq⟩ : ∃ tgt, (P_X1_hasUnknown f i) = tgt := ⟨_, rfl⟩
  have hS : va_S A s.heap H locs := by rw [hH, hL]; exact hS
  rw [← hH] at hP
  have hl : lv_has ls 2 [(0, .ref h), (1, .int i)] := hl
  have key : ∀ (H : Heap) (locs : List Loc), va_P G.1 vwCl [oSt h o g f] H → va_D A [oSt h o g f] → va_S A s.heap H locs → W p l e rm_X1_hasUnknown s m args below meth c H locs 0 0 (Q_X1_hasUnknown G h o g f tgt below args s A) (F0 m 0 ls []) := by
    clear hP hD hS hH hL
    intro H locs hP hD hS
    unfold P_X1_hasUnknown at hq
    refine lv_iload_n hx hb dX1_hasUnknown_0 rfl (lv_at hl 1 rfl) ?_
    refine lv_if_lt (tgt := 16) hx hb dX1_hasUnknown_1 (by decide) (fun c_1 => ?_) (fun c_1 => ?_)
    · replace hq := (if_pos c_1).symm.trans hq
      refine lv_iconst (v := 0) hx hb dX1_hasUnknown_16 (by decide) ?_
      subst hq
      exact k_zret (v := 0) (w1 := [oSt h o g f]) cx (rfl) hP hS dX1_hasUnknown_17
    · replace hq := (if_neg c_1).symm.trans hq
      refine lv_iload_n hx hb dX1_hasUnknown_4 rfl (lv_at hl 1 rfl) ?_
      refine lv_aload_n hx hb dX1_hasUnknown_5 rfl (lv_at hl 0 rfl) ?_
      refine k_get (v := .int (f 13)) (T := TX1) (C := RX1) (N := 16) cx hi_X1_hasUnknown_1 hP 0 rfl rfl 13 (by decide) (by decide +kernel) rfl dX1_hasUnknown_6 ?_
      refine lv_icmp_ge (tgt := 16) hx hb dX1_hasUnknown_9 (by decide) (fun c_9 => ?_) (fun c_9 => ?_)
      · replace hq := (if_pos c_9).symm.trans hq
        refine lv_iconst (v := 0) hx hb dX1_hasUnknown_16 (by decide) ?_
        subst hq
        exact k_zret (v := 0) (w1 := [oSt h o g f]) cx (rfl) hP hS dX1_hasUnknown_17
      · replace hq := (if_neg c_9).symm.trans hq
        refine lv_iconst (v := 1) hx hb dX1_hasUnknown_12 (by decide) ?_
        refine lv_goto (tgt := 17) hx hb dX1_hasUnknown_13 (by decide) ?_
        subst hq
        exact k_zret (v := 1) (w1 := [oSt h o g f]) cx (rfl) hP hS dX1_hasUnknown_17
  subst hL
  subst hH
  subst hq
  exact key _ _ hP hD hS
theorem zb_X1_hasUnknown (f : Nat → Int32) (i : Int32) : P_X1_hasUnknown f i = 0 ∨ P_X1_hasUnknown f i = 1 := by
  unfold P_X1_hasUnknown
  repeat' first | with_reducible refine zif ?_ ?_ | with_reducible exact Or.inl rfl | with_reducible exact Or.inr rfl 

/-! X1_difference -/
theorem hi_X1_difference_1 : ∀ w ∈ u_ws RX1 TX1 16, w ∈ wsX1_difference := by decide +kernel
abbrev rm_X1_difference : Room := { frames := 1, cells := 0, slots := 0, locals := 21 }
abbrev Q_X1_difference (G : gG) (h : Nat) (o : Nat) (g : Nat)  (f : Nat → Int32) (oh : Nat → Int32) (tgt : Int32) (below : List Frame) (args : Array Value) (s : State) (A : Nat → Prop) : State → Prop := MQ below (qI G tgt [oSt h o g f, aI G o 6 oh] A) args s 0 0 A
def P_X1_difference (f : Nat → Int32) (oh : Nat → Int32) (box : Int32) : Int32 := (((P_X3_power (f 1)) * (P_X1_ohmsOf f oh (f 14))) - ((P_X3_power (f 0)) * box))
set_option maxHeartbeats 4000000 in
set_option maxRecDepth 100000 in
theorem c_X1_difference (l : Launch) (G : gG) (h : Nat) (o : Nat) (g : Nat) (f : Nat → Int32) (oh : Nat → Int32) (box : Int32)  : kM l G yX1_difference wsX1_difference rm_X1_difference [.ref h, .int box] [oSt h o g f, aI G o 6 oh] (qI G ((P_X1_difference f oh box)) [oSt h o g f, aI G o 6 oh]) := by
  refine k_body (cc := cX1_difference) (nL := 2) (ret := (some .int)) (by decide) rfl (Nat.le_of_ble_eq_true rfl) ?_
  intro p e s m args below meth c A cx hP hD hS ls hl
  obtain ⟨hx, hb, hml, hown, hts, hr, hlocks, hK, hA⟩ := id cx
  obtain ⟨H, hH⟩ : ∃ H, H = s.heap := ⟨_, rfl⟩
  obtain ⟨locs, hL⟩ : ∃ locs : List Loc, locs = [] := ⟨_, rfl⟩
  obtain ⟨tgt, hq⟩ : ∃ tgt, (P_X1_difference f oh box) = tgt := ⟨_, rfl⟩
  have hS : va_S A s.heap H locs := by rw [hH, hL]; exact hS
  rw [← hH] at hP
  have hl : lv_has ls 2 [(0, .ref h), (1, .int box)] := hl
  have key : ∀ (H : Heap) (locs : List Loc), va_P G.1 vwCl [oSt h o g f, aI G o 6 oh] H → va_D A [oSt h o g f, aI G o 6 oh] → va_S A s.heap H locs → W p l e rm_X1_difference s m args below meth c H locs 0 0 (Q_X1_difference G h o g f oh tgt below args s A) (F0 m 0 ls []) := by
    clear hP hD hS hH hL
    intro H locs hP hD hS
    unfold P_X1_difference at hq
    refine lv_aload_n hx hb dX1_difference_0 rfl (lv_at hl 0 rfl) ?_
    refine k_get (v := .int (f 1)) (T := TX1) (C := RX1) (N := 16) cx hi_X1_difference_1 hP 0 rfl rfl 1 (by decide) (by decide +kernel) rfl dX1_difference_1 ?_
    have hC := c_X3_power l G (f 1)
    refine k_i (ws' := [oSt h o g f, aI G o 6 oh]) (as := []) cx hP hD hS [] rfl (kr_SN (n := 1) (As := [.int (f 1)]) cx hC gX1_difference_X3_power_n100 rfl rfl rfl nn_X1_100 (by decide +kernel) (by decide +kernel) (by decide +kernel) ⟨Nat.le_of_ble_eq_true rfl, Nat.le_of_ble_eq_true rfl⟩ hP hD [] rfl rfl rfl rfl hl (Nat.le_of_ble_eq_true rfl) dX1_difference_4 ⟨Nat.le_refl _, Nat.le_refl _⟩) ⟨rfl, rfl⟩ rfl (fun H locs hP hD hS => ?_)
    refine lv_aload_n hx hb dX1_difference_7 rfl (lv_at hl 0 rfl) ?_
    refine lv_aload_n hx hb dX1_difference_8 rfl (lv_at hl 0 rfl) ?_
    refine k_get (v := .int (f 14)) (T := TX1) (C := RX1) (N := 16) cx hi_X1_difference_1 hP 0 rfl rfl 14 (by decide) (by decide +kernel) rfl dX1_difference_9 ?_
    have hC := c_X1_ohmsOf l G h o g f oh (f 14)
    refine k_i (ws' := [oSt h o g f, aI G o 6 oh]) (as := [h, o]) cx hP hD hS [0, 1] rfl (kr_V (n := 1) (As := [.int (f 14)]) (ci := 1) cx hC gX1_difference_X1_ohmsOf rfl rfl rfl (by decide +kernel) ⟨Nat.le_of_ble_eq_true rfl, Nat.le_of_ble_eq_true rfl⟩ rfl rfl rfl hP hD [0, 1] rfl rfl rfl rfl hl (Nat.le_of_ble_eq_true rfl) dX1_difference_12 ⟨Nat.le_refl _, Nat.le_refl _⟩) ⟨rfl, rfl⟩ rfl (fun H locs hP hD hS => ?_)
    refine lv_imul hx hb dX1_difference_15 ?_
    refine lv_aload_n hx hb dX1_difference_16 rfl (lv_at hl 0 rfl) ?_
    refine k_get (v := .int (f 0)) (T := TX1) (C := RX1) (N := 16) cx hi_X1_difference_1 hP 0 rfl rfl 0 (by decide) (by decide +kernel) rfl dX1_difference_17 ?_
    have hC := c_X3_power l G (f 0)
    refine k_i (ws' := [oSt h o g f, aI G o 6 oh]) (as := []) cx hP hD hS [] rfl (kr_SN (n := 1) (As := [.int (f 0)]) cx hC gX1_difference_X3_power_n100 rfl rfl rfl nn_X1_100 (by decide +kernel) (by decide +kernel) (by decide +kernel) ⟨Nat.le_of_ble_eq_true rfl, Nat.le_of_ble_eq_true rfl⟩ hP hD [] rfl rfl rfl rfl hl (Nat.le_of_ble_eq_true rfl) dX1_difference_20 ⟨Nat.le_refl _, Nat.le_refl _⟩) ⟨rfl, rfl⟩ rfl (fun H locs hP hD hS => ?_)
    refine lv_iload_n hx hb dX1_difference_23 rfl (lv_at hl 1 rfl) ?_
    refine lv_imul hx hb dX1_difference_24 ?_
    refine lv_isub hx hb dX1_difference_25 ?_
    subst hq
    exact k_iret cx hP hS dX1_difference_26
  subst hL
  subst hH
  subst hq
  exact key _ _ hP hD hS

/-! X1_denominator -/
theorem hi_X1_denominator_1 : ∀ w ∈ u_ws RX1 TX1 16, w ∈ wsX1_denominator := by decide +kernel
abbrev rm_X1_denominator : Room := { frames := 1, cells := 0, slots := 0, locals := 21 }
abbrev Q_X1_denominator (G : gG) (h : Nat) (o : Nat) (g : Nat)  (f : Nat → Int32) (oh : Nat → Int32) (tgt : Int32) (below : List Frame) (args : Array Value) (s : State) (A : Nat → Prop) : State → Prop := MQ below (qI G tgt [oSt h o g f, aI G o 6 oh] A) args s 0 0 A
def P_X1_denominator (f : Nat → Int32) (oh : Nat → Int32) (box : Int32) : Int32 := (((P_X3_power (f 0)) + (P_X3_power (f 1))) * ((P_X1_ohmsOf f oh (f 14)) + box))
set_option maxHeartbeats 4000000 in
set_option maxRecDepth 100000 in
theorem c_X1_denominator (l : Launch) (G : gG) (h : Nat) (o : Nat) (g : Nat) (f : Nat → Int32) (oh : Nat → Int32) (box : Int32)  : kM l G yX1_denominator wsX1_denominator rm_X1_denominator [.ref h, .int box] [oSt h o g f, aI G o 6 oh] (qI G ((P_X1_denominator f oh box)) [oSt h o g f, aI G o 6 oh]) := by
  refine k_body (cc := cX1_denominator) (nL := 2) (ret := (some .int)) (by decide) rfl (Nat.le_of_ble_eq_true rfl) ?_
  intro p e s m args below meth c A cx hP hD hS ls hl
  obtain ⟨hx, hb, hml, hown, hts, hr, hlocks, hK, hA⟩ := id cx
  obtain ⟨H, hH⟩ : ∃ H, H = s.heap := ⟨_, rfl⟩
  obtain ⟨locs, hL⟩ : ∃ locs : List Loc, locs = [] := ⟨_, rfl⟩
  obtain ⟨tgt, hq⟩ : ∃ tgt, (P_X1_denominator f oh box) = tgt := ⟨_, rfl⟩
  have hS : va_S A s.heap H locs := by rw [hH, hL]; exact hS
  rw [← hH] at hP
  have hl : lv_has ls 2 [(0, .ref h), (1, .int box)] := hl
  have key : ∀ (H : Heap) (locs : List Loc), va_P G.1 vwCl [oSt h o g f, aI G o 6 oh] H → va_D A [oSt h o g f, aI G o 6 oh] → va_S A s.heap H locs → W p l e rm_X1_denominator s m args below meth c H locs 0 0 (Q_X1_denominator G h o g f oh tgt below args s A) (F0 m 0 ls []) := by
    clear hP hD hS hH hL
    intro H locs hP hD hS
    unfold P_X1_denominator at hq
    refine lv_aload_n hx hb dX1_denominator_0 rfl (lv_at hl 0 rfl) ?_
    refine k_get (v := .int (f 0)) (T := TX1) (C := RX1) (N := 16) cx hi_X1_denominator_1 hP 0 rfl rfl 0 (by decide) (by decide +kernel) rfl dX1_denominator_1 ?_
    have hC := c_X3_power l G (f 0)
    refine k_i (ws' := [oSt h o g f, aI G o 6 oh]) (as := []) cx hP hD hS [] rfl (kr_SN (n := 1) (As := [.int (f 0)]) cx hC gX1_denominator_X3_power_n100 rfl rfl rfl nn_X1_100 (by decide +kernel) (by decide +kernel) (by decide +kernel) ⟨Nat.le_of_ble_eq_true rfl, Nat.le_of_ble_eq_true rfl⟩ hP hD [] rfl rfl rfl rfl hl (Nat.le_of_ble_eq_true rfl) dX1_denominator_4 ⟨Nat.le_refl _, Nat.le_refl _⟩) ⟨rfl, rfl⟩ rfl (fun H locs hP hD hS => ?_)
    refine lv_aload_n hx hb dX1_denominator_7 rfl (lv_at hl 0 rfl) ?_
    refine k_get (v := .int (f 1)) (T := TX1) (C := RX1) (N := 16) cx hi_X1_denominator_1 hP 0 rfl rfl 1 (by decide) (by decide +kernel) rfl dX1_denominator_8 ?_
    have hC := c_X3_power l G (f 1)
    refine k_i (ws' := [oSt h o g f, aI G o 6 oh]) (as := []) cx hP hD hS [] rfl (kr_SN (n := 1) (As := [.int (f 1)]) cx hC gX1_denominator_X3_power_n100 rfl rfl rfl nn_X1_100 (by decide +kernel) (by decide +kernel) (by decide +kernel) ⟨Nat.le_of_ble_eq_true rfl, Nat.le_of_ble_eq_true rfl⟩ hP hD [] rfl rfl rfl rfl hl (Nat.le_of_ble_eq_true rfl) dX1_denominator_11 ⟨Nat.le_refl _, Nat.le_refl _⟩) ⟨rfl, rfl⟩ rfl (fun H locs hP hD hS => ?_)
    refine lv_iadd hx hb dX1_denominator_14 ?_
    refine lv_aload_n hx hb dX1_denominator_15 rfl (lv_at hl 0 rfl) ?_
    refine lv_aload_n hx hb dX1_denominator_16 rfl (lv_at hl 0 rfl) ?_
    refine k_get (v := .int (f 14)) (T := TX1) (C := RX1) (N := 16) cx hi_X1_denominator_1 hP 0 rfl rfl 14 (by decide) (by decide +kernel) rfl dX1_denominator_17 ?_
    have hC := c_X1_ohmsOf l G h o g f oh (f 14)
    refine k_i (ws' := [oSt h o g f, aI G o 6 oh]) (as := [h, o]) cx hP hD hS [0, 1] rfl (kr_V (n := 1) (As := [.int (f 14)]) (ci := 1) cx hC gX1_denominator_X1_ohmsOf rfl rfl rfl (by decide +kernel) ⟨Nat.le_of_ble_eq_true rfl, Nat.le_of_ble_eq_true rfl⟩ rfl rfl rfl hP hD [0, 1] rfl rfl rfl rfl hl (Nat.le_of_ble_eq_true rfl) dX1_denominator_20 ⟨Nat.le_refl _, Nat.le_refl _⟩) ⟨rfl, rfl⟩ rfl (fun H locs hP hD hS => ?_)
    refine lv_iload_n hx hb dX1_denominator_23 rfl (lv_at hl 1 rfl) ?_
    refine lv_iadd hx hb dX1_denominator_24 ?_
    refine lv_imul hx hb dX1_denominator_25 ?_
    subst hq
    exact k_iret cx hP hS dX1_denominator_26
  subst hL
  subst hH
  subst hq
  exact key _ _ hP hD hS

/-! X1_deflection -/
theorem hi_X1_deflection_1 : ∀ w ∈ u_ws RX1 TX1 16, w ∈ wsX1_deflection := by decide +kernel
abbrev rm_X1_deflection : Room := { frames := 1, cells := 0, slots := 0, locals := 20 }
abbrev Q_X1_deflection (G : gG) (h : Nat) (o : Nat) (g : Nat)  (f : Nat → Int32) (tgt : Int32) (below : List Frame) (args : Array Value) (s : State) (A : Nat → Prop) : State → Prop := MQ below (qI G tgt [oSt h o g f] A) args s 0 0 A
def P_X1_deflection (f : Nat → Int32) (nn : Int32) (dd : Int32) (ix : Int32) : Int32 := (if dd = 0 then 0 else (if (P_X3_power ix) = 0 then 0 else (((((100000 * ((f 3)).toInt64) * (nn).toInt64) / (dd).toInt64) / ((P_X3_power ix)).toInt64)).toInt32))
set_option maxHeartbeats 4000000 in
set_option maxRecDepth 100000 in
theorem c_X1_deflection (l : Launch) (G : gG) (h : Nat) (o : Nat) (g : Nat) (f : Nat → Int32) (nn : Int32) (dd : Int32) (ix : Int32)  : kM l G yX1_deflection wsX1_deflection rm_X1_deflection [.ref h, .int nn, .int dd, .int ix] [oSt h o g f] (qI G ((P_X1_deflection f nn dd ix)) [oSt h o g f]) := by
  refine k_body (cc := cX1_deflection) (nL := 5) (ret := (some .int)) (by decide) rfl (Nat.le_of_ble_eq_true rfl) ?_
  intro p e s m args below meth c A cx hP hD hS ls hl
  obtain ⟨hx, hb, hml, hown, hts, hr, hlocks, hK, hA⟩ := id cx
  obtain ⟨H, hH⟩ : ∃ H, H = s.heap := ⟨_, rfl⟩
  obtain ⟨locs, hL⟩ : ∃ locs : List Loc, locs = [] := ⟨_, rfl⟩
  obtain ⟨tgt, hq⟩ : ∃ tgt, (P_X1_deflection f nn dd ix) = tgt := ⟨_, rfl⟩
  have hS : va_S A s.heap H locs := by rw [hH, hL]; exact hS
  rw [← hH] at hP
  have hl : lv_has ls 5 [(0, .ref h), (1, .int nn), (2, .int dd), (3, .int ix)] := hl
  have key : ∀ (H : Heap) (locs : List Loc), va_P G.1 vwCl [oSt h o g f] H → va_D A [oSt h o g f] → va_S A s.heap H locs → W p l e rm_X1_deflection s m args below meth c H locs 0 0 (Q_X1_deflection G h o g f tgt below args s A) (F0 m 0 ls []) := by
    clear hP hD hS hH hL
    intro H locs hP hD hS
    unfold P_X1_deflection at hq
    refine lv_iload_n hx hb dX1_deflection_0 rfl (lv_at hl 3 rfl) ?_
    have hC := c_X3_power l G ix
    refine k_i (ws' := [oSt h o g f]) (as := []) cx hP hD hS [] rfl (kr_SN (n := 1) (As := [.int ix]) cx hC gX1_deflection_X3_power_n100 rfl rfl rfl nn_X1_100 (by decide +kernel) (by decide +kernel) (by decide +kernel) ⟨Nat.le_of_ble_eq_true rfl, Nat.le_of_ble_eq_true rfl⟩ hP hD [] rfl rfl rfl rfl hl (Nat.le_of_ble_eq_true rfl) dX1_deflection_1 ⟨Nat.le_refl _, Nat.le_refl _⟩) ⟨rfl, rfl⟩ rfl (fun H locs hP hD hS => ?_)
    refine lv_istore (lv' := [(4, .int (P_X3_power ix)), (0, .ref h), (1, .int nn), (2, .int dd), (3, .int ix)]) hx hb dX1_deflection_4 hl (by decide) rfl (fun ls hl => ?_)
    refine lv_iload_n hx hb dX1_deflection_6 rfl (lv_at hl 3 rfl) ?_
    refine lv_if_eq (tgt := 15) hx hb dX1_deflection_7 (by decide) (fun c_7 => ?_) (fun c_7 => ?_)
    · replace hq := (if_pos c_7).symm.trans hq
      refine lv_iconst (v := 0) hx hb dX1_deflection_15 (by decide) ?_
      subst hq
      exact k_iret cx hP hS dX1_deflection_16
    · replace hq := (if_neg c_7).symm.trans hq
      refine lv_iload hx hb dX1_deflection_10 (lv_at hl 0 rfl) ?_
      refine lv_if_ne (tgt := 17) hx hb dX1_deflection_12 (by decide) (fun c_12 => ?_) (fun c_12 => ?_)
      · replace hq := (if_neg c_12).symm.trans hq
        refine k_ldc2 (v := 100000) cx (by decide +kernel) dX1_deflection_17 ?_
        refine lv_aload_n hx hb dX1_deflection_20 rfl (lv_at hl 1 rfl) ?_
        refine k_get (v := .int (f 3)) (T := TX1) (C := RX1) (N := 16) cx hi_X1_deflection_1 hP 0 rfl rfl 3 (by decide) (by decide +kernel) rfl dX1_deflection_21 ?_
        refine lv_i2l hx hb dX1_deflection_24 rfl ?_
        refine lv_lmul hx hb dX1_deflection_25 ?_
        refine lv_iload_n hx hb dX1_deflection_26 rfl (lv_at hl 2 rfl) ?_
        refine lv_i2l hx hb dX1_deflection_27 rfl ?_
        refine lv_lmul hx hb dX1_deflection_28 ?_
        refine lv_iload_n hx hb dX1_deflection_29 rfl (lv_at hl 3 rfl) ?_
        refine lv_i2l hx hb dX1_deflection_30 rfl ?_
        refine lv_ldiv hx hb dX1_deflection_31 (i64_ne c_7) ?_
        refine lv_iload hx hb dX1_deflection_32 (lv_at hl 0 rfl) ?_
        refine lv_i2l hx hb dX1_deflection_34 rfl ?_
        refine lv_ldiv hx hb dX1_deflection_35 (i64_ne c_12) ?_
        refine lv_l2i hx hb dX1_deflection_36 rfl ?_
        subst hq
        exact k_iret cx hP hS dX1_deflection_37
      · replace hq := (if_pos c_12).symm.trans hq
        refine lv_iconst (v := 0) hx hb dX1_deflection_15 (by decide) ?_
        subst hq
        exact k_iret cx hP hS dX1_deflection_16
  subst hL
  subst hH
  subst hq
  exact key _ _ hP hD hS

/-! X1_offsetAt -/
theorem hi_X1_offsetAt_1 : ∀ w ∈ u_ws RX1 TX1 16, w ∈ wsX1_offsetAt := by decide +kernel
abbrev rm_X1_offsetAt : Room := { frames := 0, cells := 0, slots := 0, locals := 0 }
abbrev Q_X1_offsetAt (G : gG) (h : Nat) (o : Nat) (g : Nat)  (f : Nat → Int32) (tgt : Int32) (below : List Frame) (args : Array Value) (s : State) (A : Nat → Prop) : State → Prop := MQ below (qI G tgt [oSt h o g f] A) args s 0 0 A
def P_X1_offsetAt (f : Nat → Int32) (w : Int32) : Int32 := ((f 5) + ((w * (f 6)) / 100))
set_option maxHeartbeats 4000000 in
set_option maxRecDepth 100000 in
theorem c_X1_offsetAt (l : Launch) (G : gG) (h : Nat) (o : Nat) (g : Nat) (f : Nat → Int32) (w : Int32)  : kM l G yX1_offsetAt wsX1_offsetAt rm_X1_offsetAt [.ref h, .int w] [oSt h o g f] (qI G ((P_X1_offsetAt f w)) [oSt h o g f]) := by
  refine k_body (cc := cX1_offsetAt) (nL := 2) (ret := (some .int)) (by decide) rfl (Nat.le_of_ble_eq_true rfl) ?_
  intro p e s m args below meth c A cx hP hD hS ls hl
  obtain ⟨hx, hb, hml, hown, hts, hr, hlocks, hK, hA⟩ := id cx
  obtain ⟨H, hH⟩ : ∃ H, H = s.heap := ⟨_, rfl⟩
  obtain ⟨locs, hL⟩ : ∃ locs : List Loc, locs = [] := ⟨_, rfl⟩
  obtain ⟨tgt, hq⟩ : ∃ tgt, (P_X1_offsetAt f w) = tgt := ⟨_, rfl⟩
  have hS : va_S A s.heap H locs := by rw [hH, hL]; exact hS
  rw [← hH] at hP
  have hl : lv_has ls 2 [(0, .ref h), (1, .int w)] := hl
  have key : ∀ (H : Heap) (locs : List Loc), va_P G.1 vwCl [oSt h o g f] H → va_D A [oSt h o g f] → va_S A s.heap H locs → W p l e rm_X1_offsetAt s m args below meth c H locs 0 0 (Q_X1_offsetAt G h o g f tgt below args s A) (F0 m 0 ls []) := by
    clear hP hD hS hH hL
    intro H locs hP hD hS
    unfold P_X1_offsetAt at hq
    refine lv_aload_n hx hb dX1_offsetAt_0 rfl (lv_at hl 0 rfl) ?_
    refine k_get (v := .int (f 5)) (T := TX1) (C := RX1) (N := 16) cx hi_X1_offsetAt_1 hP 0 rfl rfl 5 (by decide) (by decide +kernel) rfl dX1_offsetAt_1 ?_
    refine lv_iload_n hx hb dX1_offsetAt_4 rfl (lv_at hl 1 rfl) ?_
    refine lv_aload_n hx hb dX1_offsetAt_5 rfl (lv_at hl 0 rfl) ?_
    refine k_get (v := .int (f 6)) (T := TX1) (C := RX1) (N := 16) cx hi_X1_offsetAt_1 hP 0 rfl rfl 6 (by decide) (by decide +kernel) rfl dX1_offsetAt_6 ?_
    refine lv_imul hx hb dX1_offsetAt_9 ?_
    refine lv_bipush (v := 100) hx hb dX1_offsetAt_10 (by decide) ?_
    refine lv_idiv hx hb dX1_offsetAt_12 (by decide) ?_
    refine lv_iadd hx hb dX1_offsetAt_13 ?_
    subst hq
    exact k_iret cx hP hS dX1_offsetAt_14
  subst hL
  subst hH
  subst hq
  exact key _ _ hP hD hS

/-! X1_offset -/
theorem hi_X1_offset_1 : ∀ w ∈ u_ws RX1 TX1 16, w ∈ wsX1_offset := by decide +kernel
abbrev rm_X1_offset : Room := { frames := 1, cells := 0, slots := 0, locals := 21 }
abbrev Q_X1_offset (G : gG) (h : Nat) (o : Nat) (g : Nat)  (f : Nat → Int32) (tgt : Int32) (below : List Frame) (args : Array Value) (s : State) (A : Nat → Prop) : State → Prop := MQ below (qI G tgt [oSt h o g f] A) args s 0 0 A
def P_X1_offset (f : Nat → Int32) : Int32 := (P_X1_offsetAt f (f 7))
set_option maxHeartbeats 4000000 in
set_option maxRecDepth 100000 in
theorem c_X1_offset (l : Launch) (G : gG) (h : Nat) (o : Nat) (g : Nat) (f : Nat → Int32)  : kM l G yX1_offset wsX1_offset rm_X1_offset [.ref h] [oSt h o g f] (qI G ((P_X1_offset f)) [oSt h o g f]) := by
  refine k_body (cc := cX1_offset) (nL := 1) (ret := (some .int)) (by decide) rfl (Nat.le_of_ble_eq_true rfl) ?_
  intro p e s m args below meth c A cx hP hD hS ls hl
  obtain ⟨hx, hb, hml, hown, hts, hr, hlocks, hK, hA⟩ := id cx
  obtain ⟨H, hH⟩ : ∃ H, H = s.heap := ⟨_, rfl⟩
  obtain ⟨locs, hL⟩ : ∃ locs : List Loc, locs = [] := ⟨_, rfl⟩
  obtain ⟨tgt, hq⟩ : ∃ tgt, (P_X1_offset f) = tgt := ⟨_, rfl⟩
  have hS : va_S A s.heap H locs := by rw [hH, hL]; exact hS
  rw [← hH] at hP
  have hl : lv_has ls 1 [(0, .ref h)] := hl
  have key : ∀ (H : Heap) (locs : List Loc), va_P G.1 vwCl [oSt h o g f] H → va_D A [oSt h o g f] → va_S A s.heap H locs → W p l e rm_X1_offset s m args below meth c H locs 0 0 (Q_X1_offset G h o g f tgt below args s A) (F0 m 0 ls []) := by
    clear hP hD hS hH hL
    intro H locs hP hD hS
    unfold P_X1_offset at hq
    refine lv_aload_n hx hb dX1_offset_0 rfl (lv_at hl 0 rfl) ?_
    refine lv_aload_n hx hb dX1_offset_1 rfl (lv_at hl 0 rfl) ?_
    refine k_get (v := .int (f 7)) (T := TX1) (C := RX1) (N := 16) cx hi_X1_offset_1 hP 0 rfl rfl 7 (by decide) (by decide +kernel) rfl dX1_offset_2 ?_
    have hC := c_X1_offsetAt l G h o g f (f 7)
    refine k_i (ws' := [oSt h o g f]) (as := [h]) cx hP hD hS [0] rfl (kr_V (n := 1) (As := [.int (f 7)]) (ci := 1) cx hC gX1_offset_X1_offsetAt rfl rfl rfl (by decide +kernel) ⟨Nat.le_of_ble_eq_true rfl, Nat.le_of_ble_eq_true rfl⟩ rfl rfl rfl hP hD [0] rfl rfl rfl rfl hl (Nat.le_of_ble_eq_true rfl) dX1_offset_5 ⟨Nat.le_refl _, Nat.le_refl _⟩) ⟨rfl, rfl⟩ rfl (fun H locs hP hD hS => ?_)
    subst hq
    exact k_iret cx hP hS dX1_offset_8
  subst hL
  subst hH
  subst hq
  exact key _ _ hP hD hS

/-! X1_warmed -/
abbrev rm_X1_warmed : Room := { frames := 1, cells := 0, slots := 0, locals := 13 }
abbrev Q_X1_warmed (G : gG)    (tgt : Int32) (below : List Frame) (args : Array Value) (s : State) (A : Nat → Prop) : State → Prop := MQ below (qI G tgt [] A) args s 0 0 A
def P_X1_warmed (w : Int32) (bt : Int32) : Int32 := (jmin 9999 (w + bt))
set_option maxHeartbeats 4000000 in
set_option maxRecDepth 100000 in
theorem c_X1_warmed (l : Launch) (G : gG)  (w : Int32) (bt : Int32)  : kM l G yX1_warmed wsX1_warmed rm_X1_warmed [.int w, .int bt] [] (qI G ((P_X1_warmed w bt)) []) := by
  refine k_body (cc := cX1_warmed) (nL := 2) (ret := (some .int)) (by decide) rfl (Nat.le_of_ble_eq_true rfl) ?_
  intro p e s m args below meth c A cx hP hD hS ls hl
  obtain ⟨hx, hb, hml, hown, hts, hr, hlocks, hK, hA⟩ := id cx
  obtain ⟨H, hH⟩ : ∃ H, H = s.heap := ⟨_, rfl⟩
  obtain ⟨locs, hL⟩ : ∃ locs : List Loc, locs = [] := ⟨_, rfl⟩
  obtain ⟨tgt, hq⟩ : ∃ tgt, (P_X1_warmed w bt) = tgt := ⟨_, rfl⟩
  have hS : va_S A s.heap H locs := by rw [hH, hL]; exact hS
  rw [← hH] at hP
  have hl : lv_has ls 2 [(0, .int w), (1, .int bt)] := hl
  have key : ∀ (H : Heap) (locs : List Loc), va_P G.1 vwCl [] H → va_D A [] → va_S A s.heap H locs → W p l e rm_X1_warmed s m args below meth c H locs 0 0 (Q_X1_warmed G  tgt below args s A) (F0 m 0 ls []) := by
    clear hP hD hS hH hL
    intro H locs hP hD hS
    unfold P_X1_warmed at hq
    refine lv_sipush (v := 9999) hx hb dX1_warmed_0 (by decide) ?_
    refine lv_iload_n hx hb dX1_warmed_3 rfl (lv_at hl 0 rfl) ?_
    refine lv_iload_n hx hb dX1_warmed_4 rfl (lv_at hl 1 rfl) ?_
    refine lv_iadd hx hb dX1_warmed_5 ?_
    refine k_min cx hl (by decide +kernel) (by decide +kernel) (by decide +kernel) (by decide +kernel) ⟨Nat.le_of_ble_eq_true rfl, Nat.le_of_ble_eq_true rfl, Nat.zero_le _, Nat.zero_le _⟩ dX1_warmed_6 ?_
    subst hq
    exact k_iret cx hP hS dX1_warmed_9
  subst hL
  subst hH
  subst hq
  exact key _ _ hP hD hS

/-! X1_cooled -/
abbrev rm_X1_cooled : Room := { frames := 1, cells := 0, slots := 0, locals := 13 }
abbrev Q_X1_cooled (G : gG)    (tgt : Int32) (below : List Frame) (args : Array Value) (s : State) (A : Nat → Prop) : State → Prop := MQ below (qI G tgt [] A) args s 0 0 A
def P_X1_cooled (w : Int32) : Int32 := (jmax 0 (w - ((w / 10) + 1)))
set_option maxHeartbeats 4000000 in
set_option maxRecDepth 100000 in
theorem c_X1_cooled (l : Launch) (G : gG)  (w : Int32)  : kM l G yX1_cooled wsX1_cooled rm_X1_cooled [.int w] [] (qI G ((P_X1_cooled w)) []) := by
  refine k_body (cc := cX1_cooled) (nL := 1) (ret := (some .int)) (by decide) rfl (Nat.le_of_ble_eq_true rfl) ?_
  intro p e s m args below meth c A cx hP hD hS ls hl
  obtain ⟨hx, hb, hml, hown, hts, hr, hlocks, hK, hA⟩ := id cx
  obtain ⟨H, hH⟩ : ∃ H, H = s.heap := ⟨_, rfl⟩
  obtain ⟨locs, hL⟩ : ∃ locs : List Loc, locs = [] := ⟨_, rfl⟩
  obtain ⟨tgt, hq⟩ : ∃ tgt, (P_X1_cooled w) = tgt := ⟨_, rfl⟩
  have hS : va_S A s.heap H locs := by rw [hH, hL]; exact hS
  rw [← hH] at hP
  have hl : lv_has ls 1 [(0, .int w)] := hl
  have key : ∀ (H : Heap) (locs : List Loc), va_P G.1 vwCl [] H → va_D A [] → va_S A s.heap H locs → W p l e rm_X1_cooled s m args below meth c H locs 0 0 (Q_X1_cooled G  tgt below args s A) (F0 m 0 ls []) := by
    clear hP hD hS hH hL
    intro H locs hP hD hS
    unfold P_X1_cooled at hq
    refine lv_iconst (v := 0) hx hb dX1_cooled_0 (by decide) ?_
    refine lv_iload_n hx hb dX1_cooled_1 rfl (lv_at hl 0 rfl) ?_
    refine lv_iload_n hx hb dX1_cooled_2 rfl (lv_at hl 0 rfl) ?_
    refine lv_bipush (v := 10) hx hb dX1_cooled_3 (by decide) ?_
    refine lv_idiv hx hb dX1_cooled_5 (by decide) ?_
    refine lv_iconst (v := 1) hx hb dX1_cooled_6 (by decide) ?_
    refine lv_iadd hx hb dX1_cooled_7 ?_
    refine lv_isub hx hb dX1_cooled_8 ?_
    refine k_max cx hl (by decide +kernel) (by decide +kernel) (by decide +kernel) (by decide +kernel) ⟨Nat.le_of_ble_eq_true rfl, Nat.le_of_ble_eq_true rfl, Nat.zero_le _, Nat.zero_le _⟩ dX1_cooled_9 ?_
    subst hq
    exact k_iret cx hP hS dX1_cooled_12
  subst hL
  subst hH
  subst hq
  exact key _ _ hP hD hS
