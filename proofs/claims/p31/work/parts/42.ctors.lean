/-! constructors of Ledger, Text, State, the reference -/
theorem hi_X0_init_0 : ∀ w ∈ u_ws RX0 TX0 3, w ∈ wsX0_init := by decide +kernel
abbrev rm_X0_init : Room := { frames := 1, cells := 1, slots := 80, locals := 12 }
set_option maxHeartbeats 4000000 in
set_option maxRecDepth 100000 in
theorem c_X0_init (l : Launch) (G : gG) (h0 : Nat) : kN l G yX0_init wsX0_init rm_X0_init 1 80 h0 (.inr (0, [.null, .int 0, .int 0])) (fun _ : Nat => True) (fun q => [oLed h0 q (fun _ => 0), aI G q 80 (fun _ => 0)]) := by
  refine k_bodyN (cc := cX0_init) (nL := 1) (ret := none) (by decide) rfl rfl (Nat.le_of_ble_eq_true rfl) ?_
  intro p e s m args below meth c A cx hin hAO hP hD hS ls hl
  obtain ⟨hx, hb, hml, hown, hts, hr, hlocks, hK, hA⟩ := id cx
  obtain ⟨H, hH⟩ : ∃ H, H = s.heap := ⟨_, rfl⟩
  obtain ⟨locs, hL⟩ : ∃ locs : List Loc, locs = [] := ⟨_, rfl⟩
  have hS : va_S A s.heap H locs := by rw [hH, hL]; exact hS
  rw [← hH] at hP ⊢
  rw [← hL]
  clear hH hL
  refine lv_aload_n hx hb dX0_init_0 rfl (lv_at hl 0 rfl) ?_
  refine k_obj cx hl (by decide +kernel) (by decide +kernel) (by decide +kernel) ⟨Nat.le_of_ble_eq_true rfl, Nat.le_of_ble_eq_true rfl⟩ dX0_init_1 ?_
  refine lv_aload_n hx hb dX0_init_4 rfl (lv_at hl 0 rfl) ?_
  refine lv_bipush (v := 80) hx hb dX0_init_5 (by decide) ?_
  refine k_newaI (N := 80) cx (by decide +kernel) hP hD hS (by decide) (by decide) (Nat.le_of_ble_eq_true rfl) (Nat.le_of_ble_eq_true rfl) (Nat.le_of_ble_eq_true rfl) dX0_init_7 (fun q1 H hP hD hS => ?_)
  have hP : va_P G.1 vwCl [(h0, .inr (0, [.null, .int 0, .int 0])), aI G q1 80 (fun _ => 0)] H := hP
  have hD : va_D A [(h0, .inr (0, [.null, .int 0, .int 0])), aI G q1 80 (fun _ => 0)] := hD
  refine k_putF (ws' := [(h0, .inr (0, [.ref q1, .int 0, .int 0])), aI G q1 80 (fun _ => 0)]) (ty := tyX0 0) (T := TX0) (C := RX0) (N := 3) (v := .ref q1) cx hin hi_X0_init_0 tyX0_ok nmX0 hP hD hS 0 rfl rfl 0 (by decide) (by decide +kernel) rfl rfl rfl rfl rfl (Nat.le_of_ble_eq_true rfl) rfl dX0_init_9 (fun H locs hP hD hS => ?_)
  exact k_vretN cx (q1) trivial hP hD hS ⟨Nat.le_refl _, Nat.le_refl _⟩ dX0_init_12

theorem hi_X2_init_2 : ∀ w ∈ u_ws RX2 TX2 2, w ∈ wsX2_init := by decide +kernel
abbrev rm_X2_init : Room := { frames := 1, cells := 1, slots := 60, locals := 12 }
set_option maxHeartbeats 4000000 in
set_option maxRecDepth 100000 in
theorem c_X2_init (l : Launch) (G : gG) (h0 : Nat) : kN l G yX2_init wsX2_init rm_X2_init 1 60 h0 (.inr (2, [.null, .int 0])) (fun _ : Nat => True) (fun q => [oTx h0 q (fun _ => 0), aC G q 60 (fun _ => 0)]) := by
  refine k_bodyN (cc := cX2_init) (nL := 1) (ret := none) (by decide) rfl rfl (Nat.le_of_ble_eq_true rfl) ?_
  intro p e s m args below meth c A cx hin hAO hP hD hS ls hl
  obtain ⟨hx, hb, hml, hown, hts, hr, hlocks, hK, hA⟩ := id cx
  obtain ⟨H, hH⟩ : ∃ H, H = s.heap := ⟨_, rfl⟩
  obtain ⟨locs, hL⟩ : ∃ locs : List Loc, locs = [] := ⟨_, rfl⟩
  have hS : va_S A s.heap H locs := by rw [hH, hL]; exact hS
  rw [← hH] at hP ⊢
  rw [← hL]
  clear hH hL
  refine lv_aload_n hx hb dX2_init_0 rfl (lv_at hl 0 rfl) ?_
  refine k_obj cx hl (by decide +kernel) (by decide +kernel) (by decide +kernel) ⟨Nat.le_of_ble_eq_true rfl, Nat.le_of_ble_eq_true rfl⟩ dX2_init_1 ?_
  refine lv_aload_n hx hb dX2_init_4 rfl (lv_at hl 0 rfl) ?_
  refine lv_bipush (v := 60) hx hb dX2_init_5 (by decide) ?_
  refine k_newaC (N := 60) cx (by decide +kernel) hP hD hS (by decide) (by decide) (Nat.le_of_ble_eq_true rfl) (Nat.le_of_ble_eq_true rfl) (Nat.le_of_ble_eq_true rfl) dX2_init_7 (fun q1 H hP hD hS => ?_)
  have hP : va_P G.1 vwCl [(h0, .inr (2, [.null, .int 0])), aC G q1 60 (fun _ => 0)] H := hP
  have hD : va_D A [(h0, .inr (2, [.null, .int 0])), aC G q1 60 (fun _ => 0)] := hD
  refine k_putF (ws' := [(h0, .inr (2, [.ref q1, .int 0])), aC G q1 60 (fun _ => 0)]) (ty := tyX2 0) (T := TX2) (C := RX2) (N := 2) (v := .ref q1) cx hin hi_X2_init_2 tyX2_ok nmX2 hP hD hS 0 rfl rfl 0 (by decide) (by decide +kernel) rfl rfl rfl rfl rfl (Nat.le_of_ble_eq_true rfl) rfl dX2_init_9 (fun H locs hP hD hS => ?_)
  exact k_vretN cx (q1) trivial hP hD hS ⟨Nat.le_refl _, Nat.le_refl _⟩ dX2_init_12

def iNow : Nat → Int32 := (upd (upd (upd (upd (upd (upd (upd (upd (fun _ => 0) 0 2) 1 2) 2 1000) 3 10) 4 3) 6 4) 9 1) 15 1500)
def stF0 : Nat → Int32 := fun j => if j = 0 then 2 else if j = 1 then 2 else if j = 2 then 1000 else if j = 3 then 10 else if j = 4 then 3 else if j = 6 then 4 else 0
def iSt : Nat → Int32 := (P_X1_putUnknown stF0 (fun _ => 0) 1500).1
def iOh : Nat → Int32 := (P_X1_putUnknown stF0 (fun _ => 0) 1500).2
/-- a state and what hangs on it: its object, its resistors, its ledger, the ledger's cells -/
abbrev qd : Type := Nat × Nat × Nat × Nat
def bun (G : gG) (q : qd) (f oh lf ce : Nat → Int32) : va_W := [oSt q.1 q.2.1 q.2.2.1 f, aI G q.2.1 6 oh, oLed q.2.2.1 q.2.2.2 lf, aI G q.2.2.2 80 ce]
theorem hi_X1_init_0 : ∀ w ∈ u_ws RX0 TX0 3, w ∈ wsX1_init := by decide +kernel
theorem hi_X1_init_1 : ∀ w ∈ u_ws RX1 TX1 16, w ∈ wsX1_init := by decide +kernel
abbrev rm_X1_init : Room := { frames := 3, cells := 3, slots := 89, locals := 60 }
set_option maxHeartbeats 4000000 in
set_option maxRecDepth 100000 in
theorem c_X1_init (l : Launch) (G : gG) (h0 : Nat) : kN l G yX1_init wsX1_init rm_X1_init 3 89 h0 (.inr (1, [.int 0, .int 0, .int 0, .int 0, .int 0, .int 0, .int 0, .int 0, .int 0, .int 0, .int 0, .int 0, .null, .int 0, .int 0, .null])) (fun _ : Nat × Nat × Nat => True) (fun u => bun G (h0, u) iSt iOh (fun _ => 0) (fun _ => 0)) := by
  refine k_bodyN (cc := cX1_init) (nL := 1) (ret := none) (by decide) rfl rfl (Nat.le_of_ble_eq_true rfl) ?_
  intro p e s m args below meth c A cx hin hAO hP hD hS ls hl
  obtain ⟨hx, hb, hml, hown, hts, hr, hlocks, hK, hA⟩ := id cx
  obtain ⟨H, hH⟩ : ∃ H, H = s.heap := ⟨_, rfl⟩
  obtain ⟨locs, hL⟩ : ∃ locs : List Loc, locs = [] := ⟨_, rfl⟩
  have hS : va_S A s.heap H locs := by rw [hH, hL]; exact hS
  rw [← hH] at hP ⊢
  rw [← hL]
  clear hH hL
  refine lv_aload_n hx hb dX1_init_0 rfl (lv_at hl 0 rfl) ?_
  refine k_obj cx hl (by decide +kernel) (by decide +kernel) (by decide +kernel) ⟨Nat.le_of_ble_eq_true rfl, Nat.le_of_ble_eq_true rfl⟩ dX1_init_1 ?_
  refine lv_aload_n hx hb dX1_init_4 rfl (lv_at hl 0 rfl) ?_
  refine lv_iconst (v := 2) hx hb dX1_init_5 (by decide) ?_
  refine k_put (ws' := [(h0, .inr (1, [.int 2, .int 0, .int 0, .int 0, .int 0, .int 0, .int 0, .int 0, .int 0, .int 0, .int 0, .int 0, .null, .int 0, .int 0, .null]))]) (ty := tyX1 0) (T := TX1) (C := RX1) (N := 16) (v := .int 2) cx hi_X1_init_1 tyX1_ok nmX1 hP hD hS 0 rfl rfl 0 (by decide) (by decide +kernel) rfl rfl rfl rfl (Nat.le_of_ble_eq_true rfl) rfl dX1_init_6 (fun H locs hP hD hS => ?_)
  refine lv_aload_n hx hb dX1_init_9 rfl (lv_at hl 0 rfl) ?_
  refine lv_iconst (v := 2) hx hb dX1_init_10 (by decide) ?_
  refine k_put (ws' := [(h0, .inr (1, [.int 2, .int 2, .int 0, .int 0, .int 0, .int 0, .int 0, .int 0, .int 0, .int 0, .int 0, .int 0, .null, .int 0, .int 0, .null]))]) (ty := tyX1 1) (T := TX1) (C := RX1) (N := 16) (v := .int 2) cx hi_X1_init_1 tyX1_ok nmX1 hP hD hS 0 rfl rfl 1 (by decide) (by decide +kernel) rfl rfl rfl rfl (Nat.le_of_ble_eq_true rfl) rfl dX1_init_11 (fun H locs hP hD hS => ?_)
  refine lv_aload_n hx hb dX1_init_14 rfl (lv_at hl 0 rfl) ?_
  refine lv_sipush (v := 1000) hx hb dX1_init_15 (by decide) ?_
  refine k_put (ws' := [(h0, .inr (1, [.int 2, .int 2, .int 1000, .int 0, .int 0, .int 0, .int 0, .int 0, .int 0, .int 0, .int 0, .int 0, .null, .int 0, .int 0, .null]))]) (ty := tyX1 2) (T := TX1) (C := RX1) (N := 16) (v := .int 1000) cx hi_X1_init_1 tyX1_ok nmX1 hP hD hS 0 rfl rfl 2 (by decide) (by decide +kernel) rfl rfl rfl rfl (Nat.le_of_ble_eq_true rfl) rfl dX1_init_18 (fun H locs hP hD hS => ?_)
  refine lv_aload_n hx hb dX1_init_21 rfl (lv_at hl 0 rfl) ?_
  refine lv_bipush (v := 10) hx hb dX1_init_22 (by decide) ?_
  refine k_put (ws' := [(h0, .inr (1, [.int 2, .int 2, .int 1000, .int 10, .int 0, .int 0, .int 0, .int 0, .int 0, .int 0, .int 0, .int 0, .null, .int 0, .int 0, .null]))]) (ty := tyX1 3) (T := TX1) (C := RX1) (N := 16) (v := .int 10) cx hi_X1_init_1 tyX1_ok nmX1 hP hD hS 0 rfl rfl 3 (by decide) (by decide +kernel) rfl rfl rfl rfl (Nat.le_of_ble_eq_true rfl) rfl dX1_init_24 (fun H locs hP hD hS => ?_)
  refine lv_aload_n hx hb dX1_init_27 rfl (lv_at hl 0 rfl) ?_
  refine lv_iconst (v := 3) hx hb dX1_init_28 (by decide) ?_
  refine k_put (ws' := [(h0, .inr (1, [.int 2, .int 2, .int 1000, .int 10, .int 3, .int 0, .int 0, .int 0, .int 0, .int 0, .int 0, .int 0, .null, .int 0, .int 0, .null]))]) (ty := tyX1 4) (T := TX1) (C := RX1) (N := 16) (v := .int 3) cx hi_X1_init_1 tyX1_ok nmX1 hP hD hS 0 rfl rfl 4 (by decide) (by decide +kernel) rfl rfl rfl rfl (Nat.le_of_ble_eq_true rfl) rfl dX1_init_29 (fun H locs hP hD hS => ?_)
  refine lv_aload_n hx hb dX1_init_32 rfl (lv_at hl 0 rfl) ?_
  refine lv_iconst (v := 4) hx hb dX1_init_33 (by decide) ?_
  refine k_put (ws' := [(h0, .inr (1, [.int 2, .int 2, .int 1000, .int 10, .int 3, .int 0, .int 4, .int 0, .int 0, .int 0, .int 0, .int 0, .null, .int 0, .int 0, .null]))]) (ty := tyX1 6) (T := TX1) (C := RX1) (N := 16) (v := .int 4) cx hi_X1_init_1 tyX1_ok nmX1 hP hD hS 0 rfl rfl 6 (by decide) (by decide +kernel) rfl rfl rfl rfl (Nat.le_of_ble_eq_true rfl) rfl dX1_init_34 (fun H locs hP hD hS => ?_)
  refine lv_aload_n hx hb dX1_init_37 rfl (lv_at hl 0 rfl) ?_
  refine lv_bipush (v := 6) hx hb dX1_init_38 (by decide) ?_
  refine k_newaI (N := 6) cx (by decide +kernel) hP hD hS (by decide) (by decide) (Nat.le_of_ble_eq_true rfl) (Nat.le_of_ble_eq_true rfl) (Nat.le_of_ble_eq_true rfl) dX1_init_40 (fun q1 H hP hD hS => ?_)
  have hP : va_P G.1 vwCl [(h0, .inr (1, [.int 2, .int 2, .int 1000, .int 10, .int 3, .int 0, .int 4, .int 0, .int 0, .int 0, .int 0, .int 0, .null, .int 0, .int 0, .null])), aI G q1 6 (fun _ => 0)] H := hP
  have hD : va_D A [(h0, .inr (1, [.int 2, .int 2, .int 1000, .int 10, .int 3, .int 0, .int 4, .int 0, .int 0, .int 0, .int 0, .int 0, .null, .int 0, .int 0, .null])), aI G q1 6 (fun _ => 0)] := hD
  refine k_putF (ws' := [(h0, .inr (1, [.int 2, .int 2, .int 1000, .int 10, .int 3, .int 0, .int 4, .int 0, .int 0, .int 0, .int 0, .int 0, .ref q1, .int 0, .int 0, .null])), aI G q1 6 (fun _ => 0)]) (ty := tyX1 12) (T := TX1) (C := RX1) (N := 16) (v := .ref q1) cx hin hi_X1_init_1 tyX1_ok nmX1 hP hD hS 0 rfl rfl 12 (by decide) (by decide +kernel) rfl rfl rfl rfl rfl (Nat.le_of_ble_eq_true rfl) rfl dX1_init_42 (fun H locs hP hD hS => ?_)
  refine lv_aload_n hx hb dX1_init_45 rfl (lv_at hl 0 rfl) ?_
  refine k_new (T := TX0) (C := RX0) (N := 3) (ci := 0) (ty := tyX0) (fs := [.null, .int 0, .int 0]) cx hi_X1_init_0 tyX0_ok (by decide +kernel) (by decide +kernel) (by decide +kernel) hP hD hS rfl rfl (Nat.le_of_ble_eq_true rfl) (Nat.le_of_ble_eq_true rfl) dX1_init_46 (fun q2 H hP hD hS => ?_)
  have hP : va_P G.1 vwCl [(h0, .inr (1, [.int 2, .int 2, .int 1000, .int 10, .int 3, .int 0, .int 4, .int 0, .int 0, .int 0, .int 0, .int 0, .ref q1, .int 0, .int 0, .null])), aI G q1 6 (fun _ => 0), (q2, .inr (0, [.null, .int 0, .int 0]))] H := hP
  have hD : va_D A [(h0, .inr (1, [.int 2, .int 2, .int 1000, .int 10, .int 3, .int 0, .int 4, .int 0, .int 0, .int 0, .int 0, .int 0, .ref q1, .int 0, .int 0, .null])), aI G q1 6 (fun _ => 0), (q2, .inr (0, [.null, .int 0, .int 0]))] := hD
  refine lv_dup hx hb dX1_init_49 rfl ?_
  have hP : va_P G.1 vwCl ([(h0, .inr (1, [.int 2, .int 2, .int 1000, .int 10, .int 3, .int 0, .int 4, .int 0, .int 0, .int 0, .int 0, .int 0, .ref q1, .int 0, .int 0, .null])), aI G q1 6 (fun _ => 0)] ++ [(q2, .inr (0, [.null, .int 0, .int 0]))]) H := hP
  have hD : va_D A ([(h0, .inr (1, [.int 2, .int 2, .int 1000, .int 10, .int 3, .int 0, .int 4, .int 0, .int 0, .int 0, .int 0, .int 0, .ref q1, .int 0, .int 0, .null])), aI G q1 6 (fun _ => 0)] ++ [(q2, .inr (0, [.null, .int 0, .int 0]))]) := hD
  refine k_initN (mc := 1) (ms := 80) (ws := [(h0, .inr (1, [.int 2, .int 2, .int 1000, .int 10, .int 3, .int 0, .int 4, .int 0, .int 0, .int 0, .int 0, .int 0, .ref q1, .int 0, .int 0, .null])), aI G q1 6 (fun _ => 0)]) cx hAO (c_X0_init l G q2) gX1_init_X0_init_n36 rfl rfl rfl nn_X1_36 (by decide +kernel) (by decide +kernel) rfl (by decide +kernel) ⟨Nat.le_of_ble_eq_true rfl, Nat.le_of_ble_eq_true rfl⟩ hP hD hS hl (Nat.le_of_ble_eq_true rfl) dX1_init_50 ⟨Nat.le_of_ble_eq_true rfl, Nat.le_of_ble_eq_true rfl⟩ (fun q3 H locs _ hP hD hS => ?_)
  have hP : va_P G.1 vwCl [(h0, .inr (1, [.int 2, .int 2, .int 1000, .int 10, .int 3, .int 0, .int 4, .int 0, .int 0, .int 0, .int 0, .int 0, .ref q1, .int 0, .int 0, .null])), aI G q1 6 (fun _ => 0), (q2, .inr (0, [.ref q3, .int 0, .int 0])), aI G q3 80 (fun _ => 0)] H := hP
  have hD : va_D A [(h0, .inr (1, [.int 2, .int 2, .int 1000, .int 10, .int 3, .int 0, .int 4, .int 0, .int 0, .int 0, .int 0, .int 0, .ref q1, .int 0, .int 0, .null])), aI G q1 6 (fun _ => 0), (q2, .inr (0, [.ref q3, .int 0, .int 0])), aI G q3 80 (fun _ => 0)] := hD
  refine k_putF (ws' := [(h0, .inr (1, [.int 2, .int 2, .int 1000, .int 10, .int 3, .int 0, .int 4, .int 0, .int 0, .int 0, .int 0, .int 0, .ref q1, .int 0, .int 0, .ref q2])), aI G q1 6 (fun _ => 0), (q2, .inr (0, [.ref q3, .int 0, .int 0])), aI G q3 80 (fun _ => 0)]) (ty := tyX1 15) (T := TX1) (C := RX1) (N := 16) (v := .ref q2) cx hin hi_X1_init_1 tyX1_ok nmX1 hP hD hS 0 rfl rfl 15 (by decide) (by decide +kernel) rfl rfl rfl rfl rfl (Nat.le_of_ble_eq_true rfl) rfl dX1_init_53 (fun H locs hP hD hS => ?_)
  refine lv_aload_n hx hb dX1_init_56 rfl (lv_at hl 0 rfl) ?_
  refine lv_sipush (v := 1500) hx hb dX1_init_57 (by decide) ?_
  have hP : va_P G.1 vwCl [oSt h0 q1 q2 stF0, aI G q1 6 (fun _ => 0), oLed q2 q3 (fun _ => 0), aI G q3 80 (fun _ => 0)] H := hP
  have hD : va_D A [oSt h0 q1 q2 stF0, aI G q1 6 (fun _ => 0), oLed q2 q3 (fun _ => 0), aI G q3 80 (fun _ => 0)] := hD
  have hC := c_X1_putUnknown l G h0 q1 q2 stF0 (fun _ => 0) 1500
  refine k_v (ws' := [oSt h0 q1 q2 iSt, aI G q1 6 iOh, oLed q2 q3 (fun _ => 0), aI G q3 80 (fun _ => 0)]) (as := [h0, q1]) cx hP hD hS [0, 1] rfl (kr_V (n := 1) (As := [.int 1500]) (ci := 1) cx hC gX1_init_X1_putUnknown rfl rfl rfl (by decide +kernel) ⟨Nat.le_of_ble_eq_true rfl, Nat.le_of_ble_eq_true rfl⟩ rfl rfl rfl hP hD [0, 1] rfl rfl rfl rfl hl (Nat.le_of_ble_eq_true rfl) dX1_init_60 ⟨Nat.le_of_ble_eq_true rfl, Nat.le_of_ble_eq_true rfl⟩) ⟨rfl, rfl⟩ rfl (fun H locs hP hD hS => ?_)
  exact k_vretN cx (q1, q2, q3) trivial hP hD hS ⟨Nat.le_refl _, Nat.le_refl _⟩ dX1_init_63
