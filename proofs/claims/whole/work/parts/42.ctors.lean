/-! constructors of Ledger, Text, State, the reference -/
theorem hi_X0_init_0 : ∀ w ∈ u_ws RX0 TX0 3, w ∈ wsX0_init := by decide +kernel
abbrev rm_X0_init : Room := { frames := 1, cells := 1, slots := 80, locals := 12 }
set_option maxHeartbeats 4000000 in
set_option maxRecDepth 100000 in
theorem c_X0_init (l : Launch) (G : gG) (h0 : Nat) : kN l G yX0_init wsX0_init rm_X0_init 1 80 h0 (.inr (0, [.null, .int 0, .int 0])) (fun _ : Nat => True) (fun q => [oLed h0 q (fun _ => 0), aI G q 80 (fun _ => 0)]) := by
  refine k_bodyN (cc := cX0_init) (nL := 1) (ret := none) (by decide) rfl rfl (Nat.le_of_ble_eq_true rfl) ?_
  intro p e s m args below meth c A cx hin hAO hP hD hS ls hl
  obtain ⟨hx, hb, hml, hown, hts, hr, hlocks, hK, hA⟩ := id cx
  obtain ⟨H, hH⟩ : ∃ H, H = s.heap := ⟨_, rfl⟩
  obtain ⟨locs, hL⟩ : ∃ locs : List Loc, locs = [] := ⟨_, rfl⟩
  have hS : va_S A s.heap H locs := by rw [hH, hL]; exact hS
  rw [← hH] at hP ⊢
  rw [← hL]
  clear hH hL
  refine lv_aload_n hx hb dX0_init_0 rfl (lv_at hl 0 rfl) ?_
  refine k_obj cx hl (by decide +kernel) (by decide +kernel) (by decide +kernel) ⟨Nat.le_of_ble_eq_true rfl, Nat.le_of_ble_eq_true rfl⟩ dX0_init_1 ?_
  refine lv_aload_n hx hb dX0_init_4 rfl (lv_at hl 0 rfl) ?_
  refine lv_bipush (v := 80) hx hb dX0_init_5 (by decide) ?_
  refine k_newaI (N := 80) cx (by decide +kernel) hP hD hS (by decide) (by decide) (Nat.le_of_ble_eq_true rfl) (Nat.le_of_ble_eq_true rfl) (Nat.le_of_ble_eq_true rfl) dX0_init_7 (fun q1 H hP hD hS => ?_)
  have hP : va_P G.1 vwCl [(h0, .inr (0, [.null, .int 0, .int 0])), aI G q1 80 (fun _ => 0)] H := hP
  have hD : va_D A [(h0, .inr (0, [.null, .int 0, .int 0])), aI G q1 80 (fun _ => 0)] := hD
  refine k_putF (ws' := [(h0, .inr (0, [.ref q1, .int 0, .int 0])), aI G q1 80 (fun _ => 0)]) (ty := tyX0 0) (T := TX0) (C := RX0) (N := 3) (v := .ref q1) cx hin hi_X0_init_0 tyX0_ok nmX0 hP hD hS 0 rfl rfl 0 (by decide) (by decide +kernel) rfl rfl rfl rfl rfl (Nat.le_of_ble_eq_true rfl) rfl dX0_init_9 (fun H locs hP hD hS => ?_)
  exact k_vretN cx (q1) trivial hP hD hS ⟨Nat.le_refl _, Nat.le_refl _⟩ dX0_init_12

theorem hi_X2_init_2 : ∀ w ∈ u_ws RX2 TX2 2, w ∈ wsX2_init := by decide +kernel
abbrev rm_X2_init : Room := { frames := 1, cells := 1, slots := 60, locals := 12 }
set_option maxHeartbeats 4000000 in
set_option maxRecDepth 100000 in
theorem c_X2_init (l : Launch) (G : gG) (h0 : Nat) : kN l G yX2_init wsX2_init rm_X2_init 1 60 h0 (.inr (2, [.null, .int 0])) (fun _ : Nat => True) (fun q => [oTx h0 q (fun _ => 0), aC G q 60 (fun _ => 0)]) := by
  refine k_bodyN (cc := cX2_init) (nL := 1) (ret := none) (by decide) rfl rfl (Nat.le_of_ble_eq_true rfl) ?_
  intro p e s m args below meth c A cx hin hAO hP hD hS ls hl
  obtain ⟨hx, hb, hml, hown, hts, hr, hlocks, hK, hA⟩ := id cx
  obtain ⟨H, hH⟩ : ∃ H, H = s.heap := ⟨_, rfl⟩
  obtain ⟨locs, hL⟩ : ∃ locs : List Loc, locs = [] := ⟨_, rfl⟩
  have hS : va_S A s.heap H locs := by rw [hH, hL]; exact hS
  rw [← hH] at hP ⊢
  rw [← hL]
  clear hH hL
  refine lv_aload_n hx hb dX2_init_0 rfl (lv_at hl 0 rfl) ?_
  refine k_obj cx hl (by decide +kernel) (by decide +kernel) (by decide +kernel) ⟨Nat.le_of_ble_eq_true rfl, Nat.le_of_ble_eq_true rfl⟩ dX2_init_1 ?_
  refine lv_aload_n hx hb dX2_init_4 rfl (lv_at hl 0 rfl) ?_
  refine lv_bipush (v := 60) hx hb dX2_init_5 (by decide) ?_
  refine k_newaC (N := 60) cx (by decide +kernel) hP hD hS (by decide) (by decide) (Nat.le_of_ble_eq_true rfl) (Nat.le_of_ble_eq_true rfl) (Nat.le_of_ble_eq_true rfl) dX2_init_7 (fun q1 H hP hD hS => ?_)
  have hP : va_P G.1 vwCl [(h0, .inr (2, [.null, .int 0])), aC G q1 60 (fun _ => 0)] H := hP
  have hD : va_D A [(h0, .inr (2, [.null, .int 0])), aC G q1 60 (fun _ => 0)] := hD
  refine k_putF (ws' := [(h0, .inr (2, [.ref q1, .int 0])), aC G q1 60 (fun _ => 0)]) (ty := tyX2 0) (T := TX2) (C := RX2) (N := 2) (v := .ref q1) cx hin hi_X2_init_2 tyX2_ok nmX2 hP hD hS 0 rfl rfl 0 (by decide) (by decide +kernel) rfl rfl rfl rfl rfl (Nat.le_of_ble_eq_true rfl) rfl dX2_init_9 (fun H locs hP hD hS => ?_)
  exact k_vretN cx (q1) trivial hP hD hS ⟨Nat.le_refl _, Nat.le_refl _⟩ dX2_init_12

def iNow : Nat → Int32 := (upd (upd (upd (upd (upd (upd (upd (upd (fun _ => 0) 0 2) 1 2) 2 1000) 3 10) 4 3) 6 4) 9 1) 15 1500)
theorem hi_X4_init_4 : ∀ w ∈ u_ws RX4 TX4 11, w ∈ wsX4_init := by decide +kernel
abbrev rm_X4_init : Room := { frames := 1, cells := 7, slots := 1981, locals := 12 }
set_option maxHeartbeats 4000000 in
set_option maxRecDepth 100000 in
theorem c_X4_init (l : Launch) (G : gG) (h0 : Nat) : kN l G yX4_init wsX4_init rm_X4_init 7 1981 h0 (.inr (4, [.int 0, .null, .int 0, .int 0, .null, .null, .null, .null, .int 0, .null, .null])) (fun _ : Nat → Nat => True) (fun u => [oMo h0 (u 1) (u 2) (u 3) (u 4) (u 5) (u 6) (u 7) (fun _ => 0), aI G (u 1) 60 (fun _ => 0), aI G (u 2) 101 (fun _ => 0), aI G (u 3) 101 iNow, aI G (u 4) 101 (fun _ => 0), aI G (u 5) 1414 (fun _ => 0), aI G (u 6) 202 (fun _ => 0), aZ G (u 7) 2 (fun _ => 0)]) := by
  refine k_bodyN (cc := cX4_init) (nL := 1) (ret := none) (by decide) rfl rfl (Nat.le_of_ble_eq_true rfl) ?_
  intro p e s m args below meth c A cx hin hAO hP hD hS ls hl
  obtain ⟨hx, hb, hml, hown, hts, hr, hlocks, hK, hA⟩ := id cx
  obtain ⟨H, hH⟩ : ∃ H, H = s.heap := ⟨_, rfl⟩
  obtain ⟨locs, hL⟩ : ∃ locs : List Loc, locs = [] := ⟨_, rfl⟩
  have hS : va_S A s.heap H locs := by rw [hH, hL]; exact hS
  rw [← hH] at hP ⊢
  rw [← hL]
  clear hH hL
  refine lv_aload_n hx hb dX4_init_0 rfl (lv_at hl 0 rfl) ?_
  refine k_obj cx hl (by decide +kernel) (by decide +kernel) (by decide +kernel) ⟨Nat.le_of_ble_eq_true rfl, Nat.le_of_ble_eq_true rfl⟩ dX4_init_1 ?_
  refine lv_aload_n hx hb dX4_init_4 rfl (lv_at hl 0 rfl) ?_
  refine lv_bipush (v := 60) hx hb dX4_init_5 (by decide) ?_
  refine k_newaI (N := 60) cx (by decide +kernel) hP hD hS (by decide) (by decide) (Nat.le_of_ble_eq_true rfl) (Nat.le_of_ble_eq_true rfl) (Nat.le_of_ble_eq_true rfl) dX4_init_7 (fun q1 H hP hD hS => ?_)
  have hP : va_P G.1 vwCl [(h0, .inr (4, [.int 0, .null, .int 0, .int 0, .null, .null, .null, .null, .int 0, .null, .null])), aI G q1 60 (fun _ => 0)] H := hP
  have hD : va_D A [(h0, .inr (4, [.int 0, .null, .int 0, .int 0, .null, .null, .null, .null, .int 0, .null, .null])), aI G q1 60 (fun _ => 0)] := hD
  refine k_putF (ws' := [(h0, .inr (4, [.int 0, .ref q1, .int 0, .int 0, .null, .null, .null, .null, .int 0, .null, .null])), aI G q1 60 (fun _ => 0)]) (ty := tyX4 1) (T := TX4) (C := RX4) (N := 11) (v := .ref q1) cx hin hi_X4_init_4 tyX4_ok nmX4 hP hD hS 0 rfl rfl 1 (by decide) (by decide +kernel) rfl rfl rfl rfl rfl (Nat.le_of_ble_eq_true rfl) rfl dX4_init_9 (fun H locs hP hD hS => ?_)
  refine lv_aload_n hx hb dX4_init_12 rfl (lv_at hl 0 rfl) ?_
  refine lv_bipush (v := 101) hx hb dX4_init_13 (by decide) ?_
  refine k_newaI (N := 101) cx (by decide +kernel) hP hD hS (by decide) (by decide) (Nat.le_of_ble_eq_true rfl) (Nat.le_of_ble_eq_true rfl) (Nat.le_of_ble_eq_true rfl) dX4_init_15 (fun q2 H hP hD hS => ?_)
  have hP : va_P G.1 vwCl [(h0, .inr (4, [.int 0, .ref q1, .int 0, .int 0, .null, .null, .null, .null, .int 0, .null, .null])), aI G q1 60 (fun _ => 0), aI G q2 101 (fun _ => 0)] H := hP
  have hD : va_D A [(h0, .inr (4, [.int 0, .ref q1, .int 0, .int 0, .null, .null, .null, .null, .int 0, .null, .null])), aI G q1 60 (fun _ => 0), aI G q2 101 (fun _ => 0)] := hD
  refine k_putF (ws' := [(h0, .inr (4, [.int 0, .ref q1, .int 0, .int 0, .ref q2, .null, .null, .null, .int 0, .null, .null])), aI G q1 60 (fun _ => 0), aI G q2 101 (fun _ => 0)]) (ty := tyX4 4) (T := TX4) (C := RX4) (N := 11) (v := .ref q2) cx hin hi_X4_init_4 tyX4_ok nmX4 hP hD hS 0 rfl rfl 4 (by decide) (by decide +kernel) rfl rfl rfl rfl rfl (Nat.le_of_ble_eq_true rfl) rfl dX4_init_17 (fun H locs hP hD hS => ?_)
  refine lv_aload_n hx hb dX4_init_20 rfl (lv_at hl 0 rfl) ?_
  refine lv_bipush (v := 101) hx hb dX4_init_21 (by decide) ?_
  refine k_newaI (N := 101) cx (by decide +kernel) hP hD hS (by decide) (by decide) (Nat.le_of_ble_eq_true rfl) (Nat.le_of_ble_eq_true rfl) (Nat.le_of_ble_eq_true rfl) dX4_init_23 (fun q3 H hP hD hS => ?_)
  have hP : va_P G.1 vwCl [(h0, .inr (4, [.int 0, .ref q1, .int 0, .int 0, .ref q2, .null, .null, .null, .int 0, .null, .null])), aI G q1 60 (fun _ => 0), aI G q2 101 (fun _ => 0), aI G q3 101 (fun _ => 0)] H := hP
  have hD : va_D A [(h0, .inr (4, [.int 0, .ref q1, .int 0, .int 0, .ref q2, .null, .null, .null, .int 0, .null, .null])), aI G q1 60 (fun _ => 0), aI G q2 101 (fun _ => 0), aI G q3 101 (fun _ => 0)] := hD
  refine k_putF (ws' := [(h0, .inr (4, [.int 0, .ref q1, .int 0, .int 0, .ref q2, .ref q3, .null, .null, .int 0, .null, .null])), aI G q1 60 (fun _ => 0), aI G q2 101 (fun _ => 0), aI G q3 101 (fun _ => 0)]) (ty := tyX4 5) (T := TX4) (C := RX4) (N := 11) (v := .ref q3) cx hin hi_X4_init_4 tyX4_ok nmX4 hP hD hS 0 rfl rfl 5 (by decide) (by decide +kernel) rfl rfl rfl rfl rfl (Nat.le_of_ble_eq_true rfl) rfl dX4_init_25 (fun H locs hP hD hS => ?_)
  refine lv_aload_n hx hb dX4_init_28 rfl (lv_at hl 0 rfl) ?_
  refine lv_bipush (v := 101) hx hb dX4_init_29 (by decide) ?_
  refine k_newaI (N := 101) cx (by decide +kernel) hP hD hS (by decide) (by decide) (Nat.le_of_ble_eq_true rfl) (Nat.le_of_ble_eq_true rfl) (Nat.le_of_ble_eq_true rfl) dX4_init_31 (fun q4 H hP hD hS => ?_)
  have hP : va_P G.1 vwCl [(h0, .inr (4, [.int 0, .ref q1, .int 0, .int 0, .ref q2, .ref q3, .null, .null, .int 0, .null, .null])), aI G q1 60 (fun _ => 0), aI G q2 101 (fun _ => 0), aI G q3 101 (fun _ => 0), aI G q4 101 (fun _ => 0)] H := hP
  have hD : va_D A [(h0, .inr (4, [.int 0, .ref q1, .int 0, .int 0, .ref q2, .ref q3, .null, .null, .int 0, .null, .null])), aI G q1 60 (fun _ => 0), aI G q2 101 (fun _ => 0), aI G q3 101 (fun _ => 0), aI G q4 101 (fun _ => 0)] := hD
  refine k_putF (ws' := [(h0, .inr (4, [.int 0, .ref q1, .int 0, .int 0, .ref q2, .ref q3, .ref q4, .null, .int 0, .null, .null])), aI G q1 60 (fun _ => 0), aI G q2 101 (fun _ => 0), aI G q3 101 (fun _ => 0), aI G q4 101 (fun _ => 0)]) (ty := tyX4 6) (T := TX4) (C := RX4) (N := 11) (v := .ref q4) cx hin hi_X4_init_4 tyX4_ok nmX4 hP hD hS 0 rfl rfl 6 (by decide) (by decide +kernel) rfl rfl rfl rfl rfl (Nat.le_of_ble_eq_true rfl) rfl dX4_init_33 (fun H locs hP hD hS => ?_)
  refine lv_aload_n hx hb dX4_init_36 rfl (lv_at hl 0 rfl) ?_
  refine lv_sipush (v := 1414) hx hb dX4_init_37 (by decide) ?_
  refine k_newaI (N := 1414) cx (by decide +kernel) hP hD hS (by decide) (by decide) (Nat.le_of_ble_eq_true rfl) (Nat.le_of_ble_eq_true rfl) (Nat.le_of_ble_eq_true rfl) dX4_init_40 (fun q5 H hP hD hS => ?_)
  have hP : va_P G.1 vwCl [(h0, .inr (4, [.int 0, .ref q1, .int 0, .int 0, .ref q2, .ref q3, .ref q4, .null, .int 0, .null, .null])), aI G q1 60 (fun _ => 0), aI G q2 101 (fun _ => 0), aI G q3 101 (fun _ => 0), aI G q4 101 (fun _ => 0), aI G q5 1414 (fun _ => 0)] H := hP
  have hD : va_D A [(h0, .inr (4, [.int 0, .ref q1, .int 0, .int 0, .ref q2, .ref q3, .ref q4, .null, .int 0, .null, .null])), aI G q1 60 (fun _ => 0), aI G q2 101 (fun _ => 0), aI G q3 101 (fun _ => 0), aI G q4 101 (fun _ => 0), aI G q5 1414 (fun _ => 0)] := hD
  refine k_putF (ws' := [(h0, .inr (4, [.int 0, .ref q1, .int 0, .int 0, .ref q2, .ref q3, .ref q4, .ref q5, .int 0, .null, .null])), aI G q1 60 (fun _ => 0), aI G q2 101 (fun _ => 0), aI G q3 101 (fun _ => 0), aI G q4 101 (fun _ => 0), aI G q5 1414 (fun _ => 0)]) (ty := tyX4 7) (T := TX4) (C := RX4) (N := 11) (v := .ref q5) cx hin hi_X4_init_4 tyX4_ok nmX4 hP hD hS 0 rfl rfl 7 (by decide) (by decide +kernel) rfl rfl rfl rfl rfl (Nat.le_of_ble_eq_true rfl) rfl dX4_init_42 (fun H locs hP hD hS => ?_)
  refine lv_aload_n hx hb dX4_init_45 rfl (lv_at hl 0 rfl) ?_
  refine lv_sipush (v := 202) hx hb dX4_init_46 (by decide) ?_
  refine k_newaI (N := 202) cx (by decide +kernel) hP hD hS (by decide) (by decide) (Nat.le_of_ble_eq_true rfl) (Nat.le_of_ble_eq_true rfl) (Nat.le_of_ble_eq_true rfl) dX4_init_49 (fun q6 H hP hD hS => ?_)
  have hP : va_P G.1 vwCl [(h0, .inr (4, [.int 0, .ref q1, .int 0, .int 0, .ref q2, .ref q3, .ref q4, .ref q5, .int 0, .null, .null])), aI G q1 60 (fun _ => 0), aI G q2 101 (fun _ => 0), aI G q3 101 (fun _ => 0), aI G q4 101 (fun _ => 0), aI G q5 1414 (fun _ => 0), aI G q6 202 (fun _ => 0)] H := hP
  have hD : va_D A [(h0, .inr (4, [.int 0, .ref q1, .int 0, .int 0, .ref q2, .ref q3, .ref q4, .ref q5, .int 0, .null, .null])), aI G q1 60 (fun _ => 0), aI G q2 101 (fun _ => 0), aI G q3 101 (fun _ => 0), aI G q4 101 (fun _ => 0), aI G q5 1414 (fun _ => 0), aI G q6 202 (fun _ => 0)] := hD
  refine k_putF (ws' := [(h0, .inr (4, [.int 0, .ref q1, .int 0, .int 0, .ref q2, .ref q3, .ref q4, .ref q5, .int 0, .ref q6, .null])), aI G q1 60 (fun _ => 0), aI G q2 101 (fun _ => 0), aI G q3 101 (fun _ => 0), aI G q4 101 (fun _ => 0), aI G q5 1414 (fun _ => 0), aI G q6 202 (fun _ => 0)]) (ty := tyX4 9) (T := TX4) (C := RX4) (N := 11) (v := .ref q6) cx hin hi_X4_init_4 tyX4_ok nmX4 hP hD hS 0 rfl rfl 9 (by decide) (by decide +kernel) rfl rfl rfl rfl rfl (Nat.le_of_ble_eq_true rfl) rfl dX4_init_51 (fun H locs hP hD hS => ?_)
  refine lv_aload_n hx hb dX4_init_54 rfl (lv_at hl 0 rfl) ?_
  refine lv_iconst (v := 2) hx hb dX4_init_55 (by decide) ?_
  refine k_newaZ (N := 2) cx (by decide +kernel) hP hD hS (by decide) (by decide) (Nat.le_of_ble_eq_true rfl) (Nat.le_of_ble_eq_true rfl) (Nat.le_of_ble_eq_true rfl) dX4_init_56 (fun q7 H hP hD hS => ?_)
  have hP : va_P G.1 vwCl [(h0, .inr (4, [.int 0, .ref q1, .int 0, .int 0, .ref q2, .ref q3, .ref q4, .ref q5, .int 0, .ref q6, .null])), aI G q1 60 (fun _ => 0), aI G q2 101 (fun _ => 0), aI G q3 101 (fun _ => 0), aI G q4 101 (fun _ => 0), aI G q5 1414 (fun _ => 0), aI G q6 202 (fun _ => 0), aZ G q7 2 (fun _ => 0)] H := hP
  have hD : va_D A [(h0, .inr (4, [.int 0, .ref q1, .int 0, .int 0, .ref q2, .ref q3, .ref q4, .ref q5, .int 0, .ref q6, .null])), aI G q1 60 (fun _ => 0), aI G q2 101 (fun _ => 0), aI G q3 101 (fun _ => 0), aI G q4 101 (fun _ => 0), aI G q5 1414 (fun _ => 0), aI G q6 202 (fun _ => 0), aZ G q7 2 (fun _ => 0)] := hD
  refine k_putF (ws' := [(h0, .inr (4, [.int 0, .ref q1, .int 0, .int 0, .ref q2, .ref q3, .ref q4, .ref q5, .int 0, .ref q6, .ref q7])), aI G q1 60 (fun _ => 0), aI G q2 101 (fun _ => 0), aI G q3 101 (fun _ => 0), aI G q4 101 (fun _ => 0), aI G q5 1414 (fun _ => 0), aI G q6 202 (fun _ => 0), aZ G q7 2 (fun _ => 0)]) (ty := tyX4 10) (T := TX4) (C := RX4) (N := 11) (v := .ref q7) cx hin hi_X4_init_4 tyX4_ok nmX4 hP hD hS 0 rfl rfl 10 (by decide) (by decide +kernel) rfl rfl rfl rfl rfl (Nat.le_of_ble_eq_true rfl) rfl dX4_init_58 (fun H locs hP hD hS => ?_)
  refine lv_aload_n hx hb dX4_init_61 rfl (lv_at hl 0 rfl) ?_
  refine k_get (v := .ref q3) (T := TX4) (C := RX4) (N := 11) cx hi_X4_init_4 hP 0 rfl rfl 5 (by decide) (by decide +kernel) rfl dX4_init_62 ?_
  refine lv_iconst (v := 0) hx hb dX4_init_65 (by decide) ?_
  refine lv_iconst (v := 2) hx hb dX4_init_66 (by decide) ?_
  refine k_iast (ws' := [(h0, .inr (4, [.int 0, .ref q1, .int 0, .int 0, .ref q2, .ref q3, .ref q4, .ref q5, .int 0, .ref q6, .ref q7])), aI G q1 60 (fun _ => 0), aI G q2 101 (fun _ => 0), aI G q3 101 (upd (fun _ => 0) 0 2), aI G q4 101 (fun _ => 0), aI G q5 1414 (fun _ => 0), aI G q6 202 (fun _ => 0), aZ G q7 2 (fun _ => 0)]) (j := 0) cx hP hD hS 3 rfl (by decide) (by unfold vp_in; decide) rfl dX4_init_67 (fun H locs hP hD hS => ?_)
  refine lv_aload_n hx hb dX4_init_68 rfl (lv_at hl 0 rfl) ?_
  refine k_get (v := .ref q3) (T := TX4) (C := RX4) (N := 11) cx hi_X4_init_4 hP 0 rfl rfl 5 (by decide) (by decide +kernel) rfl dX4_init_69 ?_
  refine lv_iconst (v := 1) hx hb dX4_init_72 (by decide) ?_
  refine lv_iconst (v := 2) hx hb dX4_init_73 (by decide) ?_
  refine k_iast (ws' := [(h0, .inr (4, [.int 0, .ref q1, .int 0, .int 0, .ref q2, .ref q3, .ref q4, .ref q5, .int 0, .ref q6, .ref q7])), aI G q1 60 (fun _ => 0), aI G q2 101 (fun _ => 0), aI G q3 101 (upd (upd (fun _ => 0) 0 2) 1 2), aI G q4 101 (fun _ => 0), aI G q5 1414 (fun _ => 0), aI G q6 202 (fun _ => 0), aZ G q7 2 (fun _ => 0)]) (j := 1) cx hP hD hS 3 rfl (by decide) (by unfold vp_in; decide) rfl dX4_init_74 (fun H locs hP hD hS => ?_)
  refine lv_aload_n hx hb dX4_init_75 rfl (lv_at hl 0 rfl) ?_
  refine k_get (v := .ref q3) (T := TX4) (C := RX4) (N := 11) cx hi_X4_init_4 hP 0 rfl rfl 5 (by decide) (by decide +kernel) rfl dX4_init_76 ?_
  refine lv_iconst (v := 2) hx hb dX4_init_79 (by decide) ?_
  refine lv_sipush (v := 1000) hx hb dX4_init_80 (by decide) ?_
  refine k_iast (ws' := [(h0, .inr (4, [.int 0, .ref q1, .int 0, .int 0, .ref q2, .ref q3, .ref q4, .ref q5, .int 0, .ref q6, .ref q7])), aI G q1 60 (fun _ => 0), aI G q2 101 (fun _ => 0), aI G q3 101 (upd (upd (upd (fun _ => 0) 0 2) 1 2) 2 1000), aI G q4 101 (fun _ => 0), aI G q5 1414 (fun _ => 0), aI G q6 202 (fun _ => 0), aZ G q7 2 (fun _ => 0)]) (j := 2) cx hP hD hS 3 rfl (by decide) (by unfold vp_in; decide) rfl dX4_init_83 (fun H locs hP hD hS => ?_)
  refine lv_aload_n hx hb dX4_init_84 rfl (lv_at hl 0 rfl) ?_
  refine k_get (v := .ref q3) (T := TX4) (C := RX4) (N := 11) cx hi_X4_init_4 hP 0 rfl rfl 5 (by decide) (by decide +kernel) rfl dX4_init_85 ?_
  refine lv_iconst (v := 3) hx hb dX4_init_88 (by decide) ?_
  refine lv_bipush (v := 10) hx hb dX4_init_89 (by decide) ?_
  refine k_iast (ws' := [(h0, .inr (4, [.int 0, .ref q1, .int 0, .int 0, .ref q2, .ref q3, .ref q4, .ref q5, .int 0, .ref q6, .ref q7])), aI G q1 60 (fun _ => 0), aI G q2 101 (fun _ => 0), aI G q3 101 (upd (upd (upd (upd (fun _ => 0) 0 2) 1 2) 2 1000) 3 10), aI G q4 101 (fun _ => 0), aI G q5 1414 (fun _ => 0), aI G q6 202 (fun _ => 0), aZ G q7 2 (fun _ => 0)]) (j := 3) cx hP hD hS 3 rfl (by decide) (by unfold vp_in; decide) rfl dX4_init_91 (fun H locs hP hD hS => ?_)
  refine lv_aload_n hx hb dX4_init_92 rfl (lv_at hl 0 rfl) ?_
  refine k_get (v := .ref q3) (T := TX4) (C := RX4) (N := 11) cx hi_X4_init_4 hP 0 rfl rfl 5 (by decide) (by decide +kernel) rfl dX4_init_93 ?_
  refine lv_iconst (v := 4) hx hb dX4_init_96 (by decide) ?_
  refine lv_iconst (v := 3) hx hb dX4_init_97 (by decide) ?_
  refine k_iast (ws' := [(h0, .inr (4, [.int 0, .ref q1, .int 0, .int 0, .ref q2, .ref q3, .ref q4, .ref q5, .int 0, .ref q6, .ref q7])), aI G q1 60 (fun _ => 0), aI G q2 101 (fun _ => 0), aI G q3 101 (upd (upd (upd (upd (upd (fun _ => 0) 0 2) 1 2) 2 1000) 3 10) 4 3), aI G q4 101 (fun _ => 0), aI G q5 1414 (fun _ => 0), aI G q6 202 (fun _ => 0), aZ G q7 2 (fun _ => 0)]) (j := 4) cx hP hD hS 3 rfl (by decide) (by unfold vp_in; decide) rfl dX4_init_98 (fun H locs hP hD hS => ?_)
  refine lv_aload_n hx hb dX4_init_99 rfl (lv_at hl 0 rfl) ?_
  refine k_get (v := .ref q3) (T := TX4) (C := RX4) (N := 11) cx hi_X4_init_4 hP 0 rfl rfl 5 (by decide) (by decide +kernel) rfl dX4_init_100 ?_
  refine lv_bipush (v := 6) hx hb dX4_init_103 (by decide) ?_
  refine lv_iconst (v := 4) hx hb dX4_init_105 (by decide) ?_
  refine k_iast (ws' := [(h0, .inr (4, [.int 0, .ref q1, .int 0, .int 0, .ref q2, .ref q3, .ref q4, .ref q5, .int 0, .ref q6, .ref q7])), aI G q1 60 (fun _ => 0), aI G q2 101 (fun _ => 0), aI G q3 101 (upd (upd (upd (upd (upd (upd (fun _ => 0) 0 2) 1 2) 2 1000) 3 10) 4 3) 6 4), aI G q4 101 (fun _ => 0), aI G q5 1414 (fun _ => 0), aI G q6 202 (fun _ => 0), aZ G q7 2 (fun _ => 0)]) (j := 6) cx hP hD hS 3 rfl (by decide) (by unfold vp_in; decide) rfl dX4_init_106 (fun H locs hP hD hS => ?_)
  refine lv_aload_n hx hb dX4_init_107 rfl (lv_at hl 0 rfl) ?_
  refine k_get (v := .ref q3) (T := TX4) (C := RX4) (N := 11) cx hi_X4_init_4 hP 0 rfl rfl 5 (by decide) (by decide +kernel) rfl dX4_init_108 ?_
  refine lv_bipush (v := 9) hx hb dX4_init_111 (by decide) ?_
  refine lv_iconst (v := 1) hx hb dX4_init_113 (by decide) ?_
  refine k_iast (ws' := [(h0, .inr (4, [.int 0, .ref q1, .int 0, .int 0, .ref q2, .ref q3, .ref q4, .ref q5, .int 0, .ref q6, .ref q7])), aI G q1 60 (fun _ => 0), aI G q2 101 (fun _ => 0), aI G q3 101 (upd (upd (upd (upd (upd (upd (upd (fun _ => 0) 0 2) 1 2) 2 1000) 3 10) 4 3) 6 4) 9 1), aI G q4 101 (fun _ => 0), aI G q5 1414 (fun _ => 0), aI G q6 202 (fun _ => 0), aZ G q7 2 (fun _ => 0)]) (j := 9) cx hP hD hS 3 rfl (by decide) (by unfold vp_in; decide) rfl dX4_init_114 (fun H locs hP hD hS => ?_)
  refine lv_aload_n hx hb dX4_init_115 rfl (lv_at hl 0 rfl) ?_
  refine k_get (v := .ref q3) (T := TX4) (C := RX4) (N := 11) cx hi_X4_init_4 hP 0 rfl rfl 5 (by decide) (by decide +kernel) rfl dX4_init_116 ?_
  refine lv_bipush (v := 15) hx hb dX4_init_119 (by decide) ?_
  refine lv_sipush (v := 1500) hx hb dX4_init_121 (by decide) ?_
  refine k_iast (ws' := [(h0, .inr (4, [.int 0, .ref q1, .int 0, .int 0, .ref q2, .ref q3, .ref q4, .ref q5, .int 0, .ref q6, .ref q7])), aI G q1 60 (fun _ => 0), aI G q2 101 (fun _ => 0), aI G q3 101 (upd (upd (upd (upd (upd (upd (upd (upd (fun _ => 0) 0 2) 1 2) 2 1000) 3 10) 4 3) 6 4) 9 1) 15 1500), aI G q4 101 (fun _ => 0), aI G q5 1414 (fun _ => 0), aI G q6 202 (fun _ => 0), aZ G q7 2 (fun _ => 0)]) (j := 15) cx hP hD hS 3 rfl (by decide) (by unfold vp_in; decide) rfl dX4_init_124 (fun H locs hP hD hS => ?_)
  exact k_vretN cx (fun k => if k = 1 then q1 else if k = 2 then q2 else if k = 3 then q3 else if k = 4 then q4 else if k = 5 then q5 else if k = 6 then q6 else q7) trivial hP hD hS ⟨Nat.le_refl _, Nat.le_refl _⟩ dX4_init_125

def stF0 : Nat → Int32 := fun j => if j = 0 then 2 else if j = 1 then 2 else if j = 2 then 1000 else if j = 3 then 10 else if j = 4 then 3 else if j = 6 then 4 else 0
def iSt : Nat → Int32 := (P_X1_putUnknown stF0 (fun _ => 0) 1500).1
def iOh : Nat → Int32 := (P_X1_putUnknown stF0 (fun _ => 0) 1500).2
/-- a state and what hangs on it: its object, its resistors, its ledger, the ledger's cells -/
abbrev qd : Type := Nat × Nat × Nat × Nat
def bun (G : gG) (q : qd) (f oh lf ce : Nat → Int32) : va_W := [oSt q.1 q.2.1 q.2.2.1 f, aI G q.2.1 6 oh, oLed q.2.2.1 q.2.2.2 lf, aI G q.2.2.2 80 ce]
theorem hi_X1_init_0 : ∀ w ∈ u_ws RX0 TX0 3, w ∈ wsX1_init := by decide +kernel
theorem hi_X1_init_1 : ∀ w ∈ u_ws RX1 TX1 16, w ∈ wsX1_init := by decide +kernel
abbrev rm_X1_init : Room := { frames := 3, cells := 3, slots := 89, locals := 60 }
set_option maxHeartbeats 4000000 in
set_option maxRecDepth 100000 in
theorem c_X1_init (l : Launch) (G : gG) (h0 : Nat) : kN l G yX1_init wsX1_init rm_X1_init 3 89 h0 (.inr (1, [.int 0, .int 0, .int 0, .int 0, .int 0, .int 0, .int 0, .int 0, .int 0, .int 0, .int 0, .int 0, .null, .int 0, .int 0, .null])) (fun _ : Nat × Nat × Nat => True) (fun u => bun G (h0, u) iSt iOh (fun _ => 0) (fun _ => 0)) := by
  refine k_bodyN (cc := cX1_init) (nL := 1) (ret := none) (by decide) rfl rfl (Nat.le_of_ble_eq_true rfl) ?_
  intro p e s m args below meth c A cx hin hAO hP hD hS ls hl
  obtain ⟨hx, hb, hml, hown, hts, hr, hlocks, hK, hA⟩ := id cx
  obtain ⟨H, hH⟩ : ∃ H, H = s.heap := ⟨_, rfl⟩
  obtain ⟨locs, hL⟩ : ∃ locs : List Loc, locs = [] := ⟨_, rfl⟩
  have hS : va_S A s.heap H locs := by rw [hH, hL]; exact hS
  rw [← hH] at hP ⊢
  rw [← hL]
  clear hH hL
  refine lv_aload_n hx hb dX1_init_0 rfl (lv_at hl 0 rfl) ?_
  refine k_obj cx hl (by decide +kernel) (by decide +kernel) (by decide +kernel) ⟨Nat.le_of_ble_eq_true rfl, Nat.le_of_ble_eq_true rfl⟩ dX1_init_1 ?_
  refine lv_aload_n hx hb dX1_init_4 rfl (lv_at hl 0 rfl) ?_
  refine lv_iconst (v := 2) hx hb dX1_init_5 (by decide) ?_
  refine k_put (ws' := [(h0, .inr (1, [.int 2, .int 0, .int 0, .int 0, .int 0, .int 0, .int 0, .int 0, .int 0, .int 0, .int 0, .int 0, .null, .int 0, .int 0, .null]))]) (ty := tyX1 0) (T := TX1) (C := RX1) (N := 16) (v := .int 2) cx hi_X1_init_1 tyX1_ok nmX1 hP hD hS 0 rfl rfl 0 (by decide) (by decide +kernel) rfl rfl rfl rfl (Nat.le_of_ble_eq_true rfl) rfl dX1_init_6 (fun H locs hP hD hS => ?_)
  refine lv_aload_n hx hb dX1_init_9 rfl (lv_at hl 0 rfl) ?_
  refine lv_iconst (v := 2) hx hb dX1_init_10 (by decide) ?_
  refine k_put (ws' := [(h0, .inr (1, [.int 2, .int 2, .int 0, .int 0, .int 0, .int 0, .int 0, .int 0, .int 0, .int 0, .int 0, .int 0, .null, .int 0, .int 0, .null]))]) (ty := tyX1 1) (T := TX1) (C := RX1) (N := 16) (v := .int 2) cx hi_X1_init_1 tyX1_ok nmX1 hP hD hS 0 rfl rfl 1 (by decide) (by decide +kernel) rfl rfl rfl rfl (Nat.le_of_ble_eq_true rfl) rfl dX1_init_11 (fun H locs hP hD hS => ?_)
  refine lv_aload_n hx hb dX1_init_14 rfl (lv_at hl 0 rfl) ?_
  refine lv_sipush (v := 1000) hx hb dX1_init_15 (by decide) ?_
  refine k_put (ws' := [(h0, .inr (1, [.int 2, .int 2, .int 1000, .int 0, .int 0, .int 0, .int 0, .int 0, .int 0, .int 0, .int 0, .int 0, .null, .int 0, .int 0, .null]))]) (ty := tyX1 2) (T := TX1) (C := RX1) (N := 16) (v := .int 1000) cx hi_X1_init_1 tyX1_ok nmX1 hP hD hS 0 rfl rfl 2 (by decide) (by decide +kernel) rfl rfl rfl rfl (Nat.le_of_ble_eq_true rfl) rfl dX1_init_18 (fun H locs hP hD hS => ?_)
  refine lv_aload_n hx hb dX1_init_21 rfl (lv_at hl 0 rfl) ?_
  refine lv_bipush (v := 10) hx hb dX1_init_22 (by decide) ?_
  refine k_put (ws' := [(h0, .inr (1, [.int 2, .int 2, .int 1000, .int 10, .int 0, .int 0, .int 0, .int 0, .int 0, .int 0, .int 0, .int 0, .null, .int 0, .int 0, .null]))]) (ty := tyX1 3) (T := TX1) (C := RX1) (N := 16) (v := .int 10) cx hi_X1_init_1 tyX1_ok nmX1 hP hD hS 0 rfl rfl 3 (by decide) (by decide +kernel) rfl rfl rfl rfl (Nat.le_of_ble_eq_true rfl) rfl dX1_init_24 (fun H locs hP hD hS => ?_)
  refine lv_aload_n hx hb dX1_init_27 rfl (lv_at hl 0 rfl) ?_
  refine lv_iconst (v := 3) hx hb dX1_init_28 (by decide) ?_
  refine k_put (ws' := [(h0, .inr (1, [.int 2, .int 2, .int 1000, .int 10, .int 3, .int 0, .int 0, .int 0, .int 0, .int 0, .int 0, .int 0, .null, .int 0, .int 0, .null]))]) (ty := tyX1 4) (T := TX1) (C := RX1) (N := 16) (v := .int 3) cx hi_X1_init_1 tyX1_ok nmX1 hP hD hS 0 rfl rfl 4 (by decide) (by decide +kernel) rfl rfl rfl rfl (Nat.le_of_ble_eq_true rfl) rfl dX1_init_29 (fun H locs hP hD hS => ?_)
  refine lv_aload_n hx hb dX1_init_32 rfl (lv_at hl 0 rfl) ?_
  refine lv_iconst (v := 4) hx hb dX1_init_33 (by decide) ?_
  refine k_put (ws' := [(h0, .inr (1, [.int 2, .int 2, .int 1000, .int 10, .int 3, .int 0, .int 4, .int 0, .int 0, .int 0, .int 0, .int 0, .null, .int 0, .int 0, .null]))]) (ty := tyX1 6) (T := TX1) (C := RX1) (N := 16) (v := .int 4) cx hi_X1_init_1 tyX1_ok nmX1 hP hD hS 0 rfl rfl 6 (by decide) (by decide +kernel) rfl rfl rfl rfl (Nat.le_of_ble_eq_true rfl) rfl dX1_init_34 (fun H locs hP hD hS => ?_)
  refine lv_aload_n hx hb dX1_init_37 rfl (lv_at hl 0 rfl) ?_
  refine lv_bipush (v := 6) hx hb dX1_init_38 (by decide) ?_
  refine k_newaI (N := 6) cx (by decide +kernel) hP hD hS (by decide) (by decide) (Nat.le_of_ble_eq_true rfl) (Nat.le_of_ble_eq_true rfl) (Nat.le_of_ble_eq_true rfl) dX1_init_40 (fun q1 H hP hD hS => ?_)
  have hP : va_P G.1 vwCl [(h0, .inr (1, [.int 2, .int 2, .int 1000, .int 10, .int 3, .int 0, .int 4, .int 0, .int 0, .int 0, .int 0, .int 0, .null, .int 0, .int 0, .null])), aI G q1 6 (fun _ => 0)] H := hP
  have hD : va_D A [(h0, .inr (1, [.int 2, .int 2, .int 1000, .int 10, .int 3, .int 0, .int 4, .int 0, .int 0, .int 0, .int 0, .int 0, .null, .int 0, .int 0, .null])), aI G q1 6 (fun _ => 0)] := hD
  refine k_putF (ws' := [(h0, .inr (1, [.int 2, .int 2, .int 1000, .int 10, .int 3, .int 0, .int 4, .int 0, .int 0, .int 0, .int 0, .int 0, .ref q1, .int 0, .int 0, .null])), aI G q1 6 (fun _ => 0)]) (ty := tyX1 12) (T := TX1) (C := RX1) (N := 16) (v := .ref q1) cx hin hi_X1_init_1 tyX1_ok nmX1 hP hD hS 0 rfl rfl 12 (by decide) (by decide +kernel) rfl rfl rfl rfl rfl (Nat.le_of_ble_eq_true rfl) rfl dX1_init_42 (fun H locs hP hD hS => ?_)
  refine lv_aload_n hx hb dX1_init_45 rfl (lv_at hl 0 rfl) ?_
  refine k_new (T := TX0) (C := RX0) (N := 3) (ci := 0) (ty := tyX0) (fs := [.null, .int 0, .int 0]) cx hi_X1_init_0 tyX0_ok (by decide +kernel) (by decide +kernel) (by decide +kernel) hP hD hS rfl rfl (Nat.le_of_ble_eq_true rfl) (Nat.le_of_ble_eq_true rfl) dX1_init_46 (fun q2 H hP hD hS => ?_)
  have hP : va_P G.1 vwCl [(h0, .inr (1, [.int 2, .int 2, .int 1000, .int 10, .int 3, .int 0, .int 4, .int 0, .int 0, .int 0, .int 0, .int 0, .ref q1, .int 0, .int 0, .null])), aI G q1 6 (fun _ => 0), (q2, .inr (0, [.null, .int 0, .int 0]))] H := hP
  have hD : va_D A [(h0, .inr (1, [.int 2, .int 2, .int 1000, .int 10, .int 3, .int 0, .int 4, .int 0, .int 0, .int 0, .int 0, .int 0, .ref q1, .int 0, .int 0, .null])), aI G q1 6 (fun _ => 0), (q2, .inr (0, [.null, .int 0, .int 0]))] := hD
  refine lv_dup hx hb dX1_init_49 rfl ?_
  have hP : va_P G.1 vwCl ([(h0, .inr (1, [.int 2, .int 2, .int 1000, .int 10, .int 3, .int 0, .int 4, .int 0, .int 0, .int 0, .int 0, .int 0, .ref q1, .int 0, .int 0, .null])), aI G q1 6 (fun _ => 0)] ++ [(q2, .inr (0, [.null, .int 0, .int 0]))]) H := hP
  have hD : va_D A ([(h0, .inr (1, [.int 2, .int 2, .int 1000, .int 10, .int 3, .int 0, .int 4, .int 0, .int 0, .int 0, .int 0, .int 0, .ref q1, .int 0, .int 0, .null])), aI G q1 6 (fun _ => 0)] ++ [(q2, .inr (0, [.null, .int 0, .int 0]))]) := hD
  refine k_initN (mc := 1) (ms := 80) (ws := [(h0, .inr (1, [.int 2, .int 2, .int 1000, .int 10, .int 3, .int 0, .int 4, .int 0, .int 0, .int 0, .int 0, .int 0, .ref q1, .int 0, .int 0, .null])), aI G q1 6 (fun _ => 0)]) cx hAO (c_X0_init l G q2) gX1_init_X0_init_n36 rfl rfl rfl nn_X1_36 (by decide +kernel) (by decide +kernel) rfl (by decide +kernel) ⟨Nat.le_of_ble_eq_true rfl, Nat.le_of_ble_eq_true rfl⟩ hP hD hS hl (Nat.le_of_ble_eq_true rfl) dX1_init_50 ⟨Nat.le_of_ble_eq_true rfl, Nat.le_of_ble_eq_true rfl⟩ (fun q3 H locs _ hP hD hS => ?_)
  have hP : va_P G.1 vwCl [(h0, .inr (1, [.int 2, .int 2, .int 1000, .int 10, .int 3, .int 0, .int 4, .int 0, .int 0, .int 0, .int 0, .int 0, .ref q1, .int 0, .int 0, .null])), aI G q1 6 (fun _ => 0), (q2, .inr (0, [.ref q3, .int 0, .int 0])), aI G q3 80 (fun _ => 0)] H := hP
  have hD : va_D A [(h0, .inr (1, [.int 2, .int 2, .int 1000, .int 10, .int 3, .int 0, .int 4, .int 0, .int 0, .int 0, .int 0, .int 0, .ref q1, .int 0, .int 0, .null])), aI G q1 6 (fun _ => 0), (q2, .inr (0, [.ref q3, .int 0, .int 0])), aI G q3 80 (fun _ => 0)] := hD
  refine k_putF (ws' := [(h0, .inr (1, [.int 2, .int 2, .int 1000, .int 10, .int 3, .int 0, .int 4, .int 0, .int 0, .int 0, .int 0, .int 0, .ref q1, .int 0, .int 0, .ref q2])), aI G q1 6 (fun _ => 0), (q2, .inr (0, [.ref q3, .int 0, .int 0])), aI G q3 80 (fun _ => 0)]) (ty := tyX1 15) (T := TX1) (C := RX1) (N := 16) (v := .ref q2) cx hin hi_X1_init_1 tyX1_ok nmX1 hP hD hS 0 rfl rfl 15 (by decide) (by decide +kernel) rfl rfl rfl rfl rfl (Nat.le_of_ble_eq_true rfl) rfl dX1_init_53 (fun H locs hP hD hS => ?_)
  refine lv_aload_n hx hb dX1_init_56 rfl (lv_at hl 0 rfl) ?_
  refine lv_sipush (v := 1500) hx hb dX1_init_57 (by decide) ?_
  have hP : va_P G.1 vwCl [oSt h0 q1 q2 stF0, aI G q1 6 (fun _ => 0), oLed q2 q3 (fun _ => 0), aI G q3 80 (fun _ => 0)] H := hP
  have hD : va_D A [oSt h0 q1 q2 stF0, aI G q1 6 (fun _ => 0), oLed q2 q3 (fun _ => 0), aI G q3 80 (fun _ => 0)] := hD
  have hC := c_X1_putUnknown l G h0 q1 q2 stF0 (fun _ => 0) 1500
  refine k_v (ws' := [oSt h0 q1 q2 iSt, aI G q1 6 iOh, oLed q2 q3 (fun _ => 0), aI G q3 80 (fun _ => 0)]) (as := [h0, q1]) cx hP hD hS [0, 1] rfl (kr_V (n := 1) (As := [.int 1500]) (ci := 1) cx hC gX1_init_X1_putUnknown rfl rfl rfl (by decide +kernel) ⟨Nat.le_of_ble_eq_true rfl, Nat.le_of_ble_eq_true rfl⟩ rfl rfl rfl hP hD [0, 1] rfl rfl rfl rfl hl (Nat.le_of_ble_eq_true rfl) dX1_init_60 ⟨Nat.le_of_ble_eq_true rfl, Nat.le_of_ble_eq_true rfl⟩) ⟨rfl, rfl⟩ rfl (fun H locs hP hD hS => ?_)
  exact k_vretN cx (q1, q2, q3) trivial hP hD hS ⟨Nat.le_refl _, Nat.le_refl _⟩ dX1_init_63
