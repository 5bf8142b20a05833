/-! X4_trueOf -/
abbrev rm_X4_trueOf : Room := { frames := 2, cells := 0, slots := 0, locals := 42 }
abbrev Q_X4_trueOf (G : gG) (ra : Nat)  (pg : Nat → Int32) (tgt : Int32) (below : List Frame) (args : Array Value) (s : State) (A : Nat → Prop) : State → Prop := MQ below (qI G tgt [aI G ra 101 pg] A) args s 0 0 A
def P_X4_trueOf (pg : Nat → Int32) (bx : Int32) (sh : Int32) : Int32 := (((((100000 * ((pg 3)).toInt64) * ((P_X4_missing pg (P_X4_unknown pg) bx)).toInt64) / ((P_X4_divisor pg (P_X4_unknown pg) bx)).toInt64) / ((P_X4_ten sh)).toInt64)).toInt32
set_option maxHeartbeats 4000000 in
set_option maxRecDepth 100000 in
theorem c_X4_trueOf (l : Launch) (G : gG) (ra : Nat) (pg : Nat → Int32) (bx : Int32) (sh : Int32) (hpv : PV pg) (hbx : RB bx) : kM l G yX4_trueOf wsX4_trueOf rm_X4_trueOf [.ref ra, .int bx, .int sh] [aI G ra 101 pg] (qI G ((P_X4_trueOf pg bx sh)) [aI G ra 101 pg]) := by
  refine k_body (cc := cX4_trueOf) (nL := 5) (ret := (some .int)) (by decide) rfl (Nat.le_of_ble_eq_true rfl) ?_
  intro p e s m args below meth c A cx hP hD hS ls hl
  obtain ⟨hx, hb, hml, hown, hts, hr, hlocks, hK, hA⟩ := id cx
  obtain ⟨H, hH⟩ : ∃ H, H = s.heap := ⟨_, rfl⟩
  obtain ⟨locs, hL⟩ : ∃ locs : List Loc, locs = [] := ⟨_, rfl⟩
  obtain ⟨tgt, hq⟩ : ∃ tgt, (P_X4_trueOf pg bx sh) = tgt := ⟨_, rfl⟩
  have hS : va_S A s.heap H locs := by rw [hH, hL]; exact hS
  rw [← hH] at hP
  have hl : lv_has ls 5 [(0, .ref ra), (1, .int bx), (2, .int sh)] := hl
  have key : ∀ (H : Heap) (locs : List Loc), va_P G.1 vwCl [aI G ra 101 pg] H → va_D A [aI G ra 101 pg] → va_S A s.heap H locs → W p l e rm_X4_trueOf s m args below meth c H locs 0 0 (Q_X4_trueOf G ra pg tgt below args s A) (F0 m 0 ls []) := by
    clear hP hD hS hH hL
    intro H locs hP hD hS
    unfold P_X4_trueOf at hq
    refine k_ldc2 (v := 100000) cx (by decide +kernel) dX4_trueOf_0 ?_
    refine lv_aload_n hx hb dX4_trueOf_3 rfl (lv_at hl 0 rfl) ?_
    refine lv_iconst (v := 3) hx hb dX4_trueOf_4 (by decide) ?_
    refine k_iald (j := 3) cx hP 0 rfl (by decide) (by unfold vp_in; decide) dX4_trueOf_5 ?_
    refine lv_i2l hx hb dX4_trueOf_6 rfl ?_
    refine lv_lmul hx hb dX4_trueOf_7 ?_
    refine lv_aload_n hx hb dX4_trueOf_8 rfl (lv_at hl 0 rfl) ?_
    refine lv_aload_n hx hb dX4_trueOf_9 rfl (lv_at hl 0 rfl) ?_
    have hC := c_X4_unknown l G ra pg (hpv)
    refine k_i (ws' := [aI G ra 101 pg]) (as := [ra]) cx hP hD hS [0] rfl (kr_S (n := 1) (As := [.ref ra]) cx hC gX4_trueOf_X4_unknown rfl rfl rfl (by decide +kernel) ⟨Nat.le_of_ble_eq_true rfl, Nat.le_of_ble_eq_true rfl⟩ hP hD [0] rfl rfl rfl rfl hl (Nat.le_of_ble_eq_true rfl) dX4_trueOf_10 ⟨Nat.le_refl _, Nat.le_refl _⟩) ⟨rfl, rfl⟩ rfl (fun H locs hP hD hS => ?_)
    refine lv_iload_n hx hb dX4_trueOf_13 rfl (lv_at hl 1 rfl) ?_
    have hC := c_X4_missing l G ra pg (P_X4_unknown pg) bx
    refine k_i (ws' := [aI G ra 101 pg]) (as := [ra]) cx hP hD hS [0] rfl (kr_S (n := 3) (As := [.ref ra, .int (P_X4_unknown pg), .int bx]) cx hC gX4_trueOf_X4_missing rfl rfl rfl (by decide +kernel) ⟨Nat.le_of_ble_eq_true rfl, Nat.le_of_ble_eq_true rfl⟩ hP hD [0] rfl rfl rfl rfl hl (Nat.le_of_ble_eq_true rfl) dX4_trueOf_14 ⟨Nat.le_refl _, Nat.le_refl _⟩) ⟨rfl, rfl⟩ rfl (fun H locs hP hD hS => ?_)
    refine lv_i2l hx hb dX4_trueOf_17 rfl ?_
    refine lv_lmul hx hb dX4_trueOf_18 ?_
    refine lv_aload_n hx hb dX4_trueOf_19 rfl (lv_at hl 0 rfl) ?_
    refine lv_aload_n hx hb dX4_trueOf_20 rfl (lv_at hl 0 rfl) ?_
    have hC := c_X4_unknown l G ra pg (hpv)
    refine k_i (ws' := [aI G ra 101 pg]) (as := [ra]) cx hP hD hS [0] rfl (kr_S (n := 1) (As := [.ref ra]) cx hC gX4_trueOf_X4_unknown rfl rfl rfl (by decide +kernel) ⟨Nat.le_of_ble_eq_true rfl, Nat.le_of_ble_eq_true rfl⟩ hP hD [0] rfl rfl rfl rfl hl (Nat.le_of_ble_eq_true rfl) dX4_trueOf_21 ⟨Nat.le_refl _, Nat.le_refl _⟩) ⟨rfl, rfl⟩ rfl (fun H locs hP hD hS => ?_)
    refine lv_iload_n hx hb dX4_trueOf_24 rfl (lv_at hl 1 rfl) ?_
    have hC := c_X4_divisor l G ra pg (P_X4_unknown pg) bx
    refine k_i (ws' := [aI G ra 101 pg]) (as := [ra]) cx hP hD hS [0] rfl (kr_S (n := 3) (As := [.ref ra, .int (P_X4_unknown pg), .int bx]) cx hC gX4_trueOf_X4_divisor rfl rfl rfl (by decide +kernel) ⟨Nat.le_of_ble_eq_true rfl, Nat.le_of_ble_eq_true rfl⟩ hP hD [0] rfl rfl rfl rfl hl (Nat.le_of_ble_eq_true rfl) dX4_trueOf_25 ⟨Nat.le_refl _, Nat.le_refl _⟩) ⟨rfl, rfl⟩ rfl (fun H locs hP hD hS => ?_)
    refine lv_i2l hx hb dX4_trueOf_28 rfl ?_
    refine lv_ldiv hx hb dX4_trueOf_29 (i64_ne (pv_div hpv hbx)) ?_
    refine lv_lstore_n (lv' := [(3, .long (((100000 * ((pg 3)).toInt64) * ((P_X4_missing pg (P_X4_unknown pg) bx)).toInt64) / ((P_X4_divisor pg (P_X4_unknown pg) bx)).toInt64)), (0, .ref ra), (1, .int bx), (2, .int sh)]) hx hb dX4_trueOf_30 rfl hl (by decide) rfl (fun ls hl => ?_)
    refine lv_lload_n hx hb dX4_trueOf_31 rfl (lv_at hl 0 rfl) ?_
    refine lv_iload_n hx hb dX4_trueOf_32 rfl (lv_at hl 3 rfl) ?_
    have hC := c_X4_ten l G sh
    refine k_i (ws' := [aI G ra 101 pg]) (as := []) cx hP hD hS [] rfl (kr_S (n := 1) (As := [.int sh]) cx hC gX4_trueOf_X4_ten rfl rfl rfl (by decide +kernel) ⟨Nat.le_of_ble_eq_true rfl, Nat.le_of_ble_eq_true rfl⟩ hP hD [] rfl rfl rfl rfl hl (Nat.le_of_ble_eq_true rfl) dX4_trueOf_33 ⟨Nat.le_refl _, Nat.le_refl _⟩) ⟨rfl, rfl⟩ rfl (fun H locs hP hD hS => ?_)
    refine lv_i2l hx hb dX4_trueOf_36 rfl ?_
    refine lv_ldiv hx hb dX4_trueOf_37 (i64_ne (ten_ne _)) ?_
    refine lv_l2i hx hb dX4_trueOf_38 rfl ?_
    subst hq
    exact k_iret cx hP hS dX4_trueOf_39
  subst hL
  subst hH
  subst hq
  exact key _ _ hP hD hS

/-! X4_offsetOf -/
abbrev rm_X4_offsetOf : Room := { frames := 0, cells := 0, slots := 0, locals := 0 }
abbrev Q_X4_offsetOf (G : gG) (ra : Nat)  (pg : Nat → Int32) (tgt : Int32) (below : List Frame) (args : Array Value) (s : State) (A : Nat → Prop) : State → Prop := MQ below (qI G tgt [aI G ra 101 pg] A) args s 0 0 A
def P_X4_offsetOf (pg : Nat → Int32) : Int32 := ((pg 5) + (((pg 7) * (pg 6)) / 100))
set_option maxHeartbeats 4000000 in
set_option maxRecDepth 100000 in
theorem c_X4_offsetOf (l : Launch) (G : gG) (ra : Nat) (pg : Nat → Int32)  : kM l G yX4_offsetOf wsX4_offsetOf rm_X4_offsetOf [.ref ra] [aI G ra 101 pg] (qI G ((P_X4_offsetOf pg)) [aI G ra 101 pg]) := by
  refine k_body (cc := cX4_offsetOf) (nL := 1) (ret := (some .int)) (by decide) rfl (Nat.le_of_ble_eq_true rfl) ?_
  intro p e s m args below meth c A cx hP hD hS ls hl
  obtain ⟨hx, hb, hml, hown, hts, hr, hlocks, hK, hA⟩ := id cx
  obtain ⟨H, hH⟩ : ∃ H, H = s.heap := ⟨_, rfl⟩
  obtain ⟨locs, hL⟩ : ∃ locs : List Loc, locs = [] := ⟨_, rfl⟩
  obtain ⟨tgt, hq⟩ : ∃ tgt, (P_X4_offsetOf pg) = tgt := ⟨_, rfl⟩
  have hS : va_S A s.heap H locs := by rw [hH, hL]; exact hS
  rw [← hH] at hP
  have hl : lv_has ls 1 [(0, .ref ra)] := hl
  have key : ∀ (H : Heap) (locs : List Loc), va_P G.1 vwCl [aI G ra 101 pg] H → va_D A [aI G ra 101 pg] → va_S A s.heap H locs → W p l e rm_X4_offsetOf s m args below meth c H locs 0 0 (Q_X4_offsetOf G ra pg tgt below args s A) (F0 m 0 ls []) := by
    clear hP hD hS hH hL
    intro H locs hP hD hS
    unfold P_X4_offsetOf at hq
    refine lv_aload_n hx hb dX4_offsetOf_0 rfl (lv_at hl 0 rfl) ?_
    refine lv_iconst (v := 5) hx hb dX4_offsetOf_1 (by decide) ?_
    refine k_iald (j := 5) cx hP 0 rfl (by decide) (by unfold vp_in; decide) dX4_offsetOf_2 ?_
    refine lv_aload_n hx hb dX4_offsetOf_3 rfl (lv_at hl 0 rfl) ?_
    refine lv_bipush (v := 7) hx hb dX4_offsetOf_4 (by decide) ?_
    refine k_iald (j := 7) cx hP 0 rfl (by decide) (by unfold vp_in; decide) dX4_offsetOf_6 ?_
    refine lv_aload_n hx hb dX4_offsetOf_7 rfl (lv_at hl 0 rfl) ?_
    refine lv_bipush (v := 6) hx hb dX4_offsetOf_8 (by decide) ?_
    refine k_iald (j := 6) cx hP 0 rfl (by decide) (by unfold vp_in; decide) dX4_offsetOf_10 ?_
    refine lv_imul hx hb dX4_offsetOf_11 ?_
    refine lv_bipush (v := 100) hx hb dX4_offsetOf_12 (by decide) ?_
    refine lv_idiv hx hb dX4_offsetOf_14 (by decide) ?_
    refine lv_iadd hx hb dX4_offsetOf_15 ?_
    subst hq
    exact k_iret cx hP hS dX4_offsetOf_16
  subst hL
  subst hH
  subst hq
  exact key _ _ hP hD hS

/-! X4_rawOf -/
abbrev rm_X4_rawOf : Room := { frames := 3, cells := 0, slots := 0, locals := 66 }
abbrev Q_X4_rawOf (G : gG) (ra : Nat)  (pg : Nat → Int32) (tgt : Int32) (below : List Frame) (args : Array Value) (s : State) (A : Nat → Prop) : State → Prop := MQ below (qI G tgt [aI G ra 101 pg] A) args s 0 0 A
def P_X4_rawOf (pg : Nat → Int32) (rv : Int32) (sh : Int32) : Int32 := (let j23 := fun (j23_s0 : Int32) => ((P_X4_offsetOf pg) + j23_s0); (if rv = 0 then (j23 (P_X4_trueOf pg (pg 2) sh)) else (j23 (-(P_X4_trueOf pg (pg 2) sh)))))
set_option maxHeartbeats 4000000 in
set_option maxRecDepth 100000 in
theorem c_X4_rawOf (l : Launch) (G : gG) (ra : Nat) (pg : Nat → Int32) (rv : Int32) (sh : Int32) (hpv : PV pg) : kM l G yX4_rawOf wsX4_rawOf rm_X4_rawOf [.ref ra, .int rv, .int sh] [aI G ra 101 pg] (qI G ((P_X4_rawOf pg rv sh)) [aI G ra 101 pg]) := by
  refine k_body (cc := cX4_rawOf) (nL := 4) (ret := (some .int)) (by decide) rfl (Nat.le_of_ble_eq_true rfl) ?_
  intro p e s m args below meth c A cx hP hD hS ls hl
  obtain ⟨hx, hb, hml, hown, hts, hr, hlocks, hK, hA⟩ := id cx
  obtain ⟨H, hH⟩ : ∃ H, H = s.heap := ⟨_, rfl⟩
  obtain ⟨locs, hL⟩ : ∃ locs : List Loc, locs = [] := ⟨_, rfl⟩
  obtain ⟨tgt, hq⟩ : ∃ tgt, (P_X4_rawOf pg rv sh) = tgt := ⟨_, rfl⟩
  have hS : va_S A s.heap H locs := by rw [hH, hL]; exact hS
  rw [← hH] at hP
  have hl : lv_has ls 4 [(0, .ref ra), (1, .int rv), (2, .int sh)] := hl
  have key : ∀ (H : Heap) (locs : List Loc), va_P G.1 vwCl [aI G ra 101 pg] H → va_D A [aI G ra 101 pg] → va_S A s.heap H locs → W p l e rm_X4_rawOf s m args below meth c H locs 0 0 (Q_X4_rawOf G ra pg tgt below args s A) (F0 m 0 ls []) := by
    clear hP hD hS hH hL
    intro H locs hP hD hS
    unfold P_X4_rawOf at hq
    refine lv_aload_n hx hb dX4_rawOf_0 rfl (lv_at hl 0 rfl) ?_
    refine lv_aload_n hx hb dX4_rawOf_1 rfl (lv_at hl 0 rfl) ?_
    refine lv_iconst (v := 2) hx hb dX4_rawOf_2 (by decide) ?_
    refine k_iald (j := 2) cx hP 0 rfl (by decide) (by unfold vp_in; decide) dX4_rawOf_3 ?_
    refine lv_iload_n hx hb dX4_rawOf_4 rfl (lv_at hl 2 rfl) ?_
    have hC := c_X4_trueOf l G ra pg (pg 2) sh (hpv) (pv_r hpv)
    refine k_i (ws' := [aI G ra 101 pg]) (as := [ra]) cx hP hD hS [0] rfl (kr_S (n := 3) (As := [.ref ra, .int (pg 2), .int sh]) cx hC gX4_rawOf_X4_trueOf rfl rfl rfl (by decide +kernel) ⟨Nat.le_of_ble_eq_true rfl, Nat.le_of_ble_eq_true rfl⟩ hP hD [0] rfl rfl rfl rfl hl (Nat.le_of_ble_eq_true rfl) dX4_rawOf_5 ⟨Nat.le_refl _, Nat.le_refl _⟩) ⟨rfl, rfl⟩ rfl (fun H locs hP hD hS => ?_)
    refine lv_istore_n (lv' := [(3, .int (P_X4_trueOf pg (pg 2) sh)), (0, .ref ra), (1, .int rv), (2, .int sh)]) hx hb dX4_rawOf_8 rfl hl (by decide) rfl (fun ls hl => ?_)
    refine lv_aload_n hx hb dX4_rawOf_9 rfl (lv_at hl 1 rfl) ?_
    have hC := c_X4_offsetOf l G ra pg
    refine k_i (ws' := [aI G ra 101 pg]) (as := [ra]) cx hP hD hS [0] rfl (kr_S (n := 1) (As := [.ref ra]) cx hC gX4_rawOf_X4_offsetOf rfl rfl rfl (by decide +kernel) ⟨Nat.le_of_ble_eq_true rfl, Nat.le_of_ble_eq_true rfl⟩ hP hD [0] rfl rfl rfl rfl hl (Nat.le_of_ble_eq_true rfl) dX4_rawOf_10 ⟨Nat.le_refl _, Nat.le_refl _⟩) ⟨rfl, rfl⟩ rfl (fun H locs hP hD hS => ?_)
    refine lv_iload_n hx hb dX4_rawOf_13 rfl (lv_at hl 2 rfl) ?_
    have J23 : ∀ (j23_s0 : Int32), ((P_X4_offsetOf pg) + j23_s0) = tgt → ∀ (H : Heap) (locs : List Loc) (ls : Array Slot), va_P G.1 vwCl [aI G ra 101 pg] H → va_D A [aI G ra 101 pg] → va_S A s.heap H locs → lv_has ls 4 [(0, .ref ra)] → W p l e rm_X4_rawOf s m args below meth c H locs 0 0 (Q_X4_rawOf G ra pg tgt below args s A) (F0 m 23 ls [.int j23_s0, .int (P_X4_offsetOf pg)]) := by
      intro j23_s0 hq H locs ls hP hD hS hl
      refine lv_iadd hx hb dX4_rawOf_23 ?_
      subst hq
      exact k_iret cx hP hS dX4_rawOf_24
    refine lv_if_eq (tgt := 22) hx hb dX4_rawOf_14 (by decide) (fun c_14 => ?_) (fun c_14 => ?_)
    · replace hq := (if_pos c_14).symm.trans hq
      refine lv_iload_n hx hb dX4_rawOf_22 rfl (lv_at hl 0 rfl) ?_
      exact J23 (P_X4_trueOf pg (pg 2) sh) hq H locs ls hP hD hS (lv_sub hl [1] rfl)
    · replace hq := (if_neg c_14).symm.trans hq
      refine lv_iload_n hx hb dX4_rawOf_17 rfl (lv_at hl 0 rfl) ?_
      refine lv_ineg hx hb dX4_rawOf_18 ?_
      refine lv_goto (tgt := 23) hx hb dX4_rawOf_19 (by decide) ?_
      exact J23 (-(P_X4_trueOf pg (pg 2) sh)) hq H locs ls hP hD hS (lv_sub hl [1] rfl)
  subst hL
  subst hH
  subst hq
  exact key _ _ hP hD hS

/-! X4_pressOn -/
abbrev rm_X4_pressOn : Room := { frames := 4, cells := 0, slots := 0, locals := 89 }
abbrev Q_X4_pressOn (G : gG) (ra : Nat)   (tgt : Int32 × (Nat → Int32)) (below : List Frame) (args : Array Value) (s : State) (A : Nat → Prop) : State → Prop := MQ below (qI G tgt.1 [aI G ra 101 tgt.2] A) args s 0 0 A
def P_X4_pressOn_41 (rv : Int32) : Nat → Int32 → Int32 → Int32 → (Nat → Int32) → Int32 × (Nat → Int32)
  | 0, _, _, _, _ => (0, (fun _ => 0))
  | n + 1, v2, v3, v4, pg => (if v4 < 25 then (let j81 := fun (j81_s0 : Int32) => (let j120 := fun (j120_s0 : Int32) => (let j148 := fun (j148_s0 : Int32) => (let j165 := fun (j165_s0 : Int32) => (let j183 := fun (j183_s0 : Int32) => (let j215 := fun (j215_s0 : Int32) => (v3, (upd (upd (upd (upd (upd (upd (upd (upd (upd (upd pg 21 v3) 22 j81_s0) 23 (pg 2)) 24 (pg 8)) 12 j120_s0) 13 ((pg 13) + 1)) 14 ((pg 14) + j165_s0)) 11 j183_s0) 7 j215_s0) 8 ((pg 8) + 1))); (if ((pg 7) + (pg 3)) ≤ 9999 then (j215 ((pg 7) + (pg 3))) else (j215 9999))); (if j148_s0 = 0 then (j183 (pg 11)) else (j183 1))); (if j148_s0 = 0 then (j165 0) else (j165 1))); let j143 := fun (_ : Unit) => (j148 1); (if v2 < (-5000) then (j143 ()) else (if v2 ≤ 5000 then (j148 0) else (j143 ())))); (if 20 ≤ (pg 12) then (j120 20) else (j120 ((pg 12) + 1)))); (if rv = 0 then (j81 1) else (j81 (-1)))) else (P_X4_pressOn_41 rv n v2 v3 (v4 + (-1)) (upd pg v4.toNatClampNeg (pg (v4 - 4).toNatClampNeg))))
set_option maxHeartbeats 4000000 in
set_option maxRecDepth 100000 in
theorem b_X4_pressOn_41 {p : Program} {l : Launch} {e : Env} {s : State} {m : MethodId} {args : Array Value} {below : List Frame} {meth : Method} {c : Code} {G : gG} {A : Nat → Prop} (cx : Cx p s m args meth c cX4_pressOn 5 yX4_pressOn.cls wsX4_pressOn (some .int) G A) (ra : Nat) (rv : Int32)   (tgt : Int32 × (Nat → Int32)) : ∀ (n : Nat) (v2 : Int32) (v3 : Int32) (v4 : Int32) (pg : Nat → Int32) (h1 : v4.toInt ≤ 100) (hm : ((v4 : Int32).toInt - 24).toNat < n) (hq : P_X4_pressOn_41  rv n v2 v3 v4 pg = tgt) (H : Heap) (locs : List Loc) (hP : va_P G.1 vwCl [aI G ra 101 pg] H) (hD : va_D A [aI G ra 101 pg]) (hS : va_S A s.heap H locs) (ls : Array Slot) (hl : lv_has ls 5 [(0, .ref ra), (1, .int rv), (2, .int v2), (3, .int v3), (4, .int v4)]), W p l e rm_X4_pressOn s m args below meth c H locs 0 0 (Q_X4_pressOn G ra tgt below args s A) (F0 m 41 ls []) := by
  obtain ⟨hx, hb, hml, hown, hts, hr, hlocks, hK, hA⟩ := id cx
  intro n
  induction n with
  | zero => intros; omega
  | succ n ih =>
    intro v2 v3 v4 pg h1 hm hq H locs hP hD hS ls hl
    unfold P_X4_pressOn_41 at hq
    refine lv_iload hx hb dX4_pressOn_41 (lv_at hl 4 rfl) ?_
    refine lv_bipush (v := 25) hx hb dX4_pressOn_43 (by decide) ?_
    refine lv_icmp_lt (tgt := 64) hx hb dX4_pressOn_45 (by decide) (fun c_45 => ?_) (fun c_45 => ?_)
    · replace hq := (if_pos c_45).symm.trans hq
      refine lv_aload_n hx hb dX4_pressOn_64 rfl (lv_at hl 0 rfl) ?_
      refine lv_bipush (v := 21) hx hb dX4_pressOn_65 (by decide) ?_
      refine lv_iload_n hx hb dX4_pressOn_67 rfl (lv_at hl 3 rfl) ?_
      refine k_iast (ws' := [aI G ra 101 (upd pg 21 v3)]) (j := 21) cx hP hD hS 0 rfl (by decide) (by unfold vp_in; decide) rfl dX4_pressOn_68 (fun H locs hP hD hS => ?_)
      refine lv_aload_n hx hb dX4_pressOn_69 rfl (lv_at hl 0 rfl) ?_
      refine lv_bipush (v := 22) hx hb dX4_pressOn_70 (by decide) ?_
      refine lv_iload_n hx hb dX4_pressOn_72 rfl (lv_at hl 1 rfl) ?_
      have J81 : ∀ (j81_s0 : Int32), (let j120 := fun (j120_s0 : Int32) => (let j148 := fun (j148_s0 : Int32) => (let j165 := fun (j165_s0 : Int32) => (let j183 := fun (j183_s0 : Int32) => (let j215 := fun (j215_s0 : Int32) => (v3, (upd (upd (upd (upd (upd (upd (upd (upd (upd (upd pg 21 v3) 22 j81_s0) 23 (pg 2)) 24 (pg 8)) 12 j120_s0) 13 ((pg 13) + 1)) 14 ((pg 14) + j165_s0)) 11 j183_s0) 7 j215_s0) 8 ((pg 8) + 1))); (if ((pg 7) + (pg 3)) ≤ 9999 then (j215 ((pg 7) + (pg 3))) else (j215 9999))); (if j148_s0 = 0 then (j183 (pg 11)) else (j183 1))); (if j148_s0 = 0 then (j165 0) else (j165 1))); let j143 := fun (_ : Unit) => (j148 1); (if v2 < (-5000) then (j143 ()) else (if v2 ≤ 5000 then (j148 0) else (j143 ())))); (if 20 ≤ (pg 12) then (j120 20) else (j120 ((pg 12) + 1)))) = tgt → ∀ (H : Heap) (locs : List Loc) (ls : Array Slot), va_P G.1 vwCl [aI G ra 101 (upd pg 21 v3)] H → va_D A [aI G ra 101 (upd pg 21 v3)] → va_S A s.heap H locs → lv_has ls 5 [(0, .ref ra), (2, .int v2), (3, .int v3)] → W p l e rm_X4_pressOn s m args below meth c H locs 0 0 (Q_X4_pressOn G ra tgt below args s A) (F0 m 81 ls [.int j81_s0, .int 22, .ref ra]) := by
        intro j81_s0 hq H locs ls hP hD hS hl
        refine k_iast (ws' := [aI G ra 101 (upd (upd pg 21 v3) 22 j81_s0)]) (j := 22) cx hP hD hS 0 rfl (by decide) (by unfold vp_in; decide) rfl dX4_pressOn_81 (fun H locs hP hD hS => ?_)
        refine lv_aload_n hx hb dX4_pressOn_82 rfl (lv_at hl 0 rfl) ?_
        refine lv_bipush (v := 23) hx hb dX4_pressOn_83 (by decide) ?_
        refine lv_aload_n hx hb dX4_pressOn_85 rfl (lv_at hl 0 rfl) ?_
        refine lv_iconst (v := 2) hx hb dX4_pressOn_86 (by decide) ?_
        refine k_iald (j := 2) cx hP 0 rfl (by decide) (by unfold vp_in; decide) dX4_pressOn_87 ?_
        refine k_iast (ws' := [aI G ra 101 (upd (upd (upd pg 21 v3) 22 j81_s0) 23 (pg 2))]) (j := 23) cx hP hD hS 0 rfl (by decide) (by unfold vp_in; decide) rfl dX4_pressOn_88 (fun H locs hP hD hS => ?_)
        refine lv_aload_n hx hb dX4_pressOn_89 rfl (lv_at hl 0 rfl) ?_
        refine lv_bipush (v := 24) hx hb dX4_pressOn_90 (by decide) ?_
        refine lv_aload_n hx hb dX4_pressOn_92 rfl (lv_at hl 0 rfl) ?_
        refine lv_bipush (v := 8) hx hb dX4_pressOn_93 (by decide) ?_
        refine k_iald (j := 8) cx hP 0 rfl (by decide) (by unfold vp_in; decide) dX4_pressOn_95 ?_
        refine k_iast (ws' := [aI G ra 101 (upd (upd (upd (upd pg 21 v3) 22 j81_s0) 23 (pg 2)) 24 (pg 8))]) (j := 24) cx hP hD hS 0 rfl (by decide) (by unfold vp_in; decide) rfl dX4_pressOn_96 (fun H locs hP hD hS => ?_)
        refine lv_aload_n hx hb dX4_pressOn_97 rfl (lv_at hl 0 rfl) ?_
        refine lv_bipush (v := 12) hx hb dX4_pressOn_98 (by decide) ?_
        refine lv_aload_n hx hb dX4_pressOn_100 rfl (lv_at hl 0 rfl) ?_
        refine lv_bipush (v := 12) hx hb dX4_pressOn_101 (by decide) ?_
        refine k_iald (j := 12) cx hP 0 rfl (by decide) (by unfold vp_in; decide) dX4_pressOn_103 ?_
        refine lv_bipush (v := 20) hx hb dX4_pressOn_104 (by decide) ?_
        have J120 : ∀ (j120_s0 : Int32), (let j148 := fun (j148_s0 : Int32) => (let j165 := fun (j165_s0 : Int32) => (let j183 := fun (j183_s0 : Int32) => (let j215 := fun (j215_s0 : Int32) => (v3, (upd (upd (upd (upd (upd (upd (upd (upd (upd (upd pg 21 v3) 22 j81_s0) 23 (pg 2)) 24 (pg 8)) 12 j120_s0) 13 ((pg 13) + 1)) 14 ((pg 14) + j165_s0)) 11 j183_s0) 7 j215_s0) 8 ((pg 8) + 1))); (if ((pg 7) + (pg 3)) ≤ 9999 then (j215 ((pg 7) + (pg 3))) else (j215 9999))); (if j148_s0 = 0 then (j183 (pg 11)) else (j183 1))); (if j148_s0 = 0 then (j165 0) else (j165 1))); let j143 := fun (_ : Unit) => (j148 1); (if v2 < (-5000) then (j143 ()) else (if v2 ≤ 5000 then (j148 0) else (j143 ())))) = tgt → ∀ (H : Heap) (locs : List Loc) (ls : Array Slot), va_P G.1 vwCl [aI G ra 101 (upd (upd (upd (upd pg 21 v3) 22 j81_s0) 23 (pg 2)) 24 (pg 8))] H → va_D A [aI G ra 101 (upd (upd (upd (upd pg 21 v3) 22 j81_s0) 23 (pg 2)) 24 (pg 8))] → va_S A s.heap H locs → lv_has ls 5 [(0, .ref ra), (2, .int v2), (3, .int v3)] → W p l e rm_X4_pressOn s m args below meth c H locs 0 0 (Q_X4_pressOn G ra tgt below args s A) (F0 m 120 ls [.int j120_s0, .int 12, .ref ra]) := by
          intro j120_s0 hq H locs ls hP hD hS hl
          refine k_iast (ws' := [aI G ra 101 (upd (upd (upd (upd (upd pg 21 v3) 22 j81_s0) 23 (pg 2)) 24 (pg 8)) 12 j120_s0)]) (j := 12) cx hP hD hS 0 rfl (by decide) (by unfold vp_in; decide) rfl dX4_pressOn_120 (fun H locs hP hD hS => ?_)
          refine lv_aload_n hx hb dX4_pressOn_121 rfl (lv_at hl 0 rfl) ?_
          refine lv_bipush (v := 13) hx hb dX4_pressOn_122 (by decide) ?_
          refine lv_dup2_11 hx hb dX4_pressOn_124 rfl rfl ?_
          refine k_iald (j := 13) cx hP 0 rfl (by decide) (by unfold vp_in; decide) dX4_pressOn_125 ?_
          refine lv_iconst (v := 1) hx hb dX4_pressOn_126 (by decide) ?_
          refine lv_iadd hx hb dX4_pressOn_127 ?_
          refine k_iast (ws' := [aI G ra 101 (upd (upd (upd (upd (upd (upd pg 21 v3) 22 j81_s0) 23 (pg 2)) 24 (pg 8)) 12 j120_s0) 13 ((pg 13) + 1))]) (j := 13) cx hP hD hS 0 rfl (by decide) (by unfold vp_in; decide) rfl dX4_pressOn_128 (fun H locs hP hD hS => ?_)
          refine lv_iload_n hx hb dX4_pressOn_129 rfl (lv_at hl 1 rfl) ?_
          refine lv_sipush (v := (-5000)) hx hb dX4_pressOn_130 (by decide) ?_
          have J148 : ∀ (j148_s0 : Int32), (let j165 := fun (j165_s0 : Int32) => (let j183 := fun (j183_s0 : Int32) => (let j215 := fun (j215_s0 : Int32) => (v3, (upd (upd (upd (upd (upd (upd (upd (upd (upd (upd pg 21 v3) 22 j81_s0) 23 (pg 2)) 24 (pg 8)) 12 j120_s0) 13 ((pg 13) + 1)) 14 ((pg 14) + j165_s0)) 11 j183_s0) 7 j215_s0) 8 ((pg 8) + 1))); (if ((pg 7) + (pg 3)) ≤ 9999 then (j215 ((pg 7) + (pg 3))) else (j215 9999))); (if j148_s0 = 0 then (j183 (pg 11)) else (j183 1))); (if j148_s0 = 0 then (j165 0) else (j165 1))) = tgt → ∀ (H : Heap) (locs : List Loc) (ls : Array Slot), va_P G.1 vwCl [aI G ra 101 (upd (upd (upd (upd (upd (upd pg 21 v3) 22 j81_s0) 23 (pg 2)) 24 (pg 8)) 12 j120_s0) 13 ((pg 13) + 1))] H → va_D A [aI G ra 101 (upd (upd (upd (upd (upd (upd pg 21 v3) 22 j81_s0) 23 (pg 2)) 24 (pg 8)) 12 j120_s0) 13 ((pg 13) + 1))] → va_S A s.heap H locs → lv_has ls 5 [(0, .ref ra), (3, .int v3)] → W p l e rm_X4_pressOn s m args below meth c H locs 0 0 (Q_X4_pressOn G ra tgt below args s A) (F0 m 148 ls [.int j148_s0]) := by
            intro j148_s0 hq H locs ls hP hD hS hl
            refine lv_istore (lv' := [(4, .int j148_s0), (0, .ref ra), (3, .int v3)]) hx hb dX4_pressOn_148 hl (by decide) rfl (fun ls hl => ?_)
            refine lv_aload_n hx hb dX4_pressOn_150 rfl (lv_at hl 1 rfl) ?_
            refine lv_bipush (v := 14) hx hb dX4_pressOn_151 (by decide) ?_
            refine lv_dup2_11 hx hb dX4_pressOn_153 rfl rfl ?_
            refine k_iald (j := 14) cx hP 0 rfl (by decide) (by unfold vp_in; decide) dX4_pressOn_154 ?_
            refine lv_iload hx hb dX4_pressOn_155 (lv_at hl 0 rfl) ?_
            have J165 : ∀ (j165_s0 : Int32), (let j183 := fun (j183_s0 : Int32) => (let j215 := fun (j215_s0 : Int32) => (v3, (upd (upd (upd (upd (upd (upd (upd (upd (upd (upd pg 21 v3) 22 j81_s0) 23 (pg 2)) 24 (pg 8)) 12 j120_s0) 13 ((pg 13) + 1)) 14 ((pg 14) + j165_s0)) 11 j183_s0) 7 j215_s0) 8 ((pg 8) + 1))); (if ((pg 7) + (pg 3)) ≤ 9999 then (j215 ((pg 7) + (pg 3))) else (j215 9999))); (if j148_s0 = 0 then (j183 (pg 11)) else (j183 1))) = tgt → ∀ (H : Heap) (locs : List Loc) (ls : Array Slot), va_P G.1 vwCl [aI G ra 101 (upd (upd (upd (upd (upd (upd pg 21 v3) 22 j81_s0) 23 (pg 2)) 24 (pg 8)) 12 j120_s0) 13 ((pg 13) + 1))] H → va_D A [aI G ra 101 (upd (upd (upd (upd (upd (upd pg 21 v3) 22 j81_s0) 23 (pg 2)) 24 (pg 8)) 12 j120_s0) 13 ((pg 13) + 1))] → va_S A s.heap H locs → lv_has ls 5 [(0, .ref ra), (3, .int v3), (4, .int j148_s0)] → W p l e rm_X4_pressOn s m args below meth c H locs 0 0 (Q_X4_pressOn G ra tgt below args s A) (F0 m 165 ls [.int j165_s0, .int (pg 14), .int 14, .ref ra]) := by
              intro j165_s0 hq H locs ls hP hD hS hl
              refine lv_iadd hx hb dX4_pressOn_165 ?_
              refine k_iast (ws' := [aI G ra 101 (upd (upd (upd (upd (upd (upd (upd pg 21 v3) 22 j81_s0) 23 (pg 2)) 24 (pg 8)) 12 j120_s0) 13 ((pg 13) + 1)) 14 ((pg 14) + j165_s0))]) (j := 14) cx hP hD hS 0 rfl (by decide) (by unfold vp_in; decide) rfl dX4_pressOn_166 (fun H locs hP hD hS => ?_)
              refine lv_aload_n hx hb dX4_pressOn_167 rfl (lv_at hl 0 rfl) ?_
              refine lv_bipush (v := 11) hx hb dX4_pressOn_168 (by decide) ?_
              refine lv_iload hx hb dX4_pressOn_170 (lv_at hl 2 rfl) ?_
              have J183 : ∀ (j183_s0 : Int32), (let j215 := fun (j215_s0 : Int32) => (v3, (upd (upd (upd (upd (upd (upd (upd (upd (upd (upd pg 21 v3) 22 j81_s0) 23 (pg 2)) 24 (pg 8)) 12 j120_s0) 13 ((pg 13) + 1)) 14 ((pg 14) + j165_s0)) 11 j183_s0) 7 j215_s0) 8 ((pg 8) + 1))); (if ((pg 7) + (pg 3)) ≤ 9999 then (j215 ((pg 7) + (pg 3))) else (j215 9999))) = tgt → ∀ (H : Heap) (locs : List Loc) (ls : Array Slot), va_P G.1 vwCl [aI G ra 101 (upd (upd (upd (upd (upd (upd (upd pg 21 v3) 22 j81_s0) 23 (pg 2)) 24 (pg 8)) 12 j120_s0) 13 ((pg 13) + 1)) 14 ((pg 14) + j165_s0))] H → va_D A [aI G ra 101 (upd (upd (upd (upd (upd (upd (upd pg 21 v3) 22 j81_s0) 23 (pg 2)) 24 (pg 8)) 12 j120_s0) 13 ((pg 13) + 1)) 14 ((pg 14) + j165_s0))] → va_S A s.heap H locs → lv_has ls 5 [(0, .ref ra), (3, .int v3)] → W p l e rm_X4_pressOn s m args below meth c H locs 0 0 (Q_X4_pressOn G ra tgt below args s A) (F0 m 183 ls [.int j183_s0, .int 11, .ref ra]) := by
                intro j183_s0 hq H locs ls hP hD hS hl
                refine k_iast (ws' := [aI G ra 101 (upd (upd (upd (upd (upd (upd (upd (upd pg 21 v3) 22 j81_s0) 23 (pg 2)) 24 (pg 8)) 12 j120_s0) 13 ((pg 13) + 1)) 14 ((pg 14) + j165_s0)) 11 j183_s0)]) (j := 11) cx hP hD hS 0 rfl (by decide) (by unfold vp_in; decide) rfl dX4_pressOn_183 (fun H locs hP hD hS => ?_)
                refine lv_aload_n hx hb dX4_pressOn_184 rfl (lv_at hl 0 rfl) ?_
                refine lv_bipush (v := 7) hx hb dX4_pressOn_185 (by decide) ?_
                refine lv_aload_n hx hb dX4_pressOn_187 rfl (lv_at hl 0 rfl) ?_
                refine lv_bipush (v := 7) hx hb dX4_pressOn_188 (by decide) ?_
                refine k_iald (j := 7) cx hP 0 rfl (by decide) (by unfold vp_in; decide) dX4_pressOn_190 ?_
                refine lv_aload_n hx hb dX4_pressOn_191 rfl (lv_at hl 0 rfl) ?_
                refine lv_iconst (v := 3) hx hb dX4_pressOn_192 (by decide) ?_
                refine k_iald (j := 3) cx hP 0 rfl (by decide) (by unfold vp_in; decide) dX4_pressOn_193 ?_
                refine lv_iadd hx hb dX4_pressOn_194 ?_
                refine lv_sipush (v := 9999) hx hb dX4_pressOn_195 (by decide) ?_
                have J215 : ∀ (j215_s0 : Int32), (v3, (upd (upd (upd (upd (upd (upd (upd (upd (upd (upd pg 21 v3) 22 j81_s0) 23 (pg 2)) 24 (pg 8)) 12 j120_s0) 13 ((pg 13) + 1)) 14 ((pg 14) + j165_s0)) 11 j183_s0) 7 j215_s0) 8 ((pg 8) + 1))) = tgt → ∀ (H : Heap) (locs : List Loc) (ls : Array Slot), va_P G.1 vwCl [aI G ra 101 (upd (upd (upd (upd (upd (upd (upd (upd pg 21 v3) 22 j81_s0) 23 (pg 2)) 24 (pg 8)) 12 j120_s0) 13 ((pg 13) + 1)) 14 ((pg 14) + j165_s0)) 11 j183_s0)] H → va_D A [aI G ra 101 (upd (upd (upd (upd (upd (upd (upd (upd pg 21 v3) 22 j81_s0) 23 (pg 2)) 24 (pg 8)) 12 j120_s0) 13 ((pg 13) + 1)) 14 ((pg 14) + j165_s0)) 11 j183_s0)] → va_S A s.heap H locs → lv_has ls 5 [(0, .ref ra), (3, .int v3)] → W p l e rm_X4_pressOn s m args below meth c H locs 0 0 (Q_X4_pressOn G ra tgt below args s A) (F0 m 215 ls [.int j215_s0, .int 7, .ref ra]) := by
                  intro j215_s0 hq H locs ls hP hD hS hl
                  refine k_iast (ws' := [aI G ra 101 (upd (upd (upd (upd (upd (upd (upd (upd (upd pg 21 v3) 22 j81_s0) 23 (pg 2)) 24 (pg 8)) 12 j120_s0) 13 ((pg 13) + 1)) 14 ((pg 14) + j165_s0)) 11 j183_s0) 7 j215_s0)]) (j := 7) cx hP hD hS 0 rfl (by decide) (by unfold vp_in; decide) rfl dX4_pressOn_215 (fun H locs hP hD hS => ?_)
                  refine lv_aload_n hx hb dX4_pressOn_216 rfl (lv_at hl 0 rfl) ?_
                  refine lv_bipush (v := 8) hx hb dX4_pressOn_217 (by decide) ?_
                  refine lv_dup2_11 hx hb dX4_pressOn_219 rfl rfl ?_
                  refine k_iald (j := 8) cx hP 0 rfl (by decide) (by unfold vp_in; decide) dX4_pressOn_220 ?_
                  refine lv_iconst (v := 1) hx hb dX4_pressOn_221 (by decide) ?_
                  refine lv_iadd hx hb dX4_pressOn_222 ?_
                  refine k_iast (ws' := [aI G ra 101 (upd (upd (upd (upd (upd (upd (upd (upd (upd (upd pg 21 v3) 22 j81_s0) 23 (pg 2)) 24 (pg 8)) 12 j120_s0) 13 ((pg 13) + 1)) 14 ((pg 14) + j165_s0)) 11 j183_s0) 7 j215_s0) 8 ((pg 8) + 1))]) (j := 8) cx hP hD hS 0 rfl (by decide) (by unfold vp_in; decide) rfl dX4_pressOn_223 (fun H locs hP hD hS => ?_)
                  refine lv_iload_n hx hb dX4_pressOn_224 rfl (lv_at hl 1 rfl) ?_
                  subst hq
                  exact k_iret cx hP hS dX4_pressOn_225
                refine lv_icmp_le (tgt := 207) hx hb dX4_pressOn_198 (by decide) (fun c_198 => ?_) (fun c_198 => ?_)
                · replace hq := (if_pos c_198).symm.trans hq
                  refine lv_aload_n hx hb dX4_pressOn_207 rfl (lv_at hl 0 rfl) ?_
                  refine lv_bipush (v := 7) hx hb dX4_pressOn_208 (by decide) ?_
                  refine k_iald (j := 7) cx hP 0 rfl (by decide) (by unfold vp_in; decide) dX4_pressOn_210 ?_
                  refine lv_aload_n hx hb dX4_pressOn_211 rfl (lv_at hl 0 rfl) ?_
                  refine lv_iconst (v := 3) hx hb dX4_pressOn_212 (by decide) ?_
                  refine k_iald (j := 3) cx hP 0 rfl (by decide) (by unfold vp_in; decide) dX4_pressOn_213 ?_
                  refine lv_iadd hx hb dX4_pressOn_214 ?_
                  exact J215 ((pg 7) + (pg 3)) hq H locs ls hP hD hS (lv_sub hl [0, 1] rfl)
                · replace hq := (if_neg c_198).symm.trans hq
                  refine lv_sipush (v := 9999) hx hb dX4_pressOn_201 (by decide) ?_
                  refine lv_goto (tgt := 215) hx hb dX4_pressOn_204 (by decide) ?_
                  exact J215 9999 hq H locs ls hP hD hS (lv_sub hl [0, 1] rfl)
              refine lv_if_eq (tgt := 179) hx hb dX4_pressOn_172 (by decide) (fun c_172 => ?_) (fun c_172 => ?_)
              · replace hq := (if_pos c_172).symm.trans hq
                refine lv_aload_n hx hb dX4_pressOn_179 rfl (lv_at hl 0 rfl) ?_
                refine lv_bipush (v := 11) hx hb dX4_pressOn_180 (by decide) ?_
                refine k_iald (j := 11) cx hP 0 rfl (by decide) (by unfold vp_in; decide) dX4_pressOn_182 ?_
                exact J183 (pg 11) hq H locs ls hP hD hS (lv_sub hl [0, 1] rfl)
              · replace hq := (if_neg c_172).symm.trans hq
                refine lv_iconst (v := 1) hx hb dX4_pressOn_175 (by decide) ?_
                refine lv_goto (tgt := 183) hx hb dX4_pressOn_176 (by decide) ?_
                exact J183 1 hq H locs ls hP hD hS (lv_sub hl [0, 1] rfl)
            refine lv_if_eq (tgt := 164) hx hb dX4_pressOn_157 (by decide) (fun c_157 => ?_) (fun c_157 => ?_)
            · replace hq := (if_pos c_157).symm.trans hq
              refine lv_iconst (v := 0) hx hb dX4_pressOn_164 (by decide) ?_
              exact J165 0 hq H locs ls hP hD hS (lv_sub hl [1, 2, 0] rfl)
            · replace hq := (if_neg c_157).symm.trans hq
              refine lv_iconst (v := 1) hx hb dX4_pressOn_160 (by decide) ?_
              refine lv_goto (tgt := 165) hx hb dX4_pressOn_161 (by decide) ?_
              exact J165 1 hq H locs ls hP hD hS (lv_sub hl [1, 2, 0] rfl)
          have J143 : ∀ (_ : Unit), (let j148 := fun (j148_s0 : Int32) => (let j165 := fun (j165_s0 : Int32) => (let j183 := fun (j183_s0 : Int32) => (let j215 := fun (j215_s0 : Int32) => (v3, (upd (upd (upd (upd (upd (upd (upd (upd (upd (upd pg 21 v3) 22 j81_s0) 23 (pg 2)) 24 (pg 8)) 12 j120_s0) 13 ((pg 13) + 1)) 14 ((pg 14) + j165_s0)) 11 j183_s0) 7 j215_s0) 8 ((pg 8) + 1))); (if ((pg 7) + (pg 3)) ≤ 9999 then (j215 ((pg 7) + (pg 3))) else (j215 9999))); (if j148_s0 = 0 then (j183 (pg 11)) else (j183 1))); (if j148_s0 = 0 then (j165 0) else (j165 1))); (j148 1)) = tgt → ∀ (H : Heap) (locs : List Loc) (ls : Array Slot), va_P G.1 vwCl [aI G ra 101 (upd (upd (upd (upd (upd (upd pg 21 v3) 22 j81_s0) 23 (pg 2)) 24 (pg 8)) 12 j120_s0) 13 ((pg 13) + 1))] H → va_D A [aI G ra 101 (upd (upd (upd (upd (upd (upd pg 21 v3) 22 j81_s0) 23 (pg 2)) 24 (pg 8)) 12 j120_s0) 13 ((pg 13) + 1))] → va_S A s.heap H locs → lv_has ls 5 [(0, .ref ra), (3, .int v3)] → W p l e rm_X4_pressOn s m args below meth c H locs 0 0 (Q_X4_pressOn G ra tgt below args s A) (F0 m 143 ls []) := by
            intro _ hq H locs ls hP hD hS hl
            refine lv_iconst (v := 1) hx hb dX4_pressOn_143 (by decide) ?_
            refine lv_goto (tgt := 148) hx hb dX4_pressOn_144 (by decide) ?_
            exact J148 1 hq H locs ls hP hD hS (lv_sub hl [0, 1] rfl)
          refine lv_icmp_lt (tgt := 143) hx hb dX4_pressOn_133 (by decide) (fun c_133 => ?_) (fun c_133 => ?_)
          · replace hq := (if_pos c_133).symm.trans hq
            exact J143 () hq H locs ls hP hD hS (lv_sub hl [0, 2] rfl)
          · replace hq := (if_neg c_133).symm.trans hq
            refine lv_iload_n hx hb dX4_pressOn_136 rfl (lv_at hl 1 rfl) ?_
            refine lv_sipush (v := 5000) hx hb dX4_pressOn_137 (by decide) ?_
            refine lv_icmp_le (tgt := 147) hx hb dX4_pressOn_140 (by decide) (fun c_140 => ?_) (fun c_140 => ?_)
            · replace hq := (if_pos c_140).symm.trans hq
              refine lv_iconst (v := 0) hx hb dX4_pressOn_147 (by decide) ?_
              exact J148 0 hq H locs ls hP hD hS (lv_sub hl [0, 2] rfl)
            · replace hq := (if_neg c_140).symm.trans hq
              exact J143 () hq H locs ls hP hD hS (lv_sub hl [0, 2] rfl)
        refine lv_icmp_ge (tgt := 118) hx hb dX4_pressOn_106 (by decide) (fun c_106 => ?_) (fun c_106 => ?_)
        · replace hq := (if_pos c_106).symm.trans hq
          refine lv_bipush (v := 20) hx hb dX4_pressOn_118 (by decide) ?_
          exact J120 20 hq H locs ls hP hD hS (lv_sub hl [0, 1, 2] rfl)
        · replace hq := (if_neg c_106).symm.trans hq
          refine lv_aload_n hx hb dX4_pressOn_109 rfl (lv_at hl 0 rfl) ?_
          refine lv_bipush (v := 12) hx hb dX4_pressOn_110 (by decide) ?_
          refine k_iald (j := 12) cx hP 0 rfl (by decide) (by unfold vp_in; decide) dX4_pressOn_112 ?_
          refine lv_iconst (v := 1) hx hb dX4_pressOn_113 (by decide) ?_
          refine lv_iadd hx hb dX4_pressOn_114 ?_
          refine lv_goto (tgt := 120) hx hb dX4_pressOn_115 (by decide) ?_
          exact J120 ((pg 12) + 1) hq H locs ls hP hD hS (lv_sub hl [0, 1, 2] rfl)
      refine lv_if_eq (tgt := 80) hx hb dX4_pressOn_73 (by decide) (fun c_73 => ?_) (fun c_73 => ?_)
      · replace hq := (if_pos c_73).symm.trans hq
        refine lv_iconst (v := 1) hx hb dX4_pressOn_80 (by decide) ?_
        exact J81 1 hq H locs ls hP hD hS (lv_sub hl [0, 2, 3] rfl)
      · replace hq := (if_neg c_73).symm.trans hq
        refine lv_iconst (v := (-1)) hx hb dX4_pressOn_76 (by decide) ?_
        refine lv_goto (tgt := 81) hx hb dX4_pressOn_77 (by decide) ?_
        exact J81 (-1) hq H locs ls hP hD hS (lv_sub hl [0, 2, 3] rfl)
    · replace hq := (if_neg c_45).symm.trans hq
      refine lv_aload_n hx hb dX4_pressOn_48 rfl (lv_at hl 0 rfl) ?_
      refine lv_iload hx hb dX4_pressOn_49 (lv_at hl 4 rfl) ?_
      refine lv_aload_n hx hb dX4_pressOn_51 rfl (lv_at hl 0 rfl) ?_
      refine lv_iload hx hb dX4_pressOn_52 (lv_at hl 4 rfl) ?_
      refine lv_iconst (v := 4) hx hb dX4_pressOn_54 (by decide) ?_
      refine lv_isub hx hb dX4_pressOn_55 ?_
      refine k_iald (j := (v4 - 4).toNatClampNeg) cx hP 0 rfl rfl (ix_sh4 h1 (by assumption)) dX4_pressOn_56 ?_
      refine k_iast (ws' := [aI G ra 101 (upd pg v4.toNatClampNeg (pg (v4 - 4).toNatClampNeg))]) (j := v4.toNatClampNeg) cx hP hD hS 0 rfl rfl (ix_sh h1 (by assumption)) rfl dX4_pressOn_57 (fun H locs hP hD hS => ?_)
      refine lv_iinc (v := (v4 + (-1))) (lv' := [(4, .int (v4 + (-1))), (0, .ref ra), (1, .int rv), (2, .int v2), (3, .int v3)]) hx hb dX4_pressOn_58 hl (k := 4) rfl rfl (by decide) rfl (fun ls hl => ?_)
      refine lv_goto (tgt := 41) hx hb dX4_pressOn_61 (by decide) ?_
      exact ih v2 v3 (v4 + (-1)) (upd pg v4.toNatClampNeg (pg (v4 - 4).toNatClampNeg)) (le_dn h1 (by assumption)) (by have hmd := mu_dn2 (by assumption); omega) hq H locs hP hD hS _ (lv_sub hl [1, 2, 3, 4, 0] rfl)
def P_X4_pressOn (pg : Nat → Int32) (rv : Int32) : Int32 × (Nat → Int32) := (let j36 := fun (j36_s0 : Int32) => (P_X4_pressOn_41 rv (((100 : Int32).toInt - 24).toNat + 1) (P_X4_rawOf pg rv (pg 4)) j36_s0 100 pg); (if (P_X4_rawOf pg rv (pg 4)) ≤ 500 then (if (-500) ≤ (P_X4_rawOf pg rv (pg 4)) then (j36 (P_X4_rawOf pg rv (pg 4))) else (j36 (-500))) else (j36 500)))
set_option maxHeartbeats 4000000 in
set_option maxRecDepth 100000 in
theorem c_X4_pressOn (l : Launch) (G : gG) (ra : Nat) (pg : Nat → Int32) (rv : Int32) (hpv : PV pg) : kM l G yX4_pressOn wsX4_pressOn rm_X4_pressOn [.ref ra, .int rv] [aI G ra 101 pg] (qI G ((P_X4_pressOn pg rv).1) [aI G ra 101 ((P_X4_pressOn pg rv).2)]) := by
  refine k_body (cc := cX4_pressOn) (nL := 5) (ret := (some .int)) (by decide) rfl (Nat.le_of_ble_eq_true rfl) ?_
  intro p e s m args below meth c A cx hP hD hS ls hl
  obtain ⟨hx, hb, hml, hown, hts, hr, hlocks, hK, hA⟩ := id cx
  obtain ⟨H, hH⟩ : ∃ H, H = s.heap := ⟨_, rfl⟩
  obtain ⟨locs, hL⟩ : ∃ locs : List Loc, locs = [] := ⟨_, rfl⟩
  obtain ⟨tgt, hq⟩ : ∃ tgt, (P_X4_pressOn pg rv) = tgt := ⟨_, rfl⟩
  have hS : va_S A s.heap H locs := by rw [hH, hL]; exact hS
  rw [← hH] at hP
  have hl : lv_has ls 5 [(0, .ref ra), (1, .int rv)] := hl
  have key : ∀ (H : Heap) (locs : List Loc), va_P G.1 vwCl [aI G ra 101 pg] H → va_D A [aI G ra 101 pg] → va_S A s.heap H locs → W p l e rm_X4_pressOn s m args below meth c H locs 0 0 (Q_X4_pressOn G ra tgt below args s A) (F0 m 0 ls []) := by
    clear hP hD hS hH hL
    intro H locs hP hD hS
    unfold P_X4_pressOn at hq
    refine lv_aload_n hx hb dX4_pressOn_0 rfl (lv_at hl 0 rfl) ?_
    refine lv_iload_n hx hb dX4_pressOn_1 rfl (lv_at hl 1 rfl) ?_
    refine lv_aload_n hx hb dX4_pressOn_2 rfl (lv_at hl 0 rfl) ?_
    refine lv_iconst (v := 4) hx hb dX4_pressOn_3 (by decide) ?_
    refine k_iald (j := 4) cx hP 0 rfl (by decide) (by unfold vp_in; decide) dX4_pressOn_4 ?_
    have hC := c_X4_rawOf l G ra pg rv (pg 4) (hpv)
    refine k_i (ws' := [aI G ra 101 pg]) (as := [ra]) cx hP hD hS [0] rfl (kr_S (n := 3) (As := [.ref ra, .int rv, .int (pg 4)]) cx hC gX4_pressOn_X4_rawOf rfl rfl rfl (by decide +kernel) ⟨Nat.le_of_ble_eq_true rfl, Nat.le_of_ble_eq_true rfl⟩ hP hD [0] rfl rfl rfl rfl hl (Nat.le_of_ble_eq_true rfl) dX4_pressOn_5 ⟨Nat.le_refl _, Nat.le_refl _⟩) ⟨rfl, rfl⟩ rfl (fun H locs hP hD hS => ?_)
    refine lv_istore_n (lv' := [(2, .int (P_X4_rawOf pg rv (pg 4))), (0, .ref ra), (1, .int rv)]) hx hb dX4_pressOn_8 rfl hl (by decide) rfl (fun ls hl => ?_)
    refine lv_iload_n hx hb dX4_pressOn_9 rfl (lv_at hl 0 rfl) ?_
    refine lv_sipush (v := 500) hx hb dX4_pressOn_10 (by decide) ?_
    have J36 : ∀ (j36_s0 : Int32), (P_X4_pressOn_41 rv (((100 : Int32).toInt - 24).toNat + 1) (P_X4_rawOf pg rv (pg 4)) j36_s0 100 pg) = tgt → ∀ (H : Heap) (locs : List Loc) (ls : Array Slot), va_P G.1 vwCl [aI G ra 101 pg] H → va_D A [aI G ra 101 pg] → va_S A s.heap H locs → lv_has ls 5 [(0, .ref ra), (1, .int rv), (2, .int (P_X4_rawOf pg rv (pg 4)))] → W p l e rm_X4_pressOn s m args below meth c H locs 0 0 (Q_X4_pressOn G ra tgt below args s A) (F0 m 36 ls [.int j36_s0]) := by
      intro j36_s0 hq H locs ls hP hD hS hl
      refine lv_istore_n (lv' := [(3, .int j36_s0), (0, .ref ra), (1, .int rv), (2, .int (P_X4_rawOf pg rv (pg 4)))]) hx hb dX4_pressOn_36 rfl hl (by decide) rfl (fun ls hl => ?_)
      refine lv_bipush (v := 100) hx hb dX4_pressOn_37 (by decide) ?_
      refine lv_istore (lv' := [(4, .int 100), (3, .int j36_s0), (0, .ref ra), (1, .int rv), (2, .int (P_X4_rawOf pg rv (pg 4)))]) hx hb dX4_pressOn_39 hl (by decide) rfl (fun ls hl => ?_)
      exact b_X4_pressOn_41 cx ra rv  tgt (((100 : Int32).toInt - 24).toNat + 1) (P_X4_rawOf pg rv (pg 4)) j36_s0 100 pg (by decide) (Nat.lt_succ_self _) hq H locs hP hD hS _ (lv_sub hl [2, 3, 4, 1, 0] rfl)
    refine lv_icmp_le (tgt := 22) hx hb dX4_pressOn_13 (by decide) (fun c_13 => ?_) (fun c_13 => ?_)
    · replace hq := (if_pos c_13).symm.trans hq
      refine lv_iload_n hx hb dX4_pressOn_22 rfl (lv_at hl 0 rfl) ?_
      refine lv_sipush (v := (-500)) hx hb dX4_pressOn_23 (by decide) ?_
      refine lv_icmp_ge (tgt := 35) hx hb dX4_pressOn_26 (by decide) (fun c_26 => ?_) (fun c_26 => ?_)
      · replace hq := (if_pos c_26).symm.trans hq
        refine lv_iload_n hx hb dX4_pressOn_35 rfl (lv_at hl 0 rfl) ?_
        exact J36 (P_X4_rawOf pg rv (pg 4)) hq H locs ls hP hD hS (lv_sub hl [1, 2, 0] rfl)
      · replace hq := (if_neg c_26).symm.trans hq
        refine lv_sipush (v := (-500)) hx hb dX4_pressOn_29 (by decide) ?_
        refine lv_goto (tgt := 36) hx hb dX4_pressOn_32 (by decide) ?_
        exact J36 (-500) hq H locs ls hP hD hS (lv_sub hl [1, 2, 0] rfl)
    · replace hq := (if_neg c_13).symm.trans hq
      refine lv_sipush (v := 500) hx hb dX4_pressOn_16 (by decide) ?_
      refine lv_goto (tgt := 36) hx hb dX4_pressOn_19 (by decide) ?_
      exact J36 500 hq H locs ls hP hD hS (lv_sub hl [1, 2, 0] rfl)
  subst hL
  subst hH
  subst hq
  exact key _ _ hP hD hS

/-! X4_waitOn -/
abbrev rm_X4_waitOn : Room := { frames := 0, cells := 0, slots := 0, locals := 0 }
abbrev Q_X4_waitOn (G : gG) (ra : Nat)   (tgt : (Nat → Int32)) (below : List Frame) (args : Array Value) (s : State) (A : Nat → Prop) : State → Prop := MQ below (qV G [aI G ra 101 tgt] A) args s 0 0 A
def P_X4_waitOn_2 (tk : Int32) : Nat → Int32 → (Nat → Int32) → (Nat → Int32)
  | 0, _, _ => (fun _ => 0)
  | n + 1, v2, pg => (if tk ≤ v2 then pg else (let j34 := fun (j34_s0 : Int32) => (P_X4_waitOn_2 tk n (v2 + 1) (upd (upd pg 7 j34_s0) 8 ((pg 8) + 1))); (if 0 ≤ ((pg 7) - (((pg 7) / 10) + 1)) then (j34 ((pg 7) - (((pg 7) / 10) + 1))) else (j34 0))))
set_option maxHeartbeats 4000000 in
set_option maxRecDepth 100000 in
theorem b_X4_waitOn_2 {p : Program} {l : Launch} {e : Env} {s : State} {m : MethodId} {args : Array Value} {below : List Frame} {meth : Method} {c : Code} {G : gG} {A : Nat → Prop} (cx : Cx p s m args meth c cX4_waitOn 4 yX4_waitOn.cls wsX4_waitOn none G A) (ra : Nat) (tk : Int32)   (tgt : (Nat → Int32)) : ∀ (n : Nat) (v2 : Int32) (pg : Nat → Int32) (h0 : ¬ v2 < 0) (hm : ((tk).toInt - (v2 : Int32).toInt).toNat < n) (hq : P_X4_waitOn_2  tk n v2 pg = tgt) (H : Heap) (locs : List Loc) (hP : va_P G.1 vwCl [aI G ra 101 pg] H) (hD : va_D A [aI G ra 101 pg]) (hS : va_S A s.heap H locs) (ls : Array Slot) (hl : lv_has ls 4 [(0, .ref ra), (1, .int tk), (2, .int v2)]), W p l e rm_X4_waitOn s m args below meth c H locs 0 0 (Q_X4_waitOn G ra tgt below args s A) (F0 m 2 ls []) := by
  obtain ⟨hx, hb, hml, hown, hts, hr, hlocks, hK, hA⟩ := id cx
  intro n
  induction n with
  | zero => intros; omega
  | succ n ih =>
    intro v2 pg h0 hm hq H locs hP hD hS ls hl
    unfold P_X4_waitOn_2 at hq
    refine lv_iload_n hx hb dX4_waitOn_2 rfl (lv_at hl 2 rfl) ?_
    refine lv_iload_n hx hb dX4_waitOn_3 rfl (lv_at hl 1 rfl) ?_
    refine lv_icmp_ge (tgt := 49) hx hb dX4_waitOn_4 (by decide) (fun c_4 => ?_) (fun c_4 => ?_)
    · replace hq := (if_pos c_4).symm.trans hq
      subst hq
      exact k_vret cx hP hS dX4_waitOn_49
    · replace hq := (if_neg c_4).symm.trans hq
      refine lv_aload_n hx hb dX4_waitOn_7 rfl (lv_at hl 0 rfl) ?_
      refine lv_bipush (v := 7) hx hb dX4_waitOn_8 (by decide) ?_
      refine k_iald (j := 7) cx hP 0 rfl (by decide) (by unfold vp_in; decide) dX4_waitOn_10 ?_
      refine lv_aload_n hx hb dX4_waitOn_11 rfl (lv_at hl 0 rfl) ?_
      refine lv_bipush (v := 7) hx hb dX4_waitOn_12 (by decide) ?_
      refine k_iald (j := 7) cx hP 0 rfl (by decide) (by unfold vp_in; decide) dX4_waitOn_14 ?_
      refine lv_bipush (v := 10) hx hb dX4_waitOn_15 (by decide) ?_
      refine lv_idiv hx hb dX4_waitOn_17 (by decide) ?_
      refine lv_iconst (v := 1) hx hb dX4_waitOn_18 (by decide) ?_
      refine lv_iadd hx hb dX4_waitOn_19 ?_
      refine lv_isub hx hb dX4_waitOn_20 ?_
      refine lv_istore_n (lv' := [(3, .int ((pg 7) - (((pg 7) / 10) + 1))), (0, .ref ra), (1, .int tk), (2, .int v2)]) hx hb dX4_waitOn_21 rfl hl (by decide) rfl (fun ls hl => ?_)
      refine lv_aload_n hx hb dX4_waitOn_22 rfl (lv_at hl 1 rfl) ?_
      refine lv_bipush (v := 7) hx hb dX4_waitOn_23 (by decide) ?_
      refine lv_iload_n hx hb dX4_waitOn_25 rfl (lv_at hl 0 rfl) ?_
      have J34 : ∀ (j34_s0 : Int32), (P_X4_waitOn_2 tk n (v2 + 1) (upd (upd pg 7 j34_s0) 8 ((pg 8) + 1))) = tgt → ∀ (H : Heap) (locs : List Loc) (ls : Array Slot), va_P G.1 vwCl [aI G ra 101 pg] H → va_D A [aI G ra 101 pg] → va_S A s.heap H locs → lv_has ls 4 [(0, .ref ra), (1, .int tk), (2, .int v2)] → W p l e rm_X4_waitOn s m args below meth c H locs 0 0 (Q_X4_waitOn G ra tgt below args s A) (F0 m 34 ls [.int j34_s0, .int 7, .ref ra]) := by
        intro j34_s0 hq H locs ls hP hD hS hl
        refine k_iast (ws' := [aI G ra 101 (upd pg 7 j34_s0)]) (j := 7) cx hP hD hS 0 rfl (by decide) (by unfold vp_in; decide) rfl dX4_waitOn_34 (fun H locs hP hD hS => ?_)
        refine lv_aload_n hx hb dX4_waitOn_35 rfl (lv_at hl 0 rfl) ?_
        refine lv_bipush (v := 8) hx hb dX4_waitOn_36 (by decide) ?_
        refine lv_dup2_11 hx hb dX4_waitOn_38 rfl rfl ?_
        refine k_iald (j := 8) cx hP 0 rfl (by decide) (by unfold vp_in; decide) dX4_waitOn_39 ?_
        refine lv_iconst (v := 1) hx hb dX4_waitOn_40 (by decide) ?_
        refine lv_iadd hx hb dX4_waitOn_41 ?_
        refine k_iast (ws' := [aI G ra 101 (upd (upd pg 7 j34_s0) 8 ((pg 8) + 1))]) (j := 8) cx hP hD hS 0 rfl (by decide) (by unfold vp_in; decide) rfl dX4_waitOn_42 (fun H locs hP hD hS => ?_)
        refine lv_iinc (v := (v2 + 1)) (lv' := [(2, .int (v2 + 1)), (0, .ref ra), (1, .int tk)]) hx hb dX4_waitOn_43 hl (k := 2) rfl rfl (by decide) rfl (fun ls hl => ?_)
        refine lv_goto (tgt := 2) hx hb dX4_waitOn_46 (by decide) ?_
        exact ih (v2 + 1) (upd (upd pg 7 j34_s0) 8 ((pg 8) + 1)) (nn_inc h0 (N := tk) (by assumption)) (by have hmd := mu_up (N := tk) (by assumption); omega) hq H locs hP hD hS _ (lv_sub hl [1, 2, 0] rfl)
      refine lv_if_ge (tgt := 33) hx hb dX4_waitOn_26 (by decide) (fun c_26 => ?_) (fun c_26 => ?_)
      · replace hq := (if_pos c_26).symm.trans hq
        refine lv_iload_n hx hb dX4_waitOn_33 rfl (lv_at hl 0 rfl) ?_
        exact J34 ((pg 7) - (((pg 7) / 10) + 1)) hq H locs ls hP hD hS (lv_sub hl [1, 2, 3] rfl)
      · replace hq := (if_neg c_26).symm.trans hq
        refine lv_iconst (v := 0) hx hb dX4_waitOn_29 (by decide) ?_
        refine lv_goto (tgt := 34) hx hb dX4_waitOn_30 (by decide) ?_
        exact J34 0 hq H locs ls hP hD hS (lv_sub hl [1, 2, 3] rfl)
def P_X4_waitOn (pg : Nat → Int32) (tk : Int32) : (Nat → Int32) := (P_X4_waitOn_2 tk (((tk).toInt - (0 : Int32).toInt).toNat + 1) 0 pg)
set_option maxHeartbeats 4000000 in
set_option maxRecDepth 100000 in
theorem c_X4_waitOn (l : Launch) (G : gG) (ra : Nat) (pg : Nat → Int32) (tk : Int32)  : kM l G yX4_waitOn wsX4_waitOn rm_X4_waitOn [.ref ra, .int tk] [aI G ra 101 pg] (qV G [aI G ra 101 (P_X4_waitOn pg tk)]) := by
  refine k_body (cc := cX4_waitOn) (nL := 4) (ret := none) (by decide) rfl (Nat.le_of_ble_eq_true rfl) ?_
  intro p e s m args below meth c A cx hP hD hS ls hl
  obtain ⟨hx, hb, hml, hown, hts, hr, hlocks, hK, hA⟩ := id cx
  obtain ⟨H, hH⟩ : ∃ H, H = s.heap := ⟨_, rfl⟩
  obtain ⟨locs, hL⟩ : ∃ locs : List Loc, locs = [] := ⟨_, rfl⟩
  obtain ⟨tgt, hq⟩ : ∃ tgt, (P_X4_waitOn pg tk) = tgt := ⟨_, rfl⟩
  have hS : va_S A s.heap H locs := by rw [hH, hL]; exact hS
  rw [← hH] at hP
  have hl : lv_has ls 4 [(0, .ref ra), (1, .int tk)] := hl
  have key : ∀ (H : Heap) (locs : List Loc), va_P G.1 vwCl [aI G ra 101 pg] H → va_D A [aI G ra 101 pg] → va_S A s.heap H locs → W p l e rm_X4_waitOn s m args below meth c H locs 0 0 (Q_X4_waitOn G ra tgt below args s A) (F0 m 0 ls []) := by
    clear hP hD hS hH hL
    intro H locs hP hD hS
    unfold P_X4_waitOn at hq
    refine lv_iconst (v := 0) hx hb dX4_waitOn_0 (by decide) ?_
    refine lv_istore_n (lv' := [(2, .int 0), (0, .ref ra), (1, .int tk)]) hx hb dX4_waitOn_1 rfl hl (by decide) rfl (fun ls hl => ?_)
    exact b_X4_waitOn_2 cx ra tk  tgt (((tk).toInt - (0 : Int32).toInt).toNat + 1) 0 pg (by decide) (Nat.lt_succ_self _) hq H locs hP hD hS _ (lv_sub hl [1, 2, 0] rfl)
  subst hL
  subst hH
  subst hq
  exact key _ _ hP hD hS

/-! X4_freeOn -/
abbrev rm_X4_freeOn : Room := { frames := 1, cells := 0, slots := 0, locals := 23 }
abbrev Q_X4_freeOn (G : gG) (ra : Nat)   (tgt : (Nat → Int32)) (below : List Frame) (args : Array Value) (s : State) (A : Nat → Prop) : State → Prop := MQ below (qV G [aI G ra 101 tgt] A) args s 0 0 A
def P_X4_freeOn (pg : Nat → Int32) : (Nat → Int32) := (let u7 := P_X4_waitOn (upd pg 11 0) 5; u7)
set_option maxHeartbeats 4000000 in
set_option maxRecDepth 100000 in
theorem c_X4_freeOn (l : Launch) (G : gG) (ra : Nat) (pg : Nat → Int32)  : kM l G yX4_freeOn wsX4_freeOn rm_X4_freeOn [.ref ra] [aI G ra 101 pg] (qV G [aI G ra 101 (P_X4_freeOn pg)]) := by
  refine k_body (cc := cX4_freeOn) (nL := 1) (ret := none) (by decide) rfl (Nat.le_of_ble_eq_true rfl) ?_
  intro p e s m args below meth c A cx hP hD hS ls hl
  obtain ⟨hx, hb, hml, hown, hts, hr, hlocks, hK, hA⟩ := id cx
  obtain ⟨H, hH⟩ : ∃ H, H = s.heap := ⟨_, rfl⟩
  obtain ⟨locs, hL⟩ : ∃ locs : List Loc, locs = [] := ⟨_, rfl⟩
  obtain ⟨tgt, hq⟩ : ∃ tgt, (P_X4_freeOn pg) = tgt := ⟨_, rfl⟩
  have hS : va_S A s.heap H locs := by rw [hH, hL]; exact hS
  rw [← hH] at hP
  have hl : lv_has ls 1 [(0, .ref ra)] := hl
  have key : ∀ (H : Heap) (locs : List Loc), va_P G.1 vwCl [aI G ra 101 pg] H → va_D A [aI G ra 101 pg] → va_S A s.heap H locs → W p l e rm_X4_freeOn s m args below meth c H locs 0 0 (Q_X4_freeOn G ra tgt below args s A) (F0 m 0 ls []) := by
    clear hP hD hS hH hL
    intro H locs hP hD hS
    unfold P_X4_freeOn at hq
    refine lv_aload_n hx hb dX4_freeOn_0 rfl (lv_at hl 0 rfl) ?_
    refine lv_bipush (v := 11) hx hb dX4_freeOn_1 (by decide) ?_
    refine lv_iconst (v := 0) hx hb dX4_freeOn_3 (by decide) ?_
    refine k_iast (ws' := [aI G ra 101 (upd pg 11 0)]) (j := 11) cx hP hD hS 0 rfl (by decide) (by unfold vp_in; decide) rfl dX4_freeOn_4 (fun H locs hP hD hS => ?_)
    refine lv_aload_n hx hb dX4_freeOn_5 rfl (lv_at hl 0 rfl) ?_
    refine lv_iconst (v := 5) hx hb dX4_freeOn_6 (by decide) ?_
    have hC := c_X4_waitOn l G ra (upd pg 11 0) 5
    generalize hu7 : P_X4_waitOn (upd pg 11 0) 5 = u7 at hC hq
    refine k_v (ws' := [aI G ra 101 u7]) (as := [ra]) cx hP hD hS [0] rfl (kr_S (n := 2) (As := [.ref ra, .int 5]) cx hC gX4_freeOn_X4_waitOn rfl rfl rfl (by decide +kernel) ⟨Nat.le_of_ble_eq_true rfl, Nat.le_of_ble_eq_true rfl⟩ hP hD [0] rfl rfl rfl rfl hl (Nat.le_of_ble_eq_true rfl) dX4_freeOn_7 ⟨Nat.le_refl _, Nat.le_refl _⟩) ⟨rfl, rfl⟩ rfl (fun H locs hP hD hS => ?_)
    subst hq
    exact k_vret cx hP hS dX4_freeOn_10
  subst hL
  subst hH
  subst hq
  exact key _ _ hP hD hS
