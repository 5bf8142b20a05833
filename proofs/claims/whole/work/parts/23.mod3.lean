/-! X4_pairOn -/
abbrev rm_X4_pairOn : Room := { frames := 5, cells := 0, slots := 0, locals := 113 }
abbrev Q_X4_pairOn (G : gG) (ra : Nat)   (tgt : Int32 × (Nat → Int32)) (below : List Frame) (args : Array Value) (s : State) (A : Nat → Prop) : State → Prop := MQ below (qI G tgt.1 [aI G ra 101 tgt.2] A) args s 0 0 A
def P_X4_pairOn (pg : Nat → Int32) : Int32 × (Nat → Int32) := (let u2 := P_X4_pressOn pg 0; (if (u2.2 11) = 1 then (u2.1, u2.2) else (let u21 := P_X4_pressOn u2.2 1; ((u2.1 - u21.1), u21.2))))
set_option maxHeartbeats 4000000 in
set_option maxRecDepth 100000 in
theorem c_X4_pairOn (l : Launch) (G : gG) (ra : Nat) (pg : Nat → Int32) (hpv : PV pg) : kM l G yX4_pairOn wsX4_pairOn rm_X4_pairOn [.ref ra] [aI G ra 101 pg] (qI G ((P_X4_pairOn pg).1) [aI G ra 101 ((P_X4_pairOn pg).2)]) := by
  refine k_body (cc := cX4_pairOn) (nL := 2) (ret := (some .int)) (by decide) rfl (Nat.le_of_ble_eq_true rfl) ?_
  intro p e s m args below meth c A cx hP hD hS ls hl
  obtain ⟨hx, hb, hml, hown, hts, hr, hlocks, hK, hA⟩ := id cx
  obtain ⟨H, hH⟩ : ∃ H, H = s.heap := ⟨_, rfl⟩
  obtain ⟨locs, hL⟩ : ∃ locs : List Loc, locs = [] := ⟨_, rfl⟩
  obtain ⟨tgt, hq⟩ : ∃ tgt, (P_X4_pairOn pg) = tgt := ⟨_, rfl⟩
  have hS : va_S A s.heap H locs := by rw [hH, hL]; exact hS
  rw [← hH] at hP
  have hl : lv_has ls 2 [(0, .ref ra)] := hl
  have key : ∀ (H : Heap) (locs : List Loc), va_P G.1 vwCl [aI G ra 101 pg] H → va_D A [aI G ra 101 pg] → va_S A s.heap H locs → W p l e rm_X4_pairOn s m args below meth c H locs 0 0 (Q_X4_pairOn G ra tgt below args s A) (F0 m 0 ls []) := by
    clear hP hD hS hH hL
    intro H locs hP hD hS
    unfold P_X4_pairOn at hq
    refine lv_aload_n hx hb dX4_pairOn_0 rfl (lv_at hl 0 rfl) ?_
    refine lv_iconst (v := 0) hx hb dX4_pairOn_1 (by decide) ?_
    have hC := c_X4_pressOn l G ra pg 0 (hpv)
    generalize hu2 : P_X4_pressOn pg 0 = u2 at hC hq
    refine k_i (ws' := [aI G ra 101 u2.2]) (as := [ra]) cx hP hD hS [0] rfl (kr_S (n := 2) (As := [.ref ra, .int 0]) cx hC gX4_pairOn_X4_pressOn rfl rfl rfl (by decide +kernel) ⟨Nat.le_of_ble_eq_true rfl, Nat.le_of_ble_eq_true rfl⟩ hP hD [0] rfl rfl rfl rfl hl (Nat.le_of_ble_eq_true rfl) dX4_pairOn_2 ⟨Nat.le_refl _, Nat.le_refl _⟩) ⟨rfl, rfl⟩ rfl (fun H locs hP hD hS => ?_)
    refine lv_istore_n (lv' := [(1, .int u2.1), (0, .ref ra)]) hx hb dX4_pairOn_5 rfl hl (by decide) rfl (fun ls hl => ?_)
    refine lv_aload_n hx hb dX4_pairOn_6 rfl (lv_at hl 1 rfl) ?_
    refine lv_bipush (v := 11) hx hb dX4_pairOn_7 (by decide) ?_
    refine k_iald (j := 11) cx hP 0 rfl (by decide) (by unfold vp_in; decide) dX4_pairOn_9 ?_
    refine lv_iconst (v := 1) hx hb dX4_pairOn_10 (by decide) ?_
    refine lv_icmp_ne (tgt := 18) hx hb dX4_pairOn_11 (by decide) (fun c_11 => ?_) (fun c_11 => ?_)
    · replace hq := (if_neg c_11).symm.trans hq
      refine lv_iload_n hx hb dX4_pairOn_18 rfl (lv_at hl 0 rfl) ?_
      refine lv_aload_n hx hb dX4_pairOn_19 rfl (lv_at hl 1 rfl) ?_
      refine lv_iconst (v := 1) hx hb dX4_pairOn_20 (by decide) ?_
      have hC := c_X4_pressOn l G ra u2.2 1 (pv_press hu2 hpv)
      generalize hu21 : P_X4_pressOn u2.2 1 = u21 at hC hq
      refine k_i (ws' := [aI G ra 101 u21.2]) (as := [ra]) cx hP hD hS [0] rfl (kr_S (n := 2) (As := [.ref ra, .int 1]) cx hC gX4_pairOn_X4_pressOn rfl rfl rfl (by decide +kernel) ⟨Nat.le_of_ble_eq_true rfl, Nat.le_of_ble_eq_true rfl⟩ hP hD [0] rfl rfl rfl rfl hl (Nat.le_of_ble_eq_true rfl) dX4_pairOn_21 ⟨Nat.le_refl _, Nat.le_refl _⟩) ⟨rfl, rfl⟩ rfl (fun H locs hP hD hS => ?_)
      refine lv_isub hx hb dX4_pairOn_24 ?_
      subst hq
      exact k_iret cx hP hS dX4_pairOn_25
    · replace hq := (if_pos c_11).symm.trans hq
      refine lv_iload_n hx hb dX4_pairOn_14 rfl (lv_at hl 0 rfl) ?_
      refine lv_goto (tgt := 25) hx hb dX4_pairOn_15 (by decide) ?_
      subst hq
      exact k_iret cx hP hS dX4_pairOn_25
  subst hL
  subst hH
  subst hq
  exact key _ _ hP hD hS

/-! X4_isUnknown -/
abbrev rm_X4_isUnknown : Room := { frames := 1, cells := 0, slots := 0, locals := 25 }
abbrev Q_X4_isUnknown (G : gG) (ra : Nat)  (pg : Nat → Int32) (tgt : Int32) (below : List Frame) (args : Array Value) (s : State) (A : Nat → Prop) : State → Prop := MQ below (qI G tgt [aI G ra 101 pg] A) args s 0 0 A
def P_X4_isUnknown (pg : Nat → Int32) (i : Int32) : Int32 := (P_X4_in ((i).toInt64) 0 ((((pg 9) - 1)).toInt64))
set_option maxHeartbeats 4000000 in
set_option maxRecDepth 100000 in
theorem c_X4_isUnknown (l : Launch) (G : gG) (ra : Nat) (pg : Nat → Int32) (i : Int32)  : kM l G yX4_isUnknown wsX4_isUnknown rm_X4_isUnknown [.ref ra, .int i] [aI G ra 101 pg] (qI G ((P_X4_isUnknown pg i)) [aI G ra 101 pg]) := by
  refine k_body (cc := cX4_isUnknown) (nL := 2) (ret := (some .boolean)) (by decide) rfl (Nat.le_of_ble_eq_true rfl) ?_
  intro p e s m args below meth c A cx hP hD hS ls hl
  obtain ⟨hx, hb, hml, hown, hts, hr, hlocks, hK, hA⟩ := id cx
  obtain ⟨H, hH⟩ : ∃ H, H = s.heap := ⟨_, rfl⟩
  obtain ⟨locs, hL⟩ : ∃ locs : List Loc, locs = [] := ⟨_, rfl⟩
  obtain ⟨tgt, hq⟩ : ∃ tgt, (P_X4_isUnknown pg i) = tgt := ⟨_, rfl⟩
  have hS : va_S A s.heap H locs := by rw [hH, hL]; exact hS
  rw [← hH] at hP
  have hl : lv_has ls 2 [(0, .ref ra), (1, .int i)] := hl
  have key : ∀ (H : Heap) (locs : List Loc), va_P G.1 vwCl [aI G ra 101 pg] H → va_D A [aI G ra 101 pg] → va_S A s.heap H locs → W p l e rm_X4_isUnknown s m args below meth c H locs 0 0 (Q_X4_isUnknown G ra pg tgt below args s A) (F0 m 0 ls []) := by
    clear hP hD hS hH hL
    intro H locs hP hD hS
    unfold P_X4_isUnknown at hq
    refine lv_iload_n hx hb dX4_isUnknown_0 rfl (lv_at hl 1 rfl) ?_
    refine lv_i2l hx hb dX4_isUnknown_1 rfl ?_
    refine lv_lconst (v := 0) hx hb dX4_isUnknown_2 (by decide) ?_
    refine lv_aload_n hx hb dX4_isUnknown_3 rfl (lv_at hl 0 rfl) ?_
    refine lv_bipush (v := 9) hx hb dX4_isUnknown_4 (by decide) ?_
    refine k_iald (j := 9) cx hP 0 rfl (by decide) (by unfold vp_in; decide) dX4_isUnknown_6 ?_
    refine lv_iconst (v := 1) hx hb dX4_isUnknown_7 (by decide) ?_
    refine lv_isub hx hb dX4_isUnknown_8 ?_
    refine lv_i2l hx hb dX4_isUnknown_9 rfl ?_
    have hC := c_X4_in l G ((i).toInt64) 0 ((((pg 9) - 1)).toInt64)
    refine k_i (ws' := [aI G ra 101 pg]) (as := []) cx hP hD hS [] rfl (kr_S (n := 3) (As := [.long (i).toInt64, .long 0, .long (((pg 9) - 1)).toInt64]) cx hC gX4_isUnknown_X4_in rfl rfl rfl (by decide +kernel) ⟨Nat.le_of_ble_eq_true rfl, Nat.le_of_ble_eq_true rfl⟩ hP hD [] rfl rfl rfl rfl hl (Nat.le_of_ble_eq_true rfl) dX4_isUnknown_10 ⟨Nat.le_refl _, Nat.le_refl _⟩) ⟨rfl, rfl⟩ rfl (fun H locs hP hD hS => ?_)
    subst hq
    exact k_zret (v := (P_X4_in ((i).toInt64) 0 ((((pg 9) - 1)).toInt64))) (w1 := [aI G ra 101 pg]) cx (nz (zb_X4_in _ _ _)) hP hS dX4_isUnknown_13
  subst hL
  subst hH
  subst hq
  exact key _ _ hP hD hS
theorem zb_X4_isUnknown (pg : Nat → Int32) (i : Int32) : P_X4_isUnknown pg i = 0 ∨ P_X4_isUnknown pg i = 1 := by
  unfold P_X4_isUnknown
  repeat' first | with_reducible refine zif ?_ ?_ | with_reducible exact Or.inl rfl | with_reducible exact Or.inr rfl | with_reducible exact zb_X4_in _ _ _

/-! X4_note -/
theorem hi_X4_note_4 : ∀ w ∈ u_ws RX4 TX4 11, w ∈ wsX4_note := by decide +kernel
abbrev rm_X4_note : Room := { frames := 1, cells := 0, slots := 0, locals := 24 }
abbrev Q_X4_note (G : gG) (m0 : Nat) (te : Nat) (re : Nat) (no : Nat) (tr : Nat) (di : Nat) (ke : Nat) (ik : Nat)  (pn : Nat → Int32) (tgt : (Nat → Int32) × (Nat → Int32)) (below : List Frame) (args : Array Value) (s : State) (A : Nat → Prop) : State → Prop := MQ below (qV G [oMo m0 te re no tr di ke ik tgt.1, aI G no 101 pn, aI G di 1414 tgt.2] A) args s 0 0 A
def P_X4_note_11 (pn : Nat → Int32) : Nat → Int32 → (Nat → Int32) → (Nat → Int32) → (Nat → Int32) × (Nat → Int32)
  | 0, _, _, _ => ((fun _ => 0), (fun _ => 0))
  | n + 1, v1, mf, dd => (if 1313 ≤ v1 then (let u65 := P_X4_copyPage 101 1414 pn dd 0 (101 * ((mf 8) - 1)); ((upd mf 8 (((mf 8) - 1) + 1)), u65)) else (P_X4_note_11 pn n (v1 + 1) mf (upd dd v1.toNatClampNeg (dd (v1 + 101).toNatClampNeg))))
set_option maxHeartbeats 4000000 in
set_option maxRecDepth 100000 in
theorem b_X4_note_11 {p : Program} {l : Launch} {e : Env} {s : State} {m : MethodId} {args : Array Value} {below : List Frame} {meth : Method} {c : Code} {G : gG} {A : Nat → Prop} (cx : Cx p s m args meth c cX4_note 2 yX4_note.cls wsX4_note none G A) (m0 : Nat) (te : Nat) (re : Nat) (no : Nat) (tr : Nat) (di : Nat) (ke : Nat) (ik : Nat) (pn : Nat → Int32)   (tgt : (Nat → Int32) × (Nat → Int32)) : ∀ (n : Nat) (v1 : Int32) (mf : Nat → Int32) (dd : Nat → Int32) (h0 : ¬ v1 < 0) (hmf : mf 8 = 14) (hm : (((1313 : Int32)).toInt - (v1 : Int32).toInt).toNat < n) (hq : P_X4_note_11  pn n v1 mf dd = tgt) (H : Heap) (locs : List Loc) (hP : va_P G.1 vwCl [oMo m0 te re no tr di ke ik mf, aI G no 101 pn, aI G di 1414 dd] H) (hD : va_D A [oMo m0 te re no tr di ke ik mf, aI G no 101 pn, aI G di 1414 dd]) (hS : va_S A s.heap H locs) (ls : Array Slot) (hl : lv_has ls 2 [(0, .ref m0), (1, .int v1)]), W p l e rm_X4_note s m args below meth c H locs 0 0 (Q_X4_note G m0 te re no tr di ke ik pn tgt below args s A) (F0 m 11 ls []) := by
  obtain ⟨hx, hb, hml, hown, hts, hr, hlocks, hK, hA⟩ := id cx
  intro n
  induction n with
  | zero => intros; omega
  | succ n ih =>
    intro v1 mf dd h0 hmf hm hq H locs hP hD hS ls hl
    unfold P_X4_note_11 at hq
    refine lv_iload_n hx hb dX4_note_11 rfl (lv_at hl 1 rfl) ?_
    refine lv_sipush (v := 1313) hx hb dX4_note_12 (by decide) ?_
    refine lv_icmp_ge (tgt := 39) hx hb dX4_note_15 (by decide) (fun c_15 => ?_) (fun c_15 => ?_)
    · replace hq := (if_pos c_15).symm.trans hq
      refine lv_aload_n hx hb dX4_note_39 rfl (lv_at hl 0 rfl) ?_
      refine lv_dup hx hb dX4_note_40 rfl ?_
      refine k_get (v := .int (mf 8)) (T := TX4) (C := RX4) (N := 11) cx hi_X4_note_4 hP 0 rfl rfl 8 (by decide) (by decide +kernel) rfl dX4_note_41 ?_
      refine lv_iconst (v := 1) hx hb dX4_note_44 (by decide) ?_
      refine lv_isub hx hb dX4_note_45 ?_
      refine k_put (ws' := [oMo m0 te re no tr di ke ik (upd mf 8 ((mf 8) - 1)), aI G no 101 pn, aI G di 1414 dd]) (ty := .int) (T := TX4) (C := RX4) (N := 11) cx hi_X4_note_4 tyX4_ok nmX4 hP hD hS 0 rfl rfl 8 (by decide) (by decide +kernel) rfl rfl rfl rfl (Nat.le_of_ble_eq_true rfl) rfl dX4_note_46 (fun H locs hP hD hS => ?_)
      refine lv_aload_n hx hb dX4_note_49 rfl (lv_at hl 0 rfl) ?_
      refine k_get (v := .ref no) (T := TX4) (C := RX4) (N := 11) cx hi_X4_note_4 hP 0 rfl rfl 5 (by decide) (by decide +kernel) rfl dX4_note_50 ?_
      refine lv_iconst (v := 0) hx hb dX4_note_53 (by decide) ?_
      refine lv_aload_n hx hb dX4_note_54 rfl (lv_at hl 0 rfl) ?_
      refine k_get (v := .ref di) (T := TX4) (C := RX4) (N := 11) cx hi_X4_note_4 hP 0 rfl rfl 7 (by decide) (by decide +kernel) rfl dX4_note_55 ?_
      refine lv_bipush (v := 101) hx hb dX4_note_58 (by decide) ?_
      refine lv_aload_n hx hb dX4_note_60 rfl (lv_at hl 0 rfl) ?_
      refine k_get (v := .int ((mf 8) - 1)) (T := TX4) (C := RX4) (N := 11) cx hi_X4_note_4 hP 0 rfl rfl 8 (by decide) (by decide +kernel) rfl dX4_note_61 ?_
      refine lv_imul hx hb dX4_note_64 ?_
      have hC := c_X4_copyPage l G no di 101 1414 pn dd 0 (101 * ((mf 8) - 1)) (cp0) (by first | exact cp_a hac c_6 | exact cp_b hmf)
      generalize hu65 : P_X4_copyPage 101 1414 pn dd 0 (101 * ((mf 8) - 1)) = u65 at hC hq
      refine k_v (ws' := [oMo m0 te re no tr di ke ik (upd mf 8 ((mf 8) - 1)), aI G no 101 pn, aI G di 1414 u65]) (as := [no, di]) cx hP hD hS [1, 2] rfl (kr_S (n := 4) (As := [.ref no, .int 0, .ref di, .int (101 * ((mf 8) - 1))]) cx hC gX4_note_X4_copyPage rfl rfl rfl (by decide +kernel) ⟨Nat.le_of_ble_eq_true rfl, Nat.le_of_ble_eq_true rfl⟩ hP hD [1, 2] rfl rfl rfl rfl hl (Nat.le_of_ble_eq_true rfl) dX4_note_65 ⟨Nat.le_refl _, Nat.le_refl _⟩) ⟨rfl, rfl⟩ rfl (fun H locs hP hD hS => ?_)
      refine lv_aload_n hx hb dX4_note_68 rfl (lv_at hl 0 rfl) ?_
      refine lv_dup hx hb dX4_note_69 rfl ?_
      refine k_get (v := .int ((mf 8) - 1)) (T := TX4) (C := RX4) (N := 11) cx hi_X4_note_4 hP 0 rfl rfl 8 (by decide) (by decide +kernel) rfl dX4_note_70 ?_
      refine lv_iconst (v := 1) hx hb dX4_note_73 (by decide) ?_
      refine lv_iadd hx hb dX4_note_74 ?_
      refine k_put (ws' := [oMo m0 te re no tr di ke ik (upd mf 8 (((mf 8) - 1) + 1)), aI G no 101 pn, aI G di 1414 u65]) (ty := .int) (T := TX4) (C := RX4) (N := 11) cx hi_X4_note_4 tyX4_ok nmX4 hP hD hS 0 rfl rfl 8 (by decide) (by decide +kernel) rfl rfl rfl rfl (Nat.le_of_ble_eq_true rfl) rfl dX4_note_75 (fun H locs hP hD hS => ?_)
      subst hq
      exact k_vret cx hP hS dX4_note_78
    · replace hq := (if_neg c_15).symm.trans hq
      refine lv_aload_n hx hb dX4_note_18 rfl (lv_at hl 0 rfl) ?_
      refine k_get (v := .ref di) (T := TX4) (C := RX4) (N := 11) cx hi_X4_note_4 hP 0 rfl rfl 7 (by decide) (by decide +kernel) rfl dX4_note_19 ?_
      refine lv_iload_n hx hb dX4_note_22 rfl (lv_at hl 1 rfl) ?_
      refine lv_aload_n hx hb dX4_note_23 rfl (lv_at hl 0 rfl) ?_
      refine k_get (v := .ref di) (T := TX4) (C := RX4) (N := 11) cx hi_X4_note_4 hP 0 rfl rfl 7 (by decide) (by decide +kernel) rfl dX4_note_24 ?_
      refine lv_iload_n hx hb dX4_note_27 rfl (lv_at hl 1 rfl) ?_
      refine lv_bipush (v := 101) hx hb dX4_note_28 (by decide) ?_
      refine lv_iadd hx hb dX4_note_30 ?_
      refine k_iald (j := (v1 + 101).toNatClampNeg) cx hP 2 rfl rfl (ix_nt1 h0 (by assumption)) dX4_note_31 ?_
      refine k_iast (ws' := [oMo m0 te re no tr di ke ik mf, aI G no 101 pn, aI G di 1414 (upd dd v1.toNatClampNeg (dd (v1 + 101).toNatClampNeg))]) (j := v1.toNatClampNeg) cx hP hD hS 2 rfl rfl (ix_nt h0 (by assumption)) rfl dX4_note_32 (fun H locs hP hD hS => ?_)
      refine lv_iinc (v := (v1 + 1)) (lv' := [(1, .int (v1 + 1)), (0, .ref m0)]) hx hb dX4_note_33 hl (k := 1) rfl rfl (by decide) rfl (fun ls hl => ?_)
      refine lv_goto (tgt := 11) hx hb dX4_note_36 (by decide) ?_
      exact ih (v1 + 1) mf (upd dd v1.toNatClampNeg (dd (v1 + 101).toNatClampNeg)) (nn_inc h0 (N := (1313 : Int32)) (by assumption)) (hmf) (by have hmd := mu_up (N := (1313 : Int32)) (by assumption); omega) hq H locs hP hD hS _ (lv_sub hl [1, 0] rfl)
def P_X4_note (mf : Nat → Int32) (pn : Nat → Int32) (dd : Nat → Int32) : (Nat → Int32) × (Nat → Int32) := (if (mf 8) = 14 then (P_X4_note_11 pn ((((1313 : Int32)).toInt - (0 : Int32).toInt).toNat + 1) 0 mf dd) else (let u65 := P_X4_copyPage 101 1414 pn dd 0 (101 * (mf 8)); ((upd mf 8 ((mf 8) + 1)), u65)))
set_option maxHeartbeats 4000000 in
set_option maxRecDepth 100000 in
theorem c_X4_note (l : Launch) (G : gG) (m0 : Nat) (te : Nat) (re : Nat) (no : Nat) (tr : Nat) (di : Nat) (ke : Nat) (ik : Nat) (mf : Nat → Int32) (pn : Nat → Int32) (dd : Nat → Int32) (hac : AB (mf 8)) : kM l G yX4_note wsX4_note rm_X4_note [.ref m0] [oMo m0 te re no tr di ke ik mf, aI G no 101 pn, aI G di 1414 dd] (qV G [oMo m0 te re no tr di ke ik ((P_X4_note mf pn dd).1), aI G no 101 pn, aI G di 1414 ((P_X4_note mf pn dd).2)]) := by
  refine k_body (cc := cX4_note) (nL := 2) (ret := none) (by decide) rfl (Nat.le_of_ble_eq_true rfl) ?_
  intro p e s m args below meth c A cx hP hD hS ls hl
  obtain ⟨hx, hb, hml, hown, hts, hr, hlocks, hK, hA⟩ := id cx
  obtain ⟨H, hH⟩ : ∃ H, H = s.heap := ⟨_, rfl⟩
  obtain ⟨locs, hL⟩ : ∃ locs : List Loc, locs = [] := ⟨_, rfl⟩
  obtain ⟨tgt, hq⟩ : ∃ tgt, (P_X4_note mf pn dd) = tgt := ⟨_, rfl⟩
  have hS : va_S A s.heap H locs := by rw [hH, hL]; exact hS
  rw [← hH] at hP
  have hl : lv_has ls 2 [(0, .ref m0)] := hl
  have key : ∀ (H : Heap) (locs : List Loc), va_P G.1 vwCl [oMo m0 te re no tr di ke ik mf, aI G no 101 pn, aI G di 1414 dd] H → va_D A [oMo m0 te re no tr di ke ik mf, aI G no 101 pn, aI G di 1414 dd] → va_S A s.heap H locs → W p l e rm_X4_note s m args below meth c H locs 0 0 (Q_X4_note G m0 te re no tr di ke ik pn tgt below args s A) (F0 m 0 ls []) := by
    clear hP hD hS hH hL
    intro H locs hP hD hS
    unfold P_X4_note at hq
    refine lv_aload_n hx hb dX4_note_0 rfl (lv_at hl 0 rfl) ?_
    refine k_get (v := .int (mf 8)) (T := TX4) (C := RX4) (N := 11) cx hi_X4_note_4 hP 0 rfl rfl 8 (by decide) (by decide +kernel) rfl dX4_note_1 ?_
    refine lv_bipush (v := 14) hx hb dX4_note_4 (by decide) ?_
    refine lv_icmp_ne (tgt := 49) hx hb dX4_note_6 (by decide) (fun c_6 => ?_) (fun c_6 => ?_)
    · replace hq := (if_neg c_6).symm.trans hq
      refine lv_aload_n hx hb dX4_note_49 rfl (lv_at hl 0 rfl) ?_
      refine k_get (v := .ref no) (T := TX4) (C := RX4) (N := 11) cx hi_X4_note_4 hP 0 rfl rfl 5 (by decide) (by decide +kernel) rfl dX4_note_50 ?_
      refine lv_iconst (v := 0) hx hb dX4_note_53 (by decide) ?_
      refine lv_aload_n hx hb dX4_note_54 rfl (lv_at hl 0 rfl) ?_
      refine k_get (v := .ref di) (T := TX4) (C := RX4) (N := 11) cx hi_X4_note_4 hP 0 rfl rfl 7 (by decide) (by decide +kernel) rfl dX4_note_55 ?_
      refine lv_bipush (v := 101) hx hb dX4_note_58 (by decide) ?_
      refine lv_aload_n hx hb dX4_note_60 rfl (lv_at hl 0 rfl) ?_
      refine k_get (v := .int (mf 8)) (T := TX4) (C := RX4) (N := 11) cx hi_X4_note_4 hP 0 rfl rfl 8 (by decide) (by decide +kernel) rfl dX4_note_61 ?_
      refine lv_imul hx hb dX4_note_64 ?_
      have hC := c_X4_copyPage l G no di 101 1414 pn dd 0 (101 * (mf 8)) (cp0) (by first | exact cp_a hac c_6 | exact cp_b hmf)
      generalize hu65 : P_X4_copyPage 101 1414 pn dd 0 (101 * (mf 8)) = u65 at hC hq
      refine k_v (ws' := [oMo m0 te re no tr di ke ik mf, aI G no 101 pn, aI G di 1414 u65]) (as := [no, di]) cx hP hD hS [1, 2] rfl (kr_S (n := 4) (As := [.ref no, .int 0, .ref di, .int (101 * (mf 8))]) cx hC gX4_note_X4_copyPage rfl rfl rfl (by decide +kernel) ⟨Nat.le_of_ble_eq_true rfl, Nat.le_of_ble_eq_true rfl⟩ hP hD [1, 2] rfl rfl rfl rfl hl (Nat.le_of_ble_eq_true rfl) dX4_note_65 ⟨Nat.le_refl _, Nat.le_refl _⟩) ⟨rfl, rfl⟩ rfl (fun H locs hP hD hS => ?_)
      refine lv_aload_n hx hb dX4_note_68 rfl (lv_at hl 0 rfl) ?_
      refine lv_dup hx hb dX4_note_69 rfl ?_
      refine k_get (v := .int (mf 8)) (T := TX4) (C := RX4) (N := 11) cx hi_X4_note_4 hP 0 rfl rfl 8 (by decide) (by decide +kernel) rfl dX4_note_70 ?_
      refine lv_iconst (v := 1) hx hb dX4_note_73 (by decide) ?_
      refine lv_iadd hx hb dX4_note_74 ?_
      refine k_put (ws' := [oMo m0 te re no tr di ke ik (upd mf 8 ((mf 8) + 1)), aI G no 101 pn, aI G di 1414 u65]) (ty := .int) (T := TX4) (C := RX4) (N := 11) cx hi_X4_note_4 tyX4_ok nmX4 hP hD hS 0 rfl rfl 8 (by decide) (by decide +kernel) rfl rfl rfl rfl (Nat.le_of_ble_eq_true rfl) rfl dX4_note_75 (fun H locs hP hD hS => ?_)
      subst hq
      exact k_vret cx hP hS dX4_note_78
    · replace hq := (if_pos c_6).symm.trans hq
      refine lv_iconst (v := 0) hx hb dX4_note_9 (by decide) ?_
      refine lv_istore_n (lv' := [(1, .int 0), (0, .ref m0)]) hx hb dX4_note_10 rfl hl (by decide) rfl (fun ls hl => ?_)
      exact b_X4_note_11 cx m0 te re no tr di ke ik pn  tgt ((((1313 : Int32)).toInt - (0 : Int32).toInt).toNat + 1) 0 mf dd (by decide) (c_6) (Nat.lt_succ_self _) hq H locs hP hD hS _ (lv_sub hl [1, 0] rfl)
  subst hL
  subst hH
  subst hq
  exact key _ _ hP hD hS

/-! X4_append -/
theorem hi_X4_append_4 : ∀ w ∈ u_ws RX4 TX4 11, w ∈ wsX4_append := by decide +kernel
abbrev rm_X4_append : Room := { frames := 1, cells := 0, slots := 0, locals := 25 }
abbrev Q_X4_append (G : gG) (m0 : Nat) (te : Nat) (re : Nat) (no : Nat) (tr : Nat) (di : Nat) (ke : Nat) (ik : Nat)   (tgt : Int32 × (Nat → Int32) × (Nat → Int32)) (below : List Frame) (args : Array Value) (s : State) (A : Nat → Prop) : State → Prop := MQ below (qI G tgt.1 [oMo m0 te re no tr di ke ik tgt.2.1, aI G te 60 tgt.2.2] A) args s 0 0 A
def P_X4_append (mf : Nat → Int32) (tt : Nat → Int32) (ch : Int32) : Int32 × (Nat → Int32) × (Nat → Int32) := (if (P_X4_in ((ch).toInt64) 0 255) = 0 then (0, (upd mf 0 1), tt) else (if (mf 2) = 60 then (0, (upd mf 0 2), tt) else (((mf 2) + 1), (upd (upd mf 0 0) 2 ((mf 2) + 1)), (upd tt (mf 2).toNatClampNeg ch))))
set_option maxHeartbeats 4000000 in
set_option maxRecDepth 100000 in
theorem c_X4_append (l : Launch) (G : gG) (m0 : Nat) (te : Nat) (re : Nat) (no : Nat) (tr : Nat) (di : Nat) (ke : Nat) (ik : Nat) (mf : Nat → Int32) (tt : Nat → Int32) (ch : Int32) (htb : TB (mf 2)) : kM l G yX4_append wsX4_append rm_X4_append [.ref m0, .int ch] [oMo m0 te re no tr di ke ik mf, aI G te 60 tt] (qI G ((P_X4_append mf tt ch).1) [oMo m0 te re no tr di ke ik ((P_X4_append mf tt ch).2.1), aI G te 60 ((P_X4_append mf tt ch).2.2)]) := by
  refine k_body (cc := cX4_append) (nL := 2) (ret := (some .int)) (by decide) rfl (Nat.le_of_ble_eq_true rfl) ?_
  intro p e s m args below meth c A cx hP hD hS ls hl
  obtain ⟨hx, hb, hml, hown, hts, hr, hlocks, hK, hA⟩ := id cx
  obtain ⟨H, hH⟩ : ∃ H, H = s.heap := ⟨_, rfl⟩
  obtain ⟨locs, hL⟩ : ∃ locs : List Loc, locs = [] := ⟨_, rfl⟩
  obtain ⟨tgt, hq⟩ : ∃ tgt, (P_X4_append mf tt ch) = tgt := ⟨_, rfl⟩
  have hS : va_S A s.heap H locs := by rw [hH, hL]; exact hS
  rw [← hH] at hP
  have hl : lv_has ls 2 [(0, .ref m0), (1, .int ch)] := hl
  have key : ∀ (H : Heap) (locs : List Loc), va_P G.1 vwCl [oMo m0 te re no tr di ke ik mf, aI G te 60 tt] H → va_D A [oMo m0 te re no tr di ke ik mf, aI G te 60 tt] → va_S A s.heap H locs → W p l e rm_X4_append s m args below meth c H locs 0 0 (Q_X4_append G m0 te re no tr di ke ik tgt below args s A) (F0 m 0 ls []) := by
    clear hP hD hS hH hL
    intro H locs hP hD hS
    unfold P_X4_append at hq
    refine lv_aload_n hx hb dX4_append_0 rfl (lv_at hl 0 rfl) ?_
    refine lv_iload_n hx hb dX4_append_1 rfl (lv_at hl 1 rfl) ?_
    refine lv_i2l hx hb dX4_append_2 rfl ?_
    refine lv_lconst (v := 0) hx hb dX4_append_3 (by decide) ?_
    refine k_ldc2 (v := 255) cx (by decide +kernel) dX4_append_4 ?_
    have hC := c_X4_in l G ((ch).toInt64) 0 255
    refine k_i (ws' := [oMo m0 te re no tr di ke ik mf, aI G te 60 tt]) (as := []) cx hP hD hS [] rfl (kr_S (n := 3) (As := [.long (ch).toInt64, .long 0, .long 255]) cx hC gX4_append_X4_in rfl rfl rfl (by decide +kernel) ⟨Nat.le_of_ble_eq_true rfl, Nat.le_of_ble_eq_true rfl⟩ hP hD [] rfl rfl rfl rfl hl (Nat.le_of_ble_eq_true rfl) dX4_append_7 ⟨Nat.le_refl _, Nat.le_refl _⟩) ⟨rfl, rfl⟩ rfl (fun H locs hP hD hS => ?_)
    refine lv_if_ne (tgt := 17) hx hb dX4_append_10 (by decide) (fun c_10 => ?_) (fun c_10 => ?_)
    · replace hq := (if_neg c_10).symm.trans hq
      refine lv_aload_n hx hb dX4_append_17 rfl (lv_at hl 0 rfl) ?_
      refine k_get (v := .int (mf 2)) (T := TX4) (C := RX4) (N := 11) cx hi_X4_append_4 hP 0 rfl rfl 2 (by decide) (by decide +kernel) rfl dX4_append_18 ?_
      refine lv_bipush (v := 60) hx hb dX4_append_21 (by decide) ?_
      refine lv_icmp_ne (tgt := 30) hx hb dX4_append_23 (by decide) (fun c_23 => ?_) (fun c_23 => ?_)
      · replace hq := (if_neg c_23).symm.trans hq
        refine lv_iconst (v := 0) hx hb dX4_append_30 (by decide) ?_
        have hC := c_X4_refused l G m0 te re no tr di ke ik mf 0
        rw [ref_0] at hC
        refine k_i (r := 0) (ws' := [oMo m0 te re no tr di ke ik (upd mf 0 0), aI G te 60 tt]) (as := [m0]) cx hP hD hS [0] rfl (kr_V (n := 1) (As := [.int 0]) (ci := 4) cx hC gX4_append_X4_refused rfl rfl rfl (by decide +kernel) ⟨Nat.le_of_ble_eq_true rfl, Nat.le_of_ble_eq_true rfl⟩ rfl rfl rfl hP hD [0] rfl rfl rfl rfl hl (Nat.le_of_ble_eq_true rfl) dX4_append_31 ⟨Nat.le_refl _, Nat.le_refl _⟩) ⟨rfl, rfl⟩ rfl (fun H locs hP hD hS => ?_)
        refine lv_if_eq (tgt := 39) hx hb dX4_append_34 (by decide) (fun _ => ?_) (fun cz => absurd (by decide) cz)
        refine lv_aload_n hx hb dX4_append_39 rfl (lv_at hl 0 rfl) ?_
        refine k_get (v := .ref te) (T := TX4) (C := RX4) (N := 11) cx hi_X4_append_4 hP 0 rfl rfl 1 (by decide) (by decide +kernel) rfl dX4_append_40 ?_
        refine lv_aload_n hx hb dX4_append_43 rfl (lv_at hl 0 rfl) ?_
        refine k_get (v := .int (mf 2)) (T := TX4) (C := RX4) (N := 11) cx hi_X4_append_4 hP 0 rfl rfl 2 (by decide) (by decide +kernel) rfl dX4_append_44 ?_
        refine lv_iload_n hx hb dX4_append_47 rfl (lv_at hl 1 rfl) ?_
        refine k_iast (ws' := [oMo m0 te re no tr di ke ik (upd mf 0 0), aI G te 60 (upd tt (mf 2).toNatClampNeg ch)]) (j := (mf 2).toNatClampNeg) cx hP hD hS 1 rfl rfl (ix_app htb c_23) rfl dX4_append_48 (fun H locs hP hD hS => ?_)
        refine lv_aload_n hx hb dX4_append_49 rfl (lv_at hl 0 rfl) ?_
        refine lv_dup hx hb dX4_append_50 rfl ?_
        refine k_get (v := .int (mf 2)) (T := TX4) (C := RX4) (N := 11) cx hi_X4_append_4 hP 0 rfl rfl 2 (by decide) (by decide +kernel) rfl dX4_append_51 ?_
        refine lv_iconst (v := 1) hx hb dX4_append_54 (by decide) ?_
        refine lv_iadd hx hb dX4_append_55 ?_
        refine k_put (ws' := [oMo m0 te re no tr di ke ik (upd (upd mf 0 0) 2 ((mf 2) + 1)), aI G te 60 (upd tt (mf 2).toNatClampNeg ch)]) (ty := .int) (T := TX4) (C := RX4) (N := 11) cx hi_X4_append_4 tyX4_ok nmX4 hP hD hS 0 rfl rfl 2 (by decide) (by decide +kernel) rfl rfl rfl rfl (Nat.le_of_ble_eq_true rfl) rfl dX4_append_56 (fun H locs hP hD hS => ?_)
        refine lv_aload_n hx hb dX4_append_59 rfl (lv_at hl 0 rfl) ?_
        refine k_get (v := .int ((mf 2) + 1)) (T := TX4) (C := RX4) (N := 11) cx hi_X4_append_4 hP 0 rfl rfl 2 (by decide) (by decide +kernel) rfl dX4_append_60 ?_
        subst hq
        exact k_iret cx hP hS dX4_append_63
      · replace hq := (if_pos c_23).symm.trans hq
        refine lv_iconst (v := 2) hx hb dX4_append_26 (by decide) ?_
        refine lv_goto (tgt := 31) hx hb dX4_append_27 (by decide) ?_
        have hC := c_X4_refused l G m0 te re no tr di ke ik mf 2
        rw [ref_2] at hC
        refine k_i (r := 1) (ws' := [oMo m0 te re no tr di ke ik (upd mf 0 2), aI G te 60 tt]) (as := [m0]) cx hP hD hS [0] rfl (kr_V (n := 1) (As := [.int 2]) (ci := 4) cx hC gX4_append_X4_refused rfl rfl rfl (by decide +kernel) ⟨Nat.le_of_ble_eq_true rfl, Nat.le_of_ble_eq_true rfl⟩ rfl rfl rfl hP hD [0] rfl rfl rfl rfl hl (Nat.le_of_ble_eq_true rfl) dX4_append_31 ⟨Nat.le_refl _, Nat.le_refl _⟩) ⟨rfl, rfl⟩ rfl (fun H locs hP hD hS => ?_)
        refine lv_if_eq (tgt := 39) hx hb dX4_append_34 (by decide) (fun cz => absurd cz (by decide)) (fun _ => ?_)
        refine lv_iconst (v := 0) hx hb dX4_append_37 (by decide) ?_
        subst hq
        exact k_iret cx hP hS dX4_append_38
    · replace hq := (if_pos c_10).symm.trans hq
      refine lv_iconst (v := 1) hx hb dX4_append_13 (by decide) ?_
      refine lv_goto (tgt := 31) hx hb dX4_append_14 (by decide) ?_
      have hC := c_X4_refused l G m0 te re no tr di ke ik mf 1
      rw [ref_1] at hC
      refine k_i (r := 1) (ws' := [oMo m0 te re no tr di ke ik (upd mf 0 1), aI G te 60 tt]) (as := [m0]) cx hP hD hS [0] rfl (kr_V (n := 1) (As := [.int 1]) (ci := 4) cx hC gX4_append_X4_refused rfl rfl rfl (by decide +kernel) ⟨Nat.le_of_ble_eq_true rfl, Nat.le_of_ble_eq_true rfl⟩ rfl rfl rfl hP hD [0] rfl rfl rfl rfl hl (Nat.le_of_ble_eq_true rfl) dX4_append_31 ⟨Nat.le_refl _, Nat.le_refl _⟩) ⟨rfl, rfl⟩ rfl (fun H locs hP hD hS => ?_)
      refine lv_if_eq (tgt := 39) hx hb dX4_append_34 (by decide) (fun cz => absurd cz (by decide)) (fun _ => ?_)
      refine lv_iconst (v := 0) hx hb dX4_append_37 (by decide) ?_
      subst hq
      exact k_iret cx hP hS dX4_append_38
  subst hL
  subst hH
  subst hq
  exact key _ _ hP hD hS

/-! X4_clearText -/
theorem hi_X4_clearText_4 : ∀ w ∈ u_ws RX4 TX4 11, w ∈ wsX4_clearText := by decide +kernel
abbrev rm_X4_clearText : Room := { frames := 0, cells := 0, slots := 0, locals := 0 }
abbrev Q_X4_clearText (G : gG) (m0 : Nat) (te : Nat) (re : Nat) (no : Nat) (tr : Nat) (di : Nat) (ke : Nat) (ik : Nat)   (tgt : Int32 × (Nat → Int32)) (below : List Frame) (args : Array Value) (s : State) (A : Nat → Prop) : State → Prop := MQ below (qI G tgt.1 [oMo m0 te re no tr di ke ik tgt.2] A) args s 0 0 A
def P_X4_clearText (mf : Nat → Int32) : Int32 × (Nat → Int32) := ((mf 2), (upd (upd mf 0 0) 2 0))
set_option maxHeartbeats 4000000 in
set_option maxRecDepth 100000 in
theorem c_X4_clearText (l : Launch) (G : gG) (m0 : Nat) (te : Nat) (re : Nat) (no : Nat) (tr : Nat) (di : Nat) (ke : Nat) (ik : Nat) (mf : Nat → Int32)  : kM l G yX4_clearText wsX4_clearText rm_X4_clearText [.ref m0] [oMo m0 te re no tr di ke ik mf] (qI G ((P_X4_clearText mf).1) [oMo m0 te re no tr di ke ik ((P_X4_clearText mf).2)]) := by
  refine k_body (cc := cX4_clearText) (nL := 2) (ret := (some .int)) (by decide) rfl (Nat.le_of_ble_eq_true rfl) ?_
  intro p e s m args below meth c A cx hP hD hS ls hl
  obtain ⟨hx, hb, hml, hown, hts, hr, hlocks, hK, hA⟩ := id cx
  obtain ⟨H, hH⟩ : ∃ H, H = s.heap := ⟨_, rfl⟩
  obtain ⟨locs, hL⟩ : ∃ locs : List Loc, locs = [] := ⟨_, rfl⟩
  obtain ⟨tgt, hq⟩ : ∃ tgt, (P_X4_clearText mf) = tgt := ⟨_, rfl⟩
  have hS : va_S A s.heap H locs := by rw [hH, hL]; exact hS
  rw [← hH] at hP
  have hl : lv_has ls 2 [(0, .ref m0)] := hl
  have key : ∀ (H : Heap) (locs : List Loc), va_P G.1 vwCl [oMo m0 te re no tr di ke ik mf] H → va_D A [oMo m0 te re no tr di ke ik mf] → va_S A s.heap H locs → W p l e rm_X4_clearText s m args below meth c H locs 0 0 (Q_X4_clearText G m0 te re no tr di ke ik tgt below args s A) (F0 m 0 ls []) := by
    clear hP hD hS hH hL
    intro H locs hP hD hS
    unfold P_X4_clearText at hq
    refine lv_aload_n hx hb dX4_clearText_0 rfl (lv_at hl 0 rfl) ?_
    refine lv_iconst (v := 0) hx hb dX4_clearText_1 (by decide) ?_
    refine k_put (ws' := [oMo m0 te re no tr di ke ik (upd mf 0 0)]) (ty := .int) (T := TX4) (C := RX4) (N := 11) cx hi_X4_clearText_4 tyX4_ok nmX4 hP hD hS 0 rfl rfl 0 (by decide) (by decide +kernel) rfl rfl rfl rfl (Nat.le_of_ble_eq_true rfl) rfl dX4_clearText_2 (fun H locs hP hD hS => ?_)
    refine lv_aload_n hx hb dX4_clearText_5 rfl (lv_at hl 0 rfl) ?_
    refine k_get (v := .int (mf 2)) (T := TX4) (C := RX4) (N := 11) cx hi_X4_clearText_4 hP 0 rfl rfl 2 (by decide) (by decide +kernel) rfl dX4_clearText_6 ?_
    refine lv_istore_n (lv' := [(1, .int (mf 2)), (0, .ref m0)]) hx hb dX4_clearText_9 rfl hl (by decide) rfl (fun ls hl => ?_)
    refine lv_aload_n hx hb dX4_clearText_10 rfl (lv_at hl 1 rfl) ?_
    refine lv_iconst (v := 0) hx hb dX4_clearText_11 (by decide) ?_
    refine k_put (ws' := [oMo m0 te re no tr di ke ik (upd (upd mf 0 0) 2 0)]) (ty := .int) (T := TX4) (C := RX4) (N := 11) cx hi_X4_clearText_4 tyX4_ok nmX4 hP hD hS 0 rfl rfl 2 (by decide) (by decide +kernel) rfl rfl rfl rfl (Nat.le_of_ble_eq_true rfl) rfl dX4_clearText_12 (fun H locs hP hD hS => ?_)
    refine lv_iload_n hx hb dX4_clearText_15 rfl (lv_at hl 0 rfl) ?_
    subst hq
    exact k_iret cx hP hS dX4_clearText_16
  subst hL
  subst hH
  subst hq
  exact key _ _ hP hD hS

/-! X4_about -/
theorem hi_X4_about_4 : ∀ w ∈ u_ws RX4 TX4 11, w ∈ wsX4_about := by decide +kernel
abbrev rm_X4_about : Room := { frames := 1, cells := 0, slots := 0, locals := 25 }
abbrev Q_X4_about (G : gG) (m0 : Nat) (te : Nat) (re : Nat) (no : Nat) (tr : Nat) (di : Nat) (ke : Nat) (ik : Nat)  (pn : Nat → Int32) (tgt : Int32 × (Nat → Int32)) (below : List Frame) (args : Array Value) (s : State) (A : Nat → Prop) : State → Prop := MQ below (qI G tgt.1 [oMo m0 te re no tr di ke ik tgt.2, aI G no 101 pn] A) args s 0 0 A
def P_X4_about (mf : Nat → Int32) (pn : Nat → Int32) (what : Int32) : Int32 × (Nat → Int32) := (if (P_X4_in ((what).toInt64) 0 15) = 0 then (0, (upd mf 0 1)) else (if 8 ≤ what then (if what = 8 then ((P_X4_offsetOf pn), (upd mf 0 0)) else ((pn (what - 1).toNatClampNeg), (upd mf 0 0))) else ((pn what.toNatClampNeg), (upd mf 0 0))))
set_option maxHeartbeats 4000000 in
set_option maxRecDepth 100000 in
theorem c_X4_about (l : Launch) (G : gG) (m0 : Nat) (te : Nat) (re : Nat) (no : Nat) (tr : Nat) (di : Nat) (ke : Nat) (ik : Nat) (mf : Nat → Int32) (pn : Nat → Int32) (what : Int32)  : kM l G yX4_about wsX4_about rm_X4_about [.ref m0, .int what] [oMo m0 te re no tr di ke ik mf, aI G no 101 pn] (qI G ((P_X4_about mf pn what).1) [oMo m0 te re no tr di ke ik ((P_X4_about mf pn what).2), aI G no 101 pn]) := by
  refine k_body (cc := cX4_about) (nL := 2) (ret := (some .int)) (by decide) rfl (Nat.le_of_ble_eq_true rfl) ?_
  intro p e s m args below meth c A cx hP hD hS ls hl
  obtain ⟨hx, hb, hml, hown, hts, hr, hlocks, hK, hA⟩ := id cx
  obtain ⟨H, hH⟩ : ∃ H, H = s.heap := ⟨_, rfl⟩
  obtain ⟨locs, hL⟩ : ∃ locs : List Loc, locs = [] := ⟨_, rfl⟩
  obtain ⟨tgt, hq⟩ : ∃ tgt, (P_X4_about mf pn what) = tgt := ⟨_, rfl⟩
  have hS : va_S A s.heap H locs := by rw [hH, hL]; exact hS
  rw [← hH] at hP
  have hl : lv_has ls 2 [(0, .ref m0), (1, .int what)] := hl
  have key : ∀ (H : Heap) (locs : List Loc), va_P G.1 vwCl [oMo m0 te re no tr di ke ik mf, aI G no 101 pn] H → va_D A [oMo m0 te re no tr di ke ik mf, aI G no 101 pn] → va_S A s.heap H locs → W p l e rm_X4_about s m args below meth c H locs 0 0 (Q_X4_about G m0 te re no tr di ke ik pn tgt below args s A) (F0 m 0 ls []) := by
    clear hP hD hS hH hL
    intro H locs hP hD hS
    unfold P_X4_about at hq
    refine lv_aload_n hx hb dX4_about_0 rfl (lv_at hl 0 rfl) ?_
    refine lv_iload_n hx hb dX4_about_1 rfl (lv_at hl 1 rfl) ?_
    refine lv_i2l hx hb dX4_about_2 rfl ?_
    refine lv_lconst (v := 0) hx hb dX4_about_3 (by decide) ?_
    refine k_ldc2 (v := 15) cx (by decide +kernel) dX4_about_4 ?_
    have hC := c_X4_in l G ((what).toInt64) 0 15
    refine k_i (ws' := [oMo m0 te re no tr di ke ik mf, aI G no 101 pn]) (as := []) cx hP hD hS [] rfl (kr_S (n := 3) (As := [.long (what).toInt64, .long 0, .long 15]) cx hC gX4_about_X4_in rfl rfl rfl (by decide +kernel) ⟨Nat.le_of_ble_eq_true rfl, Nat.le_of_ble_eq_true rfl⟩ hP hD [] rfl rfl rfl rfl hl (Nat.le_of_ble_eq_true rfl) dX4_about_7 ⟨Nat.le_refl _, Nat.le_refl _⟩) ⟨rfl, rfl⟩ rfl (fun H locs hP hD hS => ?_)
    refine lv_if_eq (tgt := 17) hx hb dX4_about_10 (by decide) (fun c_10 => ?_) (fun c_10 => ?_)
    · replace hq := (if_pos c_10).symm.trans hq
      refine lv_iconst (v := 1) hx hb dX4_about_17 (by decide) ?_
      have hC := c_X4_refused l G m0 te re no tr di ke ik mf 1
      rw [ref_1] at hC
      refine k_i (r := 1) (ws' := [oMo m0 te re no tr di ke ik (upd mf 0 1), aI G no 101 pn]) (as := [m0]) cx hP hD hS [0] rfl (kr_V (n := 1) (As := [.int 1]) (ci := 4) cx hC gX4_about_X4_refused rfl rfl rfl (by decide +kernel) ⟨Nat.le_of_ble_eq_true rfl, Nat.le_of_ble_eq_true rfl⟩ rfl rfl rfl hP hD [0] rfl rfl rfl rfl hl (Nat.le_of_ble_eq_true rfl) dX4_about_18 ⟨Nat.le_refl _, Nat.le_refl _⟩) ⟨rfl, rfl⟩ rfl (fun H locs hP hD hS => ?_)
      refine lv_if_eq (tgt := 26) hx hb dX4_about_21 (by decide) (fun cz => absurd cz (by decide)) (fun _ => ?_)
      refine lv_iconst (v := 0) hx hb dX4_about_24 (by decide) ?_
      subst hq
      exact k_iret cx hP hS dX4_about_25
    · replace hq := (if_neg c_10).symm.trans hq
      refine lv_iconst (v := 0) hx hb dX4_about_13 (by decide) ?_
      refine lv_goto (tgt := 18) hx hb dX4_about_14 (by decide) ?_
      have hC := c_X4_refused l G m0 te re no tr di ke ik mf 0
      rw [ref_0] at hC
      refine k_i (r := 0) (ws' := [oMo m0 te re no tr di ke ik (upd mf 0 0), aI G no 101 pn]) (as := [m0]) cx hP hD hS [0] rfl (kr_V (n := 1) (As := [.int 0]) (ci := 4) cx hC gX4_about_X4_refused rfl rfl rfl (by decide +kernel) ⟨Nat.le_of_ble_eq_true rfl, Nat.le_of_ble_eq_true rfl⟩ rfl rfl rfl hP hD [0] rfl rfl rfl rfl hl (Nat.le_of_ble_eq_true rfl) dX4_about_18 ⟨Nat.le_refl _, Nat.le_refl _⟩) ⟨rfl, rfl⟩ rfl (fun H locs hP hD hS => ?_)
      refine lv_if_eq (tgt := 26) hx hb dX4_about_21 (by decide) (fun _ => ?_) (fun cz => absurd (by decide) cz)
      refine lv_iload_n hx hb dX4_about_26 rfl (lv_at hl 1 rfl) ?_
      refine lv_bipush (v := 8) hx hb dX4_about_27 (by decide) ?_
      refine lv_icmp_ge (tgt := 41) hx hb dX4_about_29 (by decide) (fun c_29 => ?_) (fun c_29 => ?_)
      · replace hq := (if_pos c_29).symm.trans hq
        refine lv_iload_n hx hb dX4_about_41 rfl (lv_at hl 1 rfl) ?_
        refine lv_bipush (v := 8) hx hb dX4_about_42 (by decide) ?_
        refine lv_icmp_ne (tgt := 57) hx hb dX4_about_44 (by decide) (fun c_44 => ?_) (fun c_44 => ?_)
        · replace hq := (if_neg c_44).symm.trans hq
          refine lv_aload_n hx hb dX4_about_57 rfl (lv_at hl 0 rfl) ?_
          refine k_get (v := .ref no) (T := TX4) (C := RX4) (N := 11) cx hi_X4_about_4 hP 0 rfl rfl 5 (by decide) (by decide +kernel) rfl dX4_about_58 ?_
          refine lv_iload_n hx hb dX4_about_61 rfl (lv_at hl 1 rfl) ?_
          refine lv_iconst (v := 1) hx hb dX4_about_62 (by decide) ?_
          refine lv_isub hx hb dX4_about_63 ?_
          refine k_iald (j := (what - 1).toNatClampNeg) cx hP 1 rfl rfl (ix_ab2 c_10 c_29 c_44) dX4_about_64 ?_
          subst hq
          exact k_iret cx hP hS dX4_about_65
        · replace hq := (if_pos c_44).symm.trans hq
          refine lv_aload_n hx hb dX4_about_47 rfl (lv_at hl 0 rfl) ?_
          refine k_get (v := .ref no) (T := TX4) (C := RX4) (N := 11) cx hi_X4_about_4 hP 0 rfl rfl 5 (by decide) (by decide +kernel) rfl dX4_about_48 ?_
          have hC := c_X4_offsetOf l G no pn
          refine k_i (ws' := [oMo m0 te re no tr di ke ik (upd mf 0 0), aI G no 101 pn]) (as := [no]) cx hP hD hS [1] rfl (kr_S (n := 1) (As := [.ref no]) cx hC gX4_about_X4_offsetOf rfl rfl rfl (by decide +kernel) ⟨Nat.le_of_ble_eq_true rfl, Nat.le_of_ble_eq_true rfl⟩ hP hD [1] rfl rfl rfl rfl hl (Nat.le_of_ble_eq_true rfl) dX4_about_51 ⟨Nat.le_refl _, Nat.le_refl _⟩) ⟨rfl, rfl⟩ rfl (fun H locs hP hD hS => ?_)
          refine lv_goto (tgt := 65) hx hb dX4_about_54 (by decide) ?_
          subst hq
          exact k_iret cx hP hS dX4_about_65
      · replace hq := (if_neg c_29).symm.trans hq
        refine lv_aload_n hx hb dX4_about_32 rfl (lv_at hl 0 rfl) ?_
        refine k_get (v := .ref no) (T := TX4) (C := RX4) (N := 11) cx hi_X4_about_4 hP 0 rfl rfl 5 (by decide) (by decide +kernel) rfl dX4_about_33 ?_
        refine lv_iload_n hx hb dX4_about_36 rfl (lv_at hl 1 rfl) ?_
        refine k_iald (j := what.toNatClampNeg) cx hP 1 rfl rfl (ix_ab1 c_10 c_29) dX4_about_37 ?_
        refine lv_goto (tgt := 65) hx hb dX4_about_38 (by decide) ?_
        subst hq
        exact k_iret cx hP hS dX4_about_65
  subst hL
  subst hH
  subst hq
  exact key _ _ hP hD hS

/-! X4_told -/
theorem hi_X4_told_4 : ∀ w ∈ u_ws RX4 TX4 11, w ∈ wsX4_told := by decide +kernel
abbrev rm_X4_told : Room := { frames := 1, cells := 0, slots := 0, locals := 25 }
abbrev Q_X4_told (G : gG) (m0 : Nat) (te : Nat) (re : Nat) (no : Nat) (tr : Nat) (di : Nat) (ke : Nat) (ik : Nat)  (pn : Nat → Int32) (tgt : Int32 × (Nat → Int32)) (below : List Frame) (args : Array Value) (s : State) (A : Nat → Prop) : State → Prop := MQ below (qI G tgt.1 [oMo m0 te re no tr di ke ik tgt.2, aI G no 101 pn] A) args s 0 0 A
def P_X4_told (mf : Nat → Int32) (pn : Nat → Int32) (j : Int32) (what : Int32) : Int32 × (Nat → Int32) := (let j21 := fun (_ : Unit) => (0, (upd mf 0 1)); (if j < 0 then (j21 ()) else (if (P_X4_in ((what).toInt64) 0 3) = 0 then (j21 ()) else (if (pn 12) ≤ j then ((-9999), (upd mf 0 0)) else ((pn ((21 + (4 * j)) + what).toNatClampNeg), (upd mf 0 0))))))
set_option maxHeartbeats 4000000 in
set_option maxRecDepth 100000 in
theorem c_X4_told (l : Launch) (G : gG) (m0 : Nat) (te : Nat) (re : Nat) (no : Nat) (tr : Nat) (di : Nat) (ke : Nat) (ik : Nat) (mf : Nat → Int32) (pn : Nat → Int32) (j : Int32) (what : Int32) (hpv : PV pn) : kM l G yX4_told wsX4_told rm_X4_told [.ref m0, .int j, .int what] [oMo m0 te re no tr di ke ik mf, aI G no 101 pn] (qI G ((P_X4_told mf pn j what).1) [oMo m0 te re no tr di ke ik ((P_X4_told mf pn j what).2), aI G no 101 pn]) := by
  refine k_body (cc := cX4_told) (nL := 3) (ret := (some .int)) (by decide) rfl (Nat.le_of_ble_eq_true rfl) ?_
  intro p e s m args below meth c A cx hP hD hS ls hl
  obtain ⟨hx, hb, hml, hown, hts, hr, hlocks, hK, hA⟩ := id cx
  obtain ⟨H, hH⟩ : ∃ H, H = s.heap := ⟨_, rfl⟩
  obtain ⟨locs, hL⟩ : ∃ locs : List Loc, locs = [] := ⟨_, rfl⟩
  obtain ⟨tgt, hq⟩ : ∃ tgt, (P_X4_told mf pn j what) = tgt := ⟨_, rfl⟩
  have hS : va_S A s.heap H locs := by rw [hH, hL]; exact hS
  rw [← hH] at hP
  have hl : lv_has ls 3 [(0, .ref m0), (1, .int j), (2, .int what)] := hl
  have key : ∀ (H : Heap) (locs : List Loc), va_P G.1 vwCl [oMo m0 te re no tr di ke ik mf, aI G no 101 pn] H → va_D A [oMo m0 te re no tr di ke ik mf, aI G no 101 pn] → va_S A s.heap H locs → W p l e rm_X4_told s m args below meth c H locs 0 0 (Q_X4_told G m0 te re no tr di ke ik pn tgt below args s A) (F0 m 0 ls []) := by
    clear hP hD hS hH hL
    intro H locs hP hD hS
    unfold P_X4_told at hq
    refine lv_aload_n hx hb dX4_told_0 rfl (lv_at hl 0 rfl) ?_
    refine lv_iload_n hx hb dX4_told_1 rfl (lv_at hl 1 rfl) ?_
    have J21 : ∀ (_ : Unit), (0, (upd mf 0 1)) = tgt → ∀ (H : Heap) (locs : List Loc) (ls : Array Slot), va_P G.1 vwCl [oMo m0 te re no tr di ke ik mf, aI G no 101 pn] H → va_D A [oMo m0 te re no tr di ke ik mf, aI G no 101 pn] → va_S A s.heap H locs → lv_has ls 3 [(0, .ref m0), (1, .int j), (2, .int what)] → W p l e rm_X4_told s m args below meth c H locs 0 0 (Q_X4_told G m0 te re no tr di ke ik pn tgt below args s A) (F0 m 21 ls [.ref m0]) := by
      intro _ hq H locs ls hP hD hS hl
      refine lv_iconst (v := 1) hx hb dX4_told_21 (by decide) ?_
      have hC := c_X4_refused l G m0 te re no tr di ke ik mf 1
      rw [ref_1] at hC
      refine k_i (r := 1) (ws' := [oMo m0 te re no tr di ke ik (upd mf 0 1), aI G no 101 pn]) (as := [m0]) cx hP hD hS [0] rfl (kr_V (n := 1) (As := [.int 1]) (ci := 4) cx hC gX4_told_X4_refused rfl rfl rfl (by decide +kernel) ⟨Nat.le_of_ble_eq_true rfl, Nat.le_of_ble_eq_true rfl⟩ rfl rfl rfl hP hD [0] rfl rfl rfl rfl hl (Nat.le_of_ble_eq_true rfl) dX4_told_22 ⟨Nat.le_refl _, Nat.le_refl _⟩) ⟨rfl, rfl⟩ rfl (fun H locs hP hD hS => ?_)
      refine lv_if_eq (tgt := 30) hx hb dX4_told_25 (by decide) (fun cz => absurd cz (by decide)) (fun _ => ?_)
      refine lv_iconst (v := 0) hx hb dX4_told_28 (by decide) ?_
      subst hq
      exact k_iret cx hP hS dX4_told_29
    refine lv_if_lt (tgt := 21) hx hb dX4_told_2 (by decide) (fun c_2 => ?_) (fun c_2 => ?_)
    · replace hq := (if_pos c_2).symm.trans hq
      exact J21 () hq H locs ls hP hD hS (lv_sub hl [0, 1, 2] rfl)
    · replace hq := (if_neg c_2).symm.trans hq
      refine lv_iload_n hx hb dX4_told_5 rfl (lv_at hl 2 rfl) ?_
      refine lv_i2l hx hb dX4_told_6 rfl ?_
      refine lv_lconst (v := 0) hx hb dX4_told_7 (by decide) ?_
      refine k_ldc2 (v := 3) cx (by decide +kernel) dX4_told_8 ?_
      have hC := c_X4_in l G ((what).toInt64) 0 3
      refine k_i (ws' := [oMo m0 te re no tr di ke ik mf, aI G no 101 pn]) (as := []) cx hP hD hS [] rfl (kr_S (n := 3) (As := [.long (what).toInt64, .long 0, .long 3]) cx hC gX4_told_X4_in rfl rfl rfl (by decide +kernel) ⟨Nat.le_of_ble_eq_true rfl, Nat.le_of_ble_eq_true rfl⟩ hP hD [] rfl rfl rfl rfl hl (Nat.le_of_ble_eq_true rfl) dX4_told_11 ⟨Nat.le_refl _, Nat.le_refl _⟩) ⟨rfl, rfl⟩ rfl (fun H locs hP hD hS => ?_)
      refine lv_if_eq (tgt := 21) hx hb dX4_told_14 (by decide) (fun c_14 => ?_) (fun c_14 => ?_)
      · replace hq := (if_pos c_14).symm.trans hq
        exact J21 () hq H locs ls hP hD hS (lv_sub hl [0, 1, 2] rfl)
      · replace hq := (if_neg c_14).symm.trans hq
        refine lv_iconst (v := 0) hx hb dX4_told_17 (by decide) ?_
        refine lv_goto (tgt := 22) hx hb dX4_told_18 (by decide) ?_
        have hC := c_X4_refused l G m0 te re no tr di ke ik mf 0
        rw [ref_0] at hC
        refine k_i (r := 0) (ws' := [oMo m0 te re no tr di ke ik (upd mf 0 0), aI G no 101 pn]) (as := [m0]) cx hP hD hS [0] rfl (kr_V (n := 1) (As := [.int 0]) (ci := 4) cx hC gX4_told_X4_refused rfl rfl rfl (by decide +kernel) ⟨Nat.le_of_ble_eq_true rfl, Nat.le_of_ble_eq_true rfl⟩ rfl rfl rfl hP hD [0] rfl rfl rfl rfl hl (Nat.le_of_ble_eq_true rfl) dX4_told_22 ⟨Nat.le_refl _, Nat.le_refl _⟩) ⟨rfl, rfl⟩ rfl (fun H locs hP hD hS => ?_)
        refine lv_if_eq (tgt := 30) hx hb dX4_told_25 (by decide) (fun _ => ?_) (fun cz => absurd (by decide) cz)
        refine lv_iload_n hx hb dX4_told_30 rfl (lv_at hl 1 rfl) ?_
        refine lv_aload_n hx hb dX4_told_31 rfl (lv_at hl 0 rfl) ?_
        refine k_get (v := .ref no) (T := TX4) (C := RX4) (N := 11) cx hi_X4_told_4 hP 0 rfl rfl 5 (by decide) (by decide +kernel) rfl dX4_told_32 ?_
        refine lv_bipush (v := 12) hx hb dX4_told_35 (by decide) ?_
        refine k_iald (j := 12) cx hP 1 rfl (by decide) (by unfold vp_in; decide) dX4_told_37 ?_
        refine lv_icmp_ge (tgt := 57) hx hb dX4_told_38 (by decide) (fun c_38 => ?_) (fun c_38 => ?_)
        · replace hq := (if_pos c_38).symm.trans hq
          refine lv_sipush (v := (-9999)) hx hb dX4_told_57 (by decide) ?_
          subst hq
          exact k_iret cx hP hS dX4_told_60
        · replace hq := (if_neg c_38).symm.trans hq
          refine lv_aload_n hx hb dX4_told_41 rfl (lv_at hl 0 rfl) ?_
          refine k_get (v := .ref no) (T := TX4) (C := RX4) (N := 11) cx hi_X4_told_4 hP 0 rfl rfl 5 (by decide) (by decide +kernel) rfl dX4_told_42 ?_
          refine lv_bipush (v := 21) hx hb dX4_told_45 (by decide) ?_
          refine lv_iconst (v := 4) hx hb dX4_told_47 (by decide) ?_
          refine lv_iload_n hx hb dX4_told_48 rfl (lv_at hl 1 rfl) ?_
          refine lv_imul hx hb dX4_told_49 ?_
          refine lv_iadd hx hb dX4_told_50 ?_
          refine lv_iload_n hx hb dX4_told_51 rfl (lv_at hl 2 rfl) ?_
          refine lv_iadd hx hb dX4_told_52 ?_
          refine k_iald (j := ((21 + (4 * j)) + what).toNatClampNeg) cx hP 1 rfl rfl (ix_told hpv c_2 c_14 c_38) dX4_told_53 ?_
          refine lv_goto (tgt := 60) hx hb dX4_told_54 (by decide) ?_
          subst hq
          exact k_iret cx hP hS dX4_told_60
  subst hL
  subst hH
  subst hq
  exact key _ _ hP hD hS

/-! X4_bridge -/
theorem hi_X4_bridge_4 : ∀ w ∈ u_ws RX4 TX4 11, w ∈ wsX4_bridge := by decide +kernel
abbrev rm_X4_bridge : Room := { frames := 4, cells := 0, slots := 0, locals := 89 }
abbrev Q_X4_bridge (G : gG) (m0 : Nat) (te : Nat) (re : Nat) (no : Nat) (tr : Nat) (di : Nat) (ke : Nat) (ik : Nat)  (pn : Nat → Int32) (tgt : Int32 × (Nat → Int32)) (below : List Frame) (args : Array Value) (s : State) (A : Nat → Prop) : State → Prop := MQ below (qI G tgt.1 [oMo m0 te re no tr di ke ik tgt.2, aI G no 101 pn] A) args s 0 0 A
def P_X4_bridge (mf : Nat → Int32) (pn : Nat → Int32) (what : Int32) : Int32 × (Nat → Int32) := (if (P_X4_in ((what).toInt64) 0 4) = 0 then (0, (upd mf 0 1)) else (if what = 0 then ((P_X4_missing pn (P_X4_unknown pn) (pn 2)), (upd mf 0 0)) else if what = 1 then ((P_X4_divisor pn (P_X4_unknown pn) (pn 2)), (upd mf 0 0)) else if what = 2 then ((P_X4_trueOf pn (pn 2) (pn 4)), (upd mf 0 0)) else if what = 3 then ((P_X4_rawOf pn 0 (pn 4)), (upd mf 0 0)) else ((P_X4_rawOf pn 1 (pn 4)), (upd mf 0 0))))
set_option maxHeartbeats 4000000 in
set_option maxRecDepth 100000 in
theorem c_X4_bridge (l : Launch) (G : gG) (m0 : Nat) (te : Nat) (re : Nat) (no : Nat) (tr : Nat) (di : Nat) (ke : Nat) (ik : Nat) (mf : Nat → Int32) (pn : Nat → Int32) (what : Int32) (hpv : PV pn) : kM l G yX4_bridge wsX4_bridge rm_X4_bridge [.ref m0, .int what] [oMo m0 te re no tr di ke ik mf, aI G no 101 pn] (qI G ((P_X4_bridge mf pn what).1) [oMo m0 te re no tr di ke ik ((P_X4_bridge mf pn what).2), aI G no 101 pn]) := by
  refine k_body (cc := cX4_bridge) (nL := 2) (ret := (some .int)) (by decide) rfl (Nat.le_of_ble_eq_true rfl) ?_
  intro p e s m args below meth c A cx hP hD hS ls hl
  obtain ⟨hx, hb, hml, hown, hts, hr, hlocks, hK, hA⟩ := id cx
  obtain ⟨H, hH⟩ : ∃ H, H = s.heap := ⟨_, rfl⟩
  obtain ⟨locs, hL⟩ : ∃ locs : List Loc, locs = [] := ⟨_, rfl⟩
  obtain ⟨tgt, hq⟩ : ∃ tgt, (P_X4_bridge mf pn what) = tgt := ⟨_, rfl⟩
  have hS : va_S A s.heap H locs := by rw [hH, hL]; exact hS
  rw [← hH] at hP
  have hl : lv_has ls 2 [(0, .ref m0), (1, .int what)] := hl
  have key : ∀ (H : Heap) (locs : List Loc), va_P G.1 vwCl [oMo m0 te re no tr di ke ik mf, aI G no 101 pn] H → va_D A [oMo m0 te re no tr di ke ik mf, aI G no 101 pn] → va_S A s.heap H locs → W p l e rm_X4_bridge s m args below meth c H locs 0 0 (Q_X4_bridge G m0 te re no tr di ke ik pn tgt below args s A) (F0 m 0 ls []) := by
    clear hP hD hS hH hL
    intro H locs hP hD hS
    unfold P_X4_bridge at hq
    refine lv_aload_n hx hb dX4_bridge_0 rfl (lv_at hl 0 rfl) ?_
    refine lv_iload_n hx hb dX4_bridge_1 rfl (lv_at hl 1 rfl) ?_
    refine lv_i2l hx hb dX4_bridge_2 rfl ?_
    refine lv_lconst (v := 0) hx hb dX4_bridge_3 (by decide) ?_
    refine k_ldc2 (v := 4) cx (by decide +kernel) dX4_bridge_4 ?_
    have hC := c_X4_in l G ((what).toInt64) 0 4
    refine k_i (ws' := [oMo m0 te re no tr di ke ik mf, aI G no 101 pn]) (as := []) cx hP hD hS [] rfl (kr_S (n := 3) (As := [.long (what).toInt64, .long 0, .long 4]) cx hC gX4_bridge_X4_in rfl rfl rfl (by decide +kernel) ⟨Nat.le_of_ble_eq_true rfl, Nat.le_of_ble_eq_true rfl⟩ hP hD [] rfl rfl rfl rfl hl (Nat.le_of_ble_eq_true rfl) dX4_bridge_7 ⟨Nat.le_refl _, Nat.le_refl _⟩) ⟨rfl, rfl⟩ rfl (fun H locs hP hD hS => ?_)
    refine lv_if_eq (tgt := 17) hx hb dX4_bridge_10 (by decide) (fun c_10 => ?_) (fun c_10 => ?_)
    · replace hq := (if_pos c_10).symm.trans hq
      refine lv_iconst (v := 1) hx hb dX4_bridge_17 (by decide) ?_
      have hC := c_X4_refused l G m0 te re no tr di ke ik mf 1
      rw [ref_1] at hC
      refine k_i (r := 1) (ws' := [oMo m0 te re no tr di ke ik (upd mf 0 1), aI G no 101 pn]) (as := [m0]) cx hP hD hS [0] rfl (kr_V (n := 1) (As := [.int 1]) (ci := 4) cx hC gX4_bridge_X4_refused rfl rfl rfl (by decide +kernel) ⟨Nat.le_of_ble_eq_true rfl, Nat.le_of_ble_eq_true rfl⟩ rfl rfl rfl hP hD [0] rfl rfl rfl rfl hl (Nat.le_of_ble_eq_true rfl) dX4_bridge_18 ⟨Nat.le_refl _, Nat.le_refl _⟩) ⟨rfl, rfl⟩ rfl (fun H locs hP hD hS => ?_)
      refine lv_if_eq (tgt := 26) hx hb dX4_bridge_21 (by decide) (fun cz => absurd cz (by decide)) (fun _ => ?_)
      refine lv_iconst (v := 0) hx hb dX4_bridge_24 (by decide) ?_
      subst hq
      exact k_iret cx hP hS dX4_bridge_25
    · replace hq := (if_neg c_10).symm.trans hq
      refine lv_iconst (v := 0) hx hb dX4_bridge_13 (by decide) ?_
      refine lv_goto (tgt := 18) hx hb dX4_bridge_14 (by decide) ?_
      have hC := c_X4_refused l G m0 te re no tr di ke ik mf 0
      rw [ref_0] at hC
      refine k_i (r := 0) (ws' := [oMo m0 te re no tr di ke ik (upd mf 0 0), aI G no 101 pn]) (as := [m0]) cx hP hD hS [0] rfl (kr_V (n := 1) (As := [.int 0]) (ci := 4) cx hC gX4_bridge_X4_refused rfl rfl rfl (by decide +kernel) ⟨Nat.le_of_ble_eq_true rfl, Nat.le_of_ble_eq_true rfl⟩ rfl rfl rfl hP hD [0] rfl rfl rfl rfl hl (Nat.le_of_ble_eq_true rfl) dX4_bridge_18 ⟨Nat.le_refl _, Nat.le_refl _⟩) ⟨rfl, rfl⟩ rfl (fun H locs hP hD hS => ?_)
      refine lv_if_eq (tgt := 26) hx hb dX4_bridge_21 (by decide) (fun _ => ?_) (fun cz => absurd (by decide) cz)
      refine lv_iload_n hx hb dX4_bridge_26 rfl (lv_at hl 1 rfl) ?_
      by_cases c_27_0 : what = 0
      · replace hq := (if_pos c_27_0).symm.trans hq
        refine lv_tableIn (tgt := 56) (off := 29) hx hb dX4_bridge_27 (sw_lo c_27_0 (by decide)) (sw_hi c_27_0 (by decide)) (sw_at c_27_0 (by decide)) (by decide) ?_
        refine lv_aload_n hx hb dX4_bridge_56 rfl (lv_at hl 0 rfl) ?_
        refine k_get (v := .ref no) (T := TX4) (C := RX4) (N := 11) cx hi_X4_bridge_4 hP 0 rfl rfl 5 (by decide) (by decide +kernel) rfl dX4_bridge_57 ?_
        refine lv_aload_n hx hb dX4_bridge_60 rfl (lv_at hl 0 rfl) ?_
        refine k_get (v := .ref no) (T := TX4) (C := RX4) (N := 11) cx hi_X4_bridge_4 hP 0 rfl rfl 5 (by decide) (by decide +kernel) rfl dX4_bridge_61 ?_
        have hC := c_X4_unknown l G no pn (hpv)
        refine k_i (ws' := [oMo m0 te re no tr di ke ik (upd mf 0 0), aI G no 101 pn]) (as := [no]) cx hP hD hS [1] rfl (kr_S (n := 1) (As := [.ref no]) cx hC gX4_bridge_X4_unknown rfl rfl rfl (by decide +kernel) ⟨Nat.le_of_ble_eq_true rfl, Nat.le_of_ble_eq_true rfl⟩ hP hD [1] rfl rfl rfl rfl hl (Nat.le_of_ble_eq_true rfl) dX4_bridge_64 ⟨Nat.le_refl _, Nat.le_refl _⟩) ⟨rfl, rfl⟩ rfl (fun H locs hP hD hS => ?_)
        refine lv_aload_n hx hb dX4_bridge_67 rfl (lv_at hl 0 rfl) ?_
        refine k_get (v := .ref no) (T := TX4) (C := RX4) (N := 11) cx hi_X4_bridge_4 hP 0 rfl rfl 5 (by decide) (by decide +kernel) rfl dX4_bridge_68 ?_
        refine lv_iconst (v := 2) hx hb dX4_bridge_71 (by decide) ?_
        refine k_iald (j := 2) cx hP 1 rfl (by decide) (by unfold vp_in; decide) dX4_bridge_72 ?_
        have hC := c_X4_missing l G no pn (P_X4_unknown pn) (pn 2)
        refine k_i (ws' := [oMo m0 te re no tr di ke ik (upd mf 0 0), aI G no 101 pn]) (as := [no]) cx hP hD hS [1] rfl (kr_S (n := 3) (As := [.ref no, .int (P_X4_unknown pn), .int (pn 2)]) cx hC gX4_bridge_X4_missing rfl rfl rfl (by decide +kernel) ⟨Nat.le_of_ble_eq_true rfl, Nat.le_of_ble_eq_true rfl⟩ hP hD [1] rfl rfl rfl rfl hl (Nat.le_of_ble_eq_true rfl) dX4_bridge_73 ⟨Nat.le_refl _, Nat.le_refl _⟩) ⟨rfl, rfl⟩ rfl (fun H locs hP hD hS => ?_)
        subst hq
        exact k_iret cx hP hS dX4_bridge_76
      replace hq := (if_neg c_27_0).symm.trans hq
      by_cases c_27_1 : what = 1
      · replace hq := (if_pos c_27_1).symm.trans hq
        refine lv_tableIn (tgt := 77) (off := 50) hx hb dX4_bridge_27 (sw_lo c_27_1 (by decide)) (sw_hi c_27_1 (by decide)) (sw_at c_27_1 (by decide)) (by decide) ?_
        refine lv_aload_n hx hb dX4_bridge_77 rfl (lv_at hl 0 rfl) ?_
        refine k_get (v := .ref no) (T := TX4) (C := RX4) (N := 11) cx hi_X4_bridge_4 hP 0 rfl rfl 5 (by decide) (by decide +kernel) rfl dX4_bridge_78 ?_
        refine lv_aload_n hx hb dX4_bridge_81 rfl (lv_at hl 0 rfl) ?_
        refine k_get (v := .ref no) (T := TX4) (C := RX4) (N := 11) cx hi_X4_bridge_4 hP 0 rfl rfl 5 (by decide) (by decide +kernel) rfl dX4_bridge_82 ?_
        have hC := c_X4_unknown l G no pn (hpv)
        refine k_i (ws' := [oMo m0 te re no tr di ke ik (upd mf 0 0), aI G no 101 pn]) (as := [no]) cx hP hD hS [1] rfl (kr_S (n := 1) (As := [.ref no]) cx hC gX4_bridge_X4_unknown rfl rfl rfl (by decide +kernel) ⟨Nat.le_of_ble_eq_true rfl, Nat.le_of_ble_eq_true rfl⟩ hP hD [1] rfl rfl rfl rfl hl (Nat.le_of_ble_eq_true rfl) dX4_bridge_85 ⟨Nat.le_refl _, Nat.le_refl _⟩) ⟨rfl, rfl⟩ rfl (fun H locs hP hD hS => ?_)
        refine lv_aload_n hx hb dX4_bridge_88 rfl (lv_at hl 0 rfl) ?_
        refine k_get (v := .ref no) (T := TX4) (C := RX4) (N := 11) cx hi_X4_bridge_4 hP 0 rfl rfl 5 (by decide) (by decide +kernel) rfl dX4_bridge_89 ?_
        refine lv_iconst (v := 2) hx hb dX4_bridge_92 (by decide) ?_
        refine k_iald (j := 2) cx hP 1 rfl (by decide) (by unfold vp_in; decide) dX4_bridge_93 ?_
        have hC := c_X4_divisor l G no pn (P_X4_unknown pn) (pn 2)
        refine k_i (ws' := [oMo m0 te re no tr di ke ik (upd mf 0 0), aI G no 101 pn]) (as := [no]) cx hP hD hS [1] rfl (kr_S (n := 3) (As := [.ref no, .int (P_X4_unknown pn), .int (pn 2)]) cx hC gX4_bridge_X4_divisor rfl rfl rfl (by decide +kernel) ⟨Nat.le_of_ble_eq_true rfl, Nat.le_of_ble_eq_true rfl⟩ hP hD [1] rfl rfl rfl rfl hl (Nat.le_of_ble_eq_true rfl) dX4_bridge_94 ⟨Nat.le_refl _, Nat.le_refl _⟩) ⟨rfl, rfl⟩ rfl (fun H locs hP hD hS => ?_)
        subst hq
        exact k_iret cx hP hS dX4_bridge_97
      replace hq := (if_neg c_27_1).symm.trans hq
      by_cases c_27_2 : what = 2
      · replace hq := (if_pos c_27_2).symm.trans hq
        refine lv_tableIn (tgt := 98) (off := 71) hx hb dX4_bridge_27 (sw_lo c_27_2 (by decide)) (sw_hi c_27_2 (by decide)) (sw_at c_27_2 (by decide)) (by decide) ?_
        refine lv_aload_n hx hb dX4_bridge_98 rfl (lv_at hl 0 rfl) ?_
        refine k_get (v := .ref no) (T := TX4) (C := RX4) (N := 11) cx hi_X4_bridge_4 hP 0 rfl rfl 5 (by decide) (by decide +kernel) rfl dX4_bridge_99 ?_
        refine lv_aload_n hx hb dX4_bridge_102 rfl (lv_at hl 0 rfl) ?_
        refine k_get (v := .ref no) (T := TX4) (C := RX4) (N := 11) cx hi_X4_bridge_4 hP 0 rfl rfl 5 (by decide) (by decide +kernel) rfl dX4_bridge_103 ?_
        refine lv_iconst (v := 2) hx hb dX4_bridge_106 (by decide) ?_
        refine k_iald (j := 2) cx hP 1 rfl (by decide) (by unfold vp_in; decide) dX4_bridge_107 ?_
        refine lv_aload_n hx hb dX4_bridge_108 rfl (lv_at hl 0 rfl) ?_
        refine k_get (v := .ref no) (T := TX4) (C := RX4) (N := 11) cx hi_X4_bridge_4 hP 0 rfl rfl 5 (by decide) (by decide +kernel) rfl dX4_bridge_109 ?_
        refine lv_iconst (v := 4) hx hb dX4_bridge_112 (by decide) ?_
        refine k_iald (j := 4) cx hP 1 rfl (by decide) (by unfold vp_in; decide) dX4_bridge_113 ?_
        have hC := c_X4_trueOf l G no pn (pn 2) (pn 4) (hpv) (pv_r hpv)
        refine k_i (ws' := [oMo m0 te re no tr di ke ik (upd mf 0 0), aI G no 101 pn]) (as := [no]) cx hP hD hS [1] rfl (kr_S (n := 3) (As := [.ref no, .int (pn 2), .int (pn 4)]) cx hC gX4_bridge_X4_trueOf rfl rfl rfl (by decide +kernel) ⟨Nat.le_of_ble_eq_true rfl, Nat.le_of_ble_eq_true rfl⟩ hP hD [1] rfl rfl rfl rfl hl (Nat.le_of_ble_eq_true rfl) dX4_bridge_114 ⟨Nat.le_refl _, Nat.le_refl _⟩) ⟨rfl, rfl⟩ rfl (fun H locs hP hD hS => ?_)
        subst hq
        exact k_iret cx hP hS dX4_bridge_117
      replace hq := (if_neg c_27_2).symm.trans hq
      by_cases c_27_3 : what = 3
      · replace hq := (if_pos c_27_3).symm.trans hq
        refine lv_tableIn (tgt := 118) (off := 91) hx hb dX4_bridge_27 (sw_lo c_27_3 (by decide)) (sw_hi c_27_3 (by decide)) (sw_at c_27_3 (by decide)) (by decide) ?_
        refine lv_aload_n hx hb dX4_bridge_118 rfl (lv_at hl 0 rfl) ?_
        refine k_get (v := .ref no) (T := TX4) (C := RX4) (N := 11) cx hi_X4_bridge_4 hP 0 rfl rfl 5 (by decide) (by decide +kernel) rfl dX4_bridge_119 ?_
        refine lv_iconst (v := 0) hx hb dX4_bridge_122 (by decide) ?_
        refine lv_aload_n hx hb dX4_bridge_123 rfl (lv_at hl 0 rfl) ?_
        refine k_get (v := .ref no) (T := TX4) (C := RX4) (N := 11) cx hi_X4_bridge_4 hP 0 rfl rfl 5 (by decide) (by decide +kernel) rfl dX4_bridge_124 ?_
        refine lv_iconst (v := 4) hx hb dX4_bridge_127 (by decide) ?_
        refine k_iald (j := 4) cx hP 1 rfl (by decide) (by unfold vp_in; decide) dX4_bridge_128 ?_
        have hC := c_X4_rawOf l G no pn 0 (pn 4) (hpv)
        refine k_i (ws' := [oMo m0 te re no tr di ke ik (upd mf 0 0), aI G no 101 pn]) (as := [no]) cx hP hD hS [1] rfl (kr_S (n := 3) (As := [.ref no, .int 0, .int (pn 4)]) cx hC gX4_bridge_X4_rawOf rfl rfl rfl (by decide +kernel) ⟨Nat.le_of_ble_eq_true rfl, Nat.le_of_ble_eq_true rfl⟩ hP hD [1] rfl rfl rfl rfl hl (Nat.le_of_ble_eq_true rfl) dX4_bridge_129 ⟨Nat.le_refl _, Nat.le_refl _⟩) ⟨rfl, rfl⟩ rfl (fun H locs hP hD hS => ?_)
        subst hq
        exact k_iret cx hP hS dX4_bridge_132
      replace hq := (if_neg c_27_3).symm.trans hq
      have e0 := lv_neT (a := 0) c_27_0 (by decide)
      have e1 := lv_neT (a := 1) c_27_1 (by decide)
      have e2 := lv_neT (a := 2) c_27_2 (by decide)
      have e3 := lv_neT (a := 3) c_27_3 (by decide)
      refine lv_tableOut (tgt := 133) hx hb dX4_bridge_27 (by omega) (by decide) ?_
      refine lv_aload_n hx hb dX4_bridge_133 rfl (lv_at hl 0 rfl) ?_
      refine k_get (v := .ref no) (T := TX4) (C := RX4) (N := 11) cx hi_X4_bridge_4 hP 0 rfl rfl 5 (by decide) (by decide +kernel) rfl dX4_bridge_134 ?_
      refine lv_iconst (v := 1) hx hb dX4_bridge_137 (by decide) ?_
      refine lv_aload_n hx hb dX4_bridge_138 rfl (lv_at hl 0 rfl) ?_
      refine k_get (v := .ref no) (T := TX4) (C := RX4) (N := 11) cx hi_X4_bridge_4 hP 0 rfl rfl 5 (by decide) (by decide +kernel) rfl dX4_bridge_139 ?_
      refine lv_iconst (v := 4) hx hb dX4_bridge_142 (by decide) ?_
      refine k_iald (j := 4) cx hP 1 rfl (by decide) (by unfold vp_in; decide) dX4_bridge_143 ?_
      have hC := c_X4_rawOf l G no pn 1 (pn 4) (hpv)
      refine k_i (ws' := [oMo m0 te re no tr di ke ik (upd mf 0 0), aI G no 101 pn]) (as := [no]) cx hP hD hS [1] rfl (kr_S (n := 3) (As := [.ref no, .int 1, .int (pn 4)]) cx hC gX4_bridge_X4_rawOf rfl rfl rfl (by decide +kernel) ⟨Nat.le_of_ble_eq_true rfl, Nat.le_of_ble_eq_true rfl⟩ hP hD [1] rfl rfl rfl rfl hl (Nat.le_of_ble_eq_true rfl) dX4_bridge_144 ⟨Nat.le_refl _, Nat.le_refl _⟩) ⟨rfl, rfl⟩ rfl (fun H locs hP hD hS => ?_)
      subst hq
      exact k_iret cx hP hS dX4_bridge_147
  subst hL
  subst hH
  subst hq
  exact key _ _ hP hD hS

/-! X4_press -/
theorem hi_X4_press_4 : ∀ w ∈ u_ws RX4 TX4 11, w ∈ wsX4_press := by decide +kernel
abbrev rm_X4_press : Room := { frames := 5, cells := 0, slots := 0, locals := 113 }
abbrev Q_X4_press (G : gG) (m0 : Nat) (te : Nat) (re : Nat) (no : Nat) (tr : Nat) (di : Nat) (ke : Nat) (ik : Nat)   (tgt : Int32 × (Nat → Int32) × (Nat → Int32) × (Nat → Int32)) (below : List Frame) (args : Array Value) (s : State) (A : Nat → Prop) : State → Prop := MQ below (qI G tgt.1 [oMo m0 te re no tr di ke ik tgt.2.1, aI G no 101 tgt.2.2.1, aI G di 1414 tgt.2.2.2] A) args s 0 0 A
def P_X4_press (mf : Nat → Int32) (pn : Nat → Int32) (dd : Nat → Int32) (rv : Int32) : Int32 × (Nat → Int32) × (Nat → Int32) × (Nat → Int32) := (let u8 := P_X4_refused mf (pn 11); (if u8.1 = 0 then (let u17 := P_X4_note u8.2 pn dd; let u25 := P_X4_pressOn pn rv; (u25.1, u17.1, u25.2, u17.2)) else (0, u8.2, pn, dd)))
set_option maxHeartbeats 4000000 in
set_option maxRecDepth 100000 in
theorem c_X4_press (l : Launch) (G : gG) (m0 : Nat) (te : Nat) (re : Nat) (no : Nat) (tr : Nat) (di : Nat) (ke : Nat) (ik : Nat) (mf : Nat → Int32) (pn : Nat → Int32) (dd : Nat → Int32) (rv : Int32) (hpv : PV pn) (hac : AB (mf 8)) : kM l G yX4_press wsX4_press rm_X4_press [.ref m0, .int rv] [oMo m0 te re no tr di ke ik mf, aI G no 101 pn, aI G di 1414 dd] (qI G ((P_X4_press mf pn dd rv).1) [oMo m0 te re no tr di ke ik ((P_X4_press mf pn dd rv).2.1), aI G no 101 ((P_X4_press mf pn dd rv).2.2.1), aI G di 1414 ((P_X4_press mf pn dd rv).2.2.2)]) := by
  refine k_body (cc := cX4_press) (nL := 2) (ret := (some .int)) (by decide) rfl (Nat.le_of_ble_eq_true rfl) ?_
  intro p e s m args below meth c A cx hP hD hS ls hl
  obtain ⟨hx, hb, hml, hown, hts, hr, hlocks, hK, hA⟩ := id cx
  obtain ⟨H, hH⟩ : ∃ H, H = s.heap := ⟨_, rfl⟩
  obtain ⟨locs, hL⟩ : ∃ locs : List Loc, locs = [] := ⟨_, rfl⟩
  obtain ⟨tgt, hq⟩ : ∃ tgt, (P_X4_press mf pn dd rv) = tgt := ⟨_, rfl⟩
  have hS : va_S A s.heap H locs := by rw [hH, hL]; exact hS
  rw [← hH] at hP
  have hl : lv_has ls 2 [(0, .ref m0), (1, .int rv)] := hl
  have key : ∀ (H : Heap) (locs : List Loc), va_P G.1 vwCl [oMo m0 te re no tr di ke ik mf, aI G no 101 pn, aI G di 1414 dd] H → va_D A [oMo m0 te re no tr di ke ik mf, aI G no 101 pn, aI G di 1414 dd] → va_S A s.heap H locs → W p l e rm_X4_press s m args below meth c H locs 0 0 (Q_X4_press G m0 te re no tr di ke ik tgt below args s A) (F0 m 0 ls []) := by
    clear hP hD hS hH hL
    intro H locs hP hD hS
    unfold P_X4_press at hq
    refine lv_aload_n hx hb dX4_press_0 rfl (lv_at hl 0 rfl) ?_
    refine lv_aload_n hx hb dX4_press_1 rfl (lv_at hl 0 rfl) ?_
    refine k_get (v := .ref no) (T := TX4) (C := RX4) (N := 11) cx hi_X4_press_4 hP 0 rfl rfl 5 (by decide) (by decide +kernel) rfl dX4_press_2 ?_
    refine lv_bipush (v := 11) hx hb dX4_press_5 (by decide) ?_
    refine k_iald (j := 11) cx hP 1 rfl (by decide) (by unfold vp_in; decide) dX4_press_7 ?_
    have hC := c_X4_refused l G m0 te re no tr di ke ik mf (pn 11)
    generalize hu8 : P_X4_refused mf (pn 11) = u8 at hC hq
    refine k_i (ws' := [oMo m0 te re no tr di ke ik u8.2, aI G no 101 pn, aI G di 1414 dd]) (as := [m0]) cx hP hD hS [0] rfl (kr_V (n := 1) (As := [.int (pn 11)]) (ci := 4) cx hC gX4_press_X4_refused rfl rfl rfl (by decide +kernel) ⟨Nat.le_of_ble_eq_true rfl, Nat.le_of_ble_eq_true rfl⟩ rfl rfl rfl hP hD [0] rfl rfl rfl rfl hl (Nat.le_of_ble_eq_true rfl) dX4_press_8 ⟨Nat.le_refl _, Nat.le_refl _⟩) ⟨rfl, rfl⟩ rfl (fun H locs hP hD hS => ?_)
    refine lv_if_eq (tgt := 16) hx hb dX4_press_11 (by decide) (fun c_11 => ?_) (fun c_11 => ?_)
    · replace hq := (if_pos c_11).symm.trans hq
      refine lv_aload_n hx hb dX4_press_16 rfl (lv_at hl 0 rfl) ?_
      have hC := c_X4_note l G m0 te re no tr di ke ik u8.2 pn dd (ref_ab hu8 hac)
      generalize hu17 : P_X4_note u8.2 pn dd = u17 at hC hq
      refine k_v (ws' := [oMo m0 te re no tr di ke ik u17.1, aI G no 101 pn, aI G di 1414 u17.2]) (as := [m0, no, di]) cx hP hD hS [0, 1, 2] rfl (kr_V (n := 0) (As := []) (ci := 4) cx hC gX4_press_X4_note rfl rfl rfl (by decide +kernel) ⟨Nat.le_of_ble_eq_true rfl, Nat.le_of_ble_eq_true rfl⟩ rfl rfl rfl hP hD [0, 1, 2] rfl rfl rfl rfl hl (Nat.le_of_ble_eq_true rfl) dX4_press_17 ⟨Nat.le_refl _, Nat.le_refl _⟩) ⟨rfl, rfl⟩ rfl (fun H locs hP hD hS => ?_)
      refine lv_aload_n hx hb dX4_press_20 rfl (lv_at hl 0 rfl) ?_
      refine k_get (v := .ref no) (T := TX4) (C := RX4) (N := 11) cx hi_X4_press_4 hP 0 rfl rfl 5 (by decide) (by decide +kernel) rfl dX4_press_21 ?_
      refine lv_iload_n hx hb dX4_press_24 rfl (lv_at hl 1 rfl) ?_
      have hC := c_X4_pressOn l G no pn rv (hpv)
      replace hq := k_let hq
      generalize hu25 : P_X4_pressOn pn rv = u25 at hC hq
      refine k_i (ws' := [oMo m0 te re no tr di ke ik u17.1, aI G no 101 u25.2, aI G di 1414 u17.2]) (as := [no]) cx hP hD hS [1] rfl (kr_S (n := 2) (As := [.ref no, .int rv]) cx hC gX4_press_X4_pressOn rfl rfl rfl (by decide +kernel) ⟨Nat.le_of_ble_eq_true rfl, Nat.le_of_ble_eq_true rfl⟩ hP hD [1] rfl rfl rfl rfl hl (Nat.le_of_ble_eq_true rfl) dX4_press_25 ⟨Nat.le_refl _, Nat.le_refl _⟩) ⟨rfl, rfl⟩ rfl (fun H locs hP hD hS => ?_)
      subst hq
      exact k_iret cx hP hS dX4_press_28
    · replace hq := (if_neg c_11).symm.trans hq
      refine lv_iconst (v := 0) hx hb dX4_press_14 (by decide) ?_
      subst hq
      exact k_iret cx hP hS dX4_press_15
  subst hL
  subst hH
  subst hq
  exact key _ _ hP hD hS

/-! X4_pair -/
theorem hi_X4_pair_4 : ∀ w ∈ u_ws RX4 TX4 11, w ∈ wsX4_pair := by decide +kernel
abbrev rm_X4_pair : Room := { frames := 6, cells := 0, slots := 0, locals := 134 }
abbrev Q_X4_pair (G : gG) (m0 : Nat) (te : Nat) (re : Nat) (no : Nat) (tr : Nat) (di : Nat) (ke : Nat) (ik : Nat)   (tgt : Int32 × (Nat → Int32) × (Nat → Int32) × (Nat → Int32)) (below : List Frame) (args : Array Value) (s : State) (A : Nat → Prop) : State → Prop := MQ below (qI G tgt.1 [oMo m0 te re no tr di ke ik tgt.2.1, aI G no 101 tgt.2.2.1, aI G di 1414 tgt.2.2.2] A) args s 0 0 A
def P_X4_pair (mf : Nat → Int32) (pn : Nat → Int32) (dd : Nat → Int32) : Int32 × (Nat → Int32) × (Nat → Int32) × (Nat → Int32) := (let u8 := P_X4_refused mf (pn 11); (if u8.1 = 0 then (let u17 := P_X4_note u8.2 pn dd; let u24 := P_X4_pairOn pn; (u24.1, u17.1, u24.2, u17.2)) else (0, u8.2, pn, dd)))
set_option maxHeartbeats 4000000 in
set_option maxRecDepth 100000 in
theorem c_X4_pair (l : Launch) (G : gG) (m0 : Nat) (te : Nat) (re : Nat) (no : Nat) (tr : Nat) (di : Nat) (ke : Nat) (ik : Nat) (mf : Nat → Int32) (pn : Nat → Int32) (dd : Nat → Int32) (hpv : PV pn) (hac : AB (mf 8)) : kM l G yX4_pair wsX4_pair rm_X4_pair [.ref m0] [oMo m0 te re no tr di ke ik mf, aI G no 101 pn, aI G di 1414 dd] (qI G ((P_X4_pair mf pn dd).1) [oMo m0 te re no tr di ke ik ((P_X4_pair mf pn dd).2.1), aI G no 101 ((P_X4_pair mf pn dd).2.2.1), aI G di 1414 ((P_X4_pair mf pn dd).2.2.2)]) := by
  refine k_body (cc := cX4_pair) (nL := 1) (ret := (some .int)) (by decide) rfl (Nat.le_of_ble_eq_true rfl) ?_
  intro p e s m args below meth c A cx hP hD hS ls hl
  obtain ⟨hx, hb, hml, hown, hts, hr, hlocks, hK, hA⟩ := id cx
  obtain ⟨H, hH⟩ : ∃ H, H = s.heap := ⟨_, rfl⟩
  obtain ⟨locs, hL⟩ : ∃ locs : List Loc, locs = [] := ⟨_, rfl⟩
  obtain ⟨tgt, hq⟩ : ∃ tgt, (P_X4_pair mf pn dd) = tgt := ⟨_, rfl⟩
  have hS : va_S A s.heap H locs := by rw [hH, hL]; exact hS
  rw [← hH] at hP
  have hl : lv_has ls 1 [(0, .ref m0)] := hl
  have key : ∀ (H : Heap) (locs : List Loc), va_P G.1 vwCl [oMo m0 te re no tr di ke ik mf, aI G no 101 pn, aI G di 1414 dd] H → va_D A [oMo m0 te re no tr di ke ik mf, aI G no 101 pn, aI G di 1414 dd] → va_S A s.heap H locs → W p l e rm_X4_pair s m args below meth c H locs 0 0 (Q_X4_pair G m0 te re no tr di ke ik tgt below args s A) (F0 m 0 ls []) := by
    clear hP hD hS hH hL
    intro H locs hP hD hS
    unfold P_X4_pair at hq
    refine lv_aload_n hx hb dX4_pair_0 rfl (lv_at hl 0 rfl) ?_
    refine lv_aload_n hx hb dX4_pair_1 rfl (lv_at hl 0 rfl) ?_
    refine k_get (v := .ref no) (T := TX4) (C := RX4) (N := 11) cx hi_X4_pair_4 hP 0 rfl rfl 5 (by decide) (by decide +kernel) rfl dX4_pair_2 ?_
    refine lv_bipush (v := 11) hx hb dX4_pair_5 (by decide) ?_
    refine k_iald (j := 11) cx hP 1 rfl (by decide) (by unfold vp_in; decide) dX4_pair_7 ?_
    have hC := c_X4_refused l G m0 te re no tr di ke ik mf (pn 11)
    generalize hu8 : P_X4_refused mf (pn 11) = u8 at hC hq
    refine k_i (ws' := [oMo m0 te re no tr di ke ik u8.2, aI G no 101 pn, aI G di 1414 dd]) (as := [m0]) cx hP hD hS [0] rfl (kr_V (n := 1) (As := [.int (pn 11)]) (ci := 4) cx hC gX4_pair_X4_refused rfl rfl rfl (by decide +kernel) ⟨Nat.le_of_ble_eq_true rfl, Nat.le_of_ble_eq_true rfl⟩ rfl rfl rfl hP hD [0] rfl rfl rfl rfl hl (Nat.le_of_ble_eq_true rfl) dX4_pair_8 ⟨Nat.le_refl _, Nat.le_refl _⟩) ⟨rfl, rfl⟩ rfl (fun H locs hP hD hS => ?_)
    refine lv_if_eq (tgt := 16) hx hb dX4_pair_11 (by decide) (fun c_11 => ?_) (fun c_11 => ?_)
    · replace hq := (if_pos c_11).symm.trans hq
      refine lv_aload_n hx hb dX4_pair_16 rfl (lv_at hl 0 rfl) ?_
      have hC := c_X4_note l G m0 te re no tr di ke ik u8.2 pn dd (ref_ab hu8 hac)
      generalize hu17 : P_X4_note u8.2 pn dd = u17 at hC hq
      refine k_v (ws' := [oMo m0 te re no tr di ke ik u17.1, aI G no 101 pn, aI G di 1414 u17.2]) (as := [m0, no, di]) cx hP hD hS [0, 1, 2] rfl (kr_V (n := 0) (As := []) (ci := 4) cx hC gX4_pair_X4_note rfl rfl rfl (by decide +kernel) ⟨Nat.le_of_ble_eq_true rfl, Nat.le_of_ble_eq_true rfl⟩ rfl rfl rfl hP hD [0, 1, 2] rfl rfl rfl rfl hl (Nat.le_of_ble_eq_true rfl) dX4_pair_17 ⟨Nat.le_refl _, Nat.le_refl _⟩) ⟨rfl, rfl⟩ rfl (fun H locs hP hD hS => ?_)
      refine lv_aload_n hx hb dX4_pair_20 rfl (lv_at hl 0 rfl) ?_
      refine k_get (v := .ref no) (T := TX4) (C := RX4) (N := 11) cx hi_X4_pair_4 hP 0 rfl rfl 5 (by decide) (by decide +kernel) rfl dX4_pair_21 ?_
      have hC := c_X4_pairOn l G no pn (hpv)
      replace hq := k_let hq
      generalize hu24 : P_X4_pairOn pn = u24 at hC hq
      refine k_i (ws' := [oMo m0 te re no tr di ke ik u17.1, aI G no 101 u24.2, aI G di 1414 u17.2]) (as := [no]) cx hP hD hS [1] rfl (kr_S (n := 1) (As := [.ref no]) cx hC gX4_pair_X4_pairOn rfl rfl rfl (by decide +kernel) ⟨Nat.le_of_ble_eq_true rfl, Nat.le_of_ble_eq_true rfl⟩ hP hD [1] rfl rfl rfl rfl hl (Nat.le_of_ble_eq_true rfl) dX4_pair_24 ⟨Nat.le_refl _, Nat.le_refl _⟩) ⟨rfl, rfl⟩ rfl (fun H locs hP hD hS => ?_)
      subst hq
      exact k_iret cx hP hS dX4_pair_27
    · replace hq := (if_neg c_11).symm.trans hq
      refine lv_iconst (v := 0) hx hb dX4_pair_14 (by decide) ?_
      subst hq
      exact k_iret cx hP hS dX4_pair_15
  subst hL
  subst hH
  subst hq
  exact key _ _ hP hD hS

/-! X4_pause -/
theorem hi_X4_pause_4 : ∀ w ∈ u_ws RX4 TX4 11, w ∈ wsX4_pause := by decide +kernel
abbrev rm_X4_pause : Room := { frames := 2, cells := 0, slots := 0, locals := 45 }
abbrev Q_X4_pause (G : gG) (m0 : Nat) (te : Nat) (re : Nat) (no : Nat) (tr : Nat) (di : Nat) (ke : Nat) (ik : Nat)   (tgt : Int32 × (Nat → Int32) × (Nat → Int32) × (Nat → Int32)) (below : List Frame) (args : Array Value) (s : State) (A : Nat → Prop) : State → Prop := MQ below (qI G tgt.1 [oMo m0 te re no tr di ke ik tgt.2.1, aI G no 101 tgt.2.2.1, aI G di 1414 tgt.2.2.2] A) args s 0 0 A
def P_X4_pause (mf : Nat → Int32) (pn : Nat → Int32) (dd : Nat → Int32) (tk : Int32) : Int32 × (Nat → Int32) × (Nat → Int32) × (Nat → Int32) := (if (P_X4_in ((tk).toInt64) 1 200) = 0 then (0, (upd mf 0 1), pn, dd) else (let u27 := P_X4_note (upd mf 0 0) pn dd; let u35 := P_X4_waitOn pn tk; ((P_X4_offsetOf u35), u27.1, u35, u27.2)))
set_option maxHeartbeats 4000000 in
set_option maxRecDepth 100000 in
theorem c_X4_pause (l : Launch) (G : gG) (m0 : Nat) (te : Nat) (re : Nat) (no : Nat) (tr : Nat) (di : Nat) (ke : Nat) (ik : Nat) (mf : Nat → Int32) (pn : Nat → Int32) (dd : Nat → Int32) (tk : Int32) (hac : AB (mf 8)) : kM l G yX4_pause wsX4_pause rm_X4_pause [.ref m0, .int tk] [oMo m0 te re no tr di ke ik mf, aI G no 101 pn, aI G di 1414 dd] (qI G ((P_X4_pause mf pn dd tk).1) [oMo m0 te re no tr di ke ik ((P_X4_pause mf pn dd tk).2.1), aI G no 101 ((P_X4_pause mf pn dd tk).2.2.1), aI G di 1414 ((P_X4_pause mf pn dd tk).2.2.2)]) := by
  refine k_body (cc := cX4_pause) (nL := 2) (ret := (some .int)) (by decide) rfl (Nat.le_of_ble_eq_true rfl) ?_
  intro p e s m args below meth c A cx hP hD hS ls hl
  obtain ⟨hx, hb, hml, hown, hts, hr, hlocks, hK, hA⟩ := id cx
  obtain ⟨H, hH⟩ : ∃ H, H = s.heap := ⟨_, rfl⟩
  obtain ⟨locs, hL⟩ : ∃ locs : List Loc, locs = [] := ⟨_, rfl⟩
  obtain ⟨tgt, hq⟩ : ∃ tgt, (P_X4_pause mf pn dd tk) = tgt := ⟨_, rfl⟩
  have hS : va_S A s.heap H locs := by rw [hH, hL]; exact hS
  rw [← hH] at hP
  have hl : lv_has ls 2 [(0, .ref m0), (1, .int tk)] := hl
  have key : ∀ (H : Heap) (locs : List Loc), va_P G.1 vwCl [oMo m0 te re no tr di ke ik mf, aI G no 101 pn, aI G di 1414 dd] H → va_D A [oMo m0 te re no tr di ke ik mf, aI G no 101 pn, aI G di 1414 dd] → va_S A s.heap H locs → W p l e rm_X4_pause s m args below meth c H locs 0 0 (Q_X4_pause G m0 te re no tr di ke ik tgt below args s A) (F0 m 0 ls []) := by
    clear hP hD hS hH hL
    intro H locs hP hD hS
    unfold P_X4_pause at hq
    refine lv_aload_n hx hb dX4_pause_0 rfl (lv_at hl 0 rfl) ?_
    refine lv_iload_n hx hb dX4_pause_1 rfl (lv_at hl 1 rfl) ?_
    refine lv_i2l hx hb dX4_pause_2 rfl ?_
    refine lv_lconst (v := 1) hx hb dX4_pause_3 (by decide) ?_
    refine k_ldc2 (v := 200) cx (by decide +kernel) dX4_pause_4 ?_
    have hC := c_X4_in l G ((tk).toInt64) 1 200
    refine k_i (ws' := [oMo m0 te re no tr di ke ik mf, aI G no 101 pn, aI G di 1414 dd]) (as := []) cx hP hD hS [] rfl (kr_S (n := 3) (As := [.long (tk).toInt64, .long 1, .long 200]) cx hC gX4_pause_X4_in rfl rfl rfl (by decide +kernel) ⟨Nat.le_of_ble_eq_true rfl, Nat.le_of_ble_eq_true rfl⟩ hP hD [] rfl rfl rfl rfl hl (Nat.le_of_ble_eq_true rfl) dX4_pause_7 ⟨Nat.le_refl _, Nat.le_refl _⟩) ⟨rfl, rfl⟩ rfl (fun H locs hP hD hS => ?_)
    refine lv_if_eq (tgt := 17) hx hb dX4_pause_10 (by decide) (fun c_10 => ?_) (fun c_10 => ?_)
    · replace hq := (if_pos c_10).symm.trans hq
      refine lv_iconst (v := 1) hx hb dX4_pause_17 (by decide) ?_
      have hC := c_X4_refused l G m0 te re no tr di ke ik mf 1
      rw [ref_1] at hC
      refine k_i (r := 1) (ws' := [oMo m0 te re no tr di ke ik (upd mf 0 1), aI G no 101 pn, aI G di 1414 dd]) (as := [m0]) cx hP hD hS [0] rfl (kr_V (n := 1) (As := [.int 1]) (ci := 4) cx hC gX4_pause_X4_refused rfl rfl rfl (by decide +kernel) ⟨Nat.le_of_ble_eq_true rfl, Nat.le_of_ble_eq_true rfl⟩ rfl rfl rfl hP hD [0] rfl rfl rfl rfl hl (Nat.le_of_ble_eq_true rfl) dX4_pause_18 ⟨Nat.le_refl _, Nat.le_refl _⟩) ⟨rfl, rfl⟩ rfl (fun H locs hP hD hS => ?_)
      refine lv_if_eq (tgt := 26) hx hb dX4_pause_21 (by decide) (fun cz => absurd cz (by decide)) (fun _ => ?_)
      refine lv_iconst (v := 0) hx hb dX4_pause_24 (by decide) ?_
      subst hq
      exact k_iret cx hP hS dX4_pause_25
    · replace hq := (if_neg c_10).symm.trans hq
      refine lv_iconst (v := 0) hx hb dX4_pause_13 (by decide) ?_
      refine lv_goto (tgt := 18) hx hb dX4_pause_14 (by decide) ?_
      have hC := c_X4_refused l G m0 te re no tr di ke ik mf 0
      rw [ref_0] at hC
      refine k_i (r := 0) (ws' := [oMo m0 te re no tr di ke ik (upd mf 0 0), aI G no 101 pn, aI G di 1414 dd]) (as := [m0]) cx hP hD hS [0] rfl (kr_V (n := 1) (As := [.int 0]) (ci := 4) cx hC gX4_pause_X4_refused rfl rfl rfl (by decide +kernel) ⟨Nat.le_of_ble_eq_true rfl, Nat.le_of_ble_eq_true rfl⟩ rfl rfl rfl hP hD [0] rfl rfl rfl rfl hl (Nat.le_of_ble_eq_true rfl) dX4_pause_18 ⟨Nat.le_refl _, Nat.le_refl _⟩) ⟨rfl, rfl⟩ rfl (fun H locs hP hD hS => ?_)
      refine lv_if_eq (tgt := 26) hx hb dX4_pause_21 (by decide) (fun _ => ?_) (fun cz => absurd (by decide) cz)
      refine lv_aload_n hx hb dX4_pause_26 rfl (lv_at hl 0 rfl) ?_
      have hC := c_X4_note l G m0 te re no tr di ke ik (upd mf 0 0) pn dd (hac)
      generalize hu27 : P_X4_note (upd mf 0 0) pn dd = u27 at hC hq
      refine k_v (ws' := [oMo m0 te re no tr di ke ik u27.1, aI G no 101 pn, aI G di 1414 u27.2]) (as := [m0, no, di]) cx hP hD hS [0, 1, 2] rfl (kr_V (n := 0) (As := []) (ci := 4) cx hC gX4_pause_X4_note rfl rfl rfl (by decide +kernel) ⟨Nat.le_of_ble_eq_true rfl, Nat.le_of_ble_eq_true rfl⟩ rfl rfl rfl hP hD [0, 1, 2] rfl rfl rfl rfl hl (Nat.le_of_ble_eq_true rfl) dX4_pause_27 ⟨Nat.le_refl _, Nat.le_refl _⟩) ⟨rfl, rfl⟩ rfl (fun H locs hP hD hS => ?_)
      refine lv_aload_n hx hb dX4_pause_30 rfl (lv_at hl 0 rfl) ?_
      refine k_get (v := .ref no) (T := TX4) (C := RX4) (N := 11) cx hi_X4_pause_4 hP 0 rfl rfl 5 (by decide) (by decide +kernel) rfl dX4_pause_31 ?_
      refine lv_iload_n hx hb dX4_pause_34 rfl (lv_at hl 1 rfl) ?_
      have hC := c_X4_waitOn l G no pn tk
      replace hq := k_let hq
      generalize hu35 : P_X4_waitOn pn tk = u35 at hC hq
      refine k_v (ws' := [oMo m0 te re no tr di ke ik u27.1, aI G no 101 u35, aI G di 1414 u27.2]) (as := [no]) cx hP hD hS [1] rfl (kr_S (n := 2) (As := [.ref no, .int tk]) cx hC gX4_pause_X4_waitOn rfl rfl rfl (by decide +kernel) ⟨Nat.le_of_ble_eq_true rfl, Nat.le_of_ble_eq_true rfl⟩ hP hD [1] rfl rfl rfl rfl hl (Nat.le_of_ble_eq_true rfl) dX4_pause_35 ⟨Nat.le_refl _, Nat.le_refl _⟩) ⟨rfl, rfl⟩ rfl (fun H locs hP hD hS => ?_)
      refine lv_aload_n hx hb dX4_pause_38 rfl (lv_at hl 0 rfl) ?_
      refine k_get (v := .ref no) (T := TX4) (C := RX4) (N := 11) cx hi_X4_pause_4 hP 0 rfl rfl 5 (by decide) (by decide +kernel) rfl dX4_pause_39 ?_
      have hC := c_X4_offsetOf l G no u35
      refine k_i (ws' := [oMo m0 te re no tr di ke ik u27.1, aI G no 101 u35, aI G di 1414 u27.2]) (as := [no]) cx hP hD hS [1] rfl (kr_S (n := 1) (As := [.ref no]) cx hC gX4_pause_X4_offsetOf rfl rfl rfl (by decide +kernel) ⟨Nat.le_of_ble_eq_true rfl, Nat.le_of_ble_eq_true rfl⟩ hP hD [1] rfl rfl rfl rfl hl (Nat.le_of_ble_eq_true rfl) dX4_pause_42 ⟨Nat.le_refl _, Nat.le_refl _⟩) ⟨rfl, rfl⟩ rfl (fun H locs hP hD hS => ?_)
      subst hq
      exact k_iret cx hP hS dX4_pause_45
  subst hL
  subst hH
  subst hq
  exact key _ _ hP hD hS

/-! X4_set -/
theorem hi_X4_set_4 : ∀ w ∈ u_ws RX4 TX4 11, w ∈ wsX4_set := by decide +kernel
abbrev rm_X4_set : Room := { frames := 2, cells := 0, slots := 0, locals := 46 }
abbrev Q_X4_set (G : gG) (m0 : Nat) (te : Nat) (re : Nat) (no : Nat) (tr : Nat) (di : Nat) (ke : Nat) (ik : Nat)   (tgt : Int32 × (Nat → Int32) × (Nat → Int32) × (Nat → Int32)) (below : List Frame) (args : Array Value) (s : State) (A : Nat → Prop) : State → Prop := MQ below (qI G tgt.1 [oMo m0 te re no tr di ke ik tgt.2.1, aI G no 101 tgt.2.2.1, aI G di 1414 tgt.2.2.2] A) args s 0 0 A
def P_X4_set (mf : Nat → Int32) (pn : Nat → Int32) (dd : Nat → Int32) (what : Int32) (v : Int32) : Int32 × (Nat → Int32) × (Nat → Int32) × (Nat → Int32) := (if (P_X4_isSetting what v) = 0 then (0, (upd mf 0 1), pn, dd) else (let u23 := P_X4_note (upd mf 0 0) pn dd; ((pn what.toNatClampNeg), u23.1, (upd pn what.toNatClampNeg v), u23.2)))
set_option maxHeartbeats 4000000 in
set_option maxRecDepth 100000 in
theorem c_X4_set (l : Launch) (G : gG) (m0 : Nat) (te : Nat) (re : Nat) (no : Nat) (tr : Nat) (di : Nat) (ke : Nat) (ik : Nat) (mf : Nat → Int32) (pn : Nat → Int32) (dd : Nat → Int32) (what : Int32) (v : Int32) (hac : AB (mf 8)) : kM l G yX4_set wsX4_set rm_X4_set [.ref m0, .int what, .int v] [oMo m0 te re no tr di ke ik mf, aI G no 101 pn, aI G di 1414 dd] (qI G ((P_X4_set mf pn dd what v).1) [oMo m0 te re no tr di ke ik ((P_X4_set mf pn dd what v).2.1), aI G no 101 ((P_X4_set mf pn dd what v).2.2.1), aI G di 1414 ((P_X4_set mf pn dd what v).2.2.2)]) := by
  refine k_body (cc := cX4_set) (nL := 4) (ret := (some .int)) (by decide) rfl (Nat.le_of_ble_eq_true rfl) ?_
  intro p e s m args below meth c A cx hP hD hS ls hl
  obtain ⟨hx, hb, hml, hown, hts, hr, hlocks, hK, hA⟩ := id cx
  obtain ⟨H, hH⟩ : ∃ H, H = s.heap := ⟨_, rfl⟩
  obtain ⟨locs, hL⟩ : ∃ locs : List Loc, locs = [] := ⟨_, rfl⟩
  obtain ⟨tgt, hq⟩ : ∃ tgt, (P_X4_set mf pn dd what v) = tgt := ⟨_, rfl⟩
  have hS : va_S A s.heap H locs := by rw [hH, hL]; exact hS
  rw [← hH] at hP
  have hl : lv_has ls 4 [(0, .ref m0), (1, .int what), (2, .int v)] := hl
  have key : ∀ (H : Heap) (locs : List Loc), va_P G.1 vwCl [oMo m0 te re no tr di ke ik mf, aI G no 101 pn, aI G di 1414 dd] H → va_D A [oMo m0 te re no tr di ke ik mf, aI G no 101 pn, aI G di 1414 dd] → va_S A s.heap H locs → W p l e rm_X4_set s m args below meth c H locs 0 0 (Q_X4_set G m0 te re no tr di ke ik tgt below args s A) (F0 m 0 ls []) := by
    clear hP hD hS hH hL
    intro H locs hP hD hS
    unfold P_X4_set at hq
    refine lv_aload_n hx hb dX4_set_0 rfl (lv_at hl 0 rfl) ?_
    refine lv_iload_n hx hb dX4_set_1 rfl (lv_at hl 1 rfl) ?_
    refine lv_iload_n hx hb dX4_set_2 rfl (lv_at hl 2 rfl) ?_
    have hC := c_X4_isSetting l G what v
    refine k_i (ws' := [oMo m0 te re no tr di ke ik mf, aI G no 101 pn, aI G di 1414 dd]) (as := []) cx hP hD hS [] rfl (kr_S (n := 2) (As := [.int what, .int v]) cx hC gX4_set_X4_isSetting rfl rfl rfl (by decide +kernel) ⟨Nat.le_of_ble_eq_true rfl, Nat.le_of_ble_eq_true rfl⟩ hP hD [] rfl rfl rfl rfl hl (Nat.le_of_ble_eq_true rfl) dX4_set_3 ⟨Nat.le_refl _, Nat.le_refl _⟩) ⟨rfl, rfl⟩ rfl (fun H locs hP hD hS => ?_)
    refine lv_if_eq (tgt := 13) hx hb dX4_set_6 (by decide) (fun c_6 => ?_) (fun c_6 => ?_)
    · replace hq := (if_pos c_6).symm.trans hq
      refine lv_iconst (v := 1) hx hb dX4_set_13 (by decide) ?_
      have hC := c_X4_refused l G m0 te re no tr di ke ik mf 1
      rw [ref_1] at hC
      refine k_i (r := 1) (ws' := [oMo m0 te re no tr di ke ik (upd mf 0 1), aI G no 101 pn, aI G di 1414 dd]) (as := [m0]) cx hP hD hS [0] rfl (kr_V (n := 1) (As := [.int 1]) (ci := 4) cx hC gX4_set_X4_refused rfl rfl rfl (by decide +kernel) ⟨Nat.le_of_ble_eq_true rfl, Nat.le_of_ble_eq_true rfl⟩ rfl rfl rfl hP hD [0] rfl rfl rfl rfl hl (Nat.le_of_ble_eq_true rfl) dX4_set_14 ⟨Nat.le_refl _, Nat.le_refl _⟩) ⟨rfl, rfl⟩ rfl (fun H locs hP hD hS => ?_)
      refine lv_if_eq (tgt := 22) hx hb dX4_set_17 (by decide) (fun cz => absurd cz (by decide)) (fun _ => ?_)
      refine lv_iconst (v := 0) hx hb dX4_set_20 (by decide) ?_
      subst hq
      exact k_iret cx hP hS dX4_set_21
    · replace hq := (if_neg c_6).symm.trans hq
      refine lv_iconst (v := 0) hx hb dX4_set_9 (by decide) ?_
      refine lv_goto (tgt := 14) hx hb dX4_set_10 (by decide) ?_
      have hC := c_X4_refused l G m0 te re no tr di ke ik mf 0
      rw [ref_0] at hC
      refine k_i (r := 0) (ws' := [oMo m0 te re no tr di ke ik (upd mf 0 0), aI G no 101 pn, aI G di 1414 dd]) (as := [m0]) cx hP hD hS [0] rfl (kr_V (n := 1) (As := [.int 0]) (ci := 4) cx hC gX4_set_X4_refused rfl rfl rfl (by decide +kernel) ⟨Nat.le_of_ble_eq_true rfl, Nat.le_of_ble_eq_true rfl⟩ rfl rfl rfl hP hD [0] rfl rfl rfl rfl hl (Nat.le_of_ble_eq_true rfl) dX4_set_14 ⟨Nat.le_refl _, Nat.le_refl _⟩) ⟨rfl, rfl⟩ rfl (fun H locs hP hD hS => ?_)
      refine lv_if_eq (tgt := 22) hx hb dX4_set_17 (by decide) (fun _ => ?_) (fun cz => absurd (by decide) cz)
      refine lv_aload_n hx hb dX4_set_22 rfl (lv_at hl 0 rfl) ?_
      have hC := c_X4_note l G m0 te re no tr di ke ik (upd mf 0 0) pn dd (hac)
      generalize hu23 : P_X4_note (upd mf 0 0) pn dd = u23 at hC hq
      refine k_v (ws' := [oMo m0 te re no tr di ke ik u23.1, aI G no 101 pn, aI G di 1414 u23.2]) (as := [m0, no, di]) cx hP hD hS [0, 1, 2] rfl (kr_V (n := 0) (As := []) (ci := 4) cx hC gX4_set_X4_note rfl rfl rfl (by decide +kernel) ⟨Nat.le_of_ble_eq_true rfl, Nat.le_of_ble_eq_true rfl⟩ rfl rfl rfl hP hD [0, 1, 2] rfl rfl rfl rfl hl (Nat.le_of_ble_eq_true rfl) dX4_set_23 ⟨Nat.le_refl _, Nat.le_refl _⟩) ⟨rfl, rfl⟩ rfl (fun H locs hP hD hS => ?_)
      refine lv_aload_n hx hb dX4_set_26 rfl (lv_at hl 0 rfl) ?_
      refine k_get (v := .ref no) (T := TX4) (C := RX4) (N := 11) cx hi_X4_set_4 hP 0 rfl rfl 5 (by decide) (by decide +kernel) rfl dX4_set_27 ?_
      refine lv_iload_n hx hb dX4_set_30 rfl (lv_at hl 1 rfl) ?_
      refine k_iald (j := what.toNatClampNeg) cx hP 1 rfl rfl (ix_set c_6) dX4_set_31 ?_
      refine lv_istore_n (lv' := [(3, .int (pn what.toNatClampNeg)), (0, .ref m0), (1, .int what), (2, .int v)]) hx hb dX4_set_32 rfl hl (by decide) rfl (fun ls hl => ?_)
      refine lv_aload_n hx hb dX4_set_33 rfl (lv_at hl 1 rfl) ?_
      refine k_get (v := .ref no) (T := TX4) (C := RX4) (N := 11) cx hi_X4_set_4 hP 0 rfl rfl 5 (by decide) (by decide +kernel) rfl dX4_set_34 ?_
      refine lv_iload_n hx hb dX4_set_37 rfl (lv_at hl 2 rfl) ?_
      refine lv_iload_n hx hb dX4_set_38 rfl (lv_at hl 3 rfl) ?_
      refine k_iast (ws' := [oMo m0 te re no tr di ke ik u23.1, aI G no 101 (upd pn what.toNatClampNeg v), aI G di 1414 u23.2]) (j := what.toNatClampNeg) cx hP hD hS 1 rfl rfl (ix_set c_6) rfl dX4_set_39 (fun H locs hP hD hS => ?_)
      refine lv_iload_n hx hb dX4_set_40 rfl (lv_at hl 0 rfl) ?_
      subst hq
      exact k_iret cx hP hS dX4_set_41
  subst hL
  subst hH
  subst hq
  exact key _ _ hP hD hS

/-! X4_choose -/
theorem hi_X4_choose_4 : ∀ w ∈ u_ws RX4 TX4 11, w ∈ wsX4_choose := by decide +kernel
abbrev rm_X4_choose : Room := { frames := 2, cells := 0, slots := 0, locals := 46 }
abbrev Q_X4_choose (G : gG) (m0 : Nat) (te : Nat) (re : Nat) (no : Nat) (tr : Nat) (di : Nat) (ke : Nat) (ik : Nat)   (tgt : Int32 × (Nat → Int32) × (Nat → Int32) × (Nat → Int32)) (below : List Frame) (args : Array Value) (s : State) (A : Nat → Prop) : State → Prop := MQ below (qI G tgt.1 [oMo m0 te re no tr di ke ik tgt.2.1, aI G no 101 tgt.2.2.1, aI G di 1414 tgt.2.2.2] A) args s 0 0 A
def P_X4_choose (mf : Nat → Int32) (pn : Nat → Int32) (dd : Nat → Int32) (i : Int32) : Int32 × (Nat → Int32) × (Nat → Int32) × (Nat → Int32) := (if (P_X4_isUnknown pn i) = 0 then (0, (upd mf 0 1), pn, dd) else (let u26 := P_X4_note (upd mf 0 0) pn dd; ((pn 10), u26.1, (upd pn 10 i), u26.2)))
set_option maxHeartbeats 4000000 in
set_option maxRecDepth 100000 in
theorem c_X4_choose (l : Launch) (G : gG) (m0 : Nat) (te : Nat) (re : Nat) (no : Nat) (tr : Nat) (di : Nat) (ke : Nat) (ik : Nat) (mf : Nat → Int32) (pn : Nat → Int32) (dd : Nat → Int32) (i : Int32) (hac : AB (mf 8)) : kM l G yX4_choose wsX4_choose rm_X4_choose [.ref m0, .int i] [oMo m0 te re no tr di ke ik mf, aI G no 101 pn, aI G di 1414 dd] (qI G ((P_X4_choose mf pn dd i).1) [oMo m0 te re no tr di ke ik ((P_X4_choose mf pn dd i).2.1), aI G no 101 ((P_X4_choose mf pn dd i).2.2.1), aI G di 1414 ((P_X4_choose mf pn dd i).2.2.2)]) := by
  refine k_body (cc := cX4_choose) (nL := 3) (ret := (some .int)) (by decide) rfl (Nat.le_of_ble_eq_true rfl) ?_
  intro p e s m args below meth c A cx hP hD hS ls hl
  obtain ⟨hx, hb, hml, hown, hts, hr, hlocks, hK, hA⟩ := id cx
  obtain ⟨H, hH⟩ : ∃ H, H = s.heap := ⟨_, rfl⟩
  obtain ⟨locs, hL⟩ : ∃ locs : List Loc, locs = [] := ⟨_, rfl⟩
  obtain ⟨tgt, hq⟩ : ∃ tgt, (P_X4_choose mf pn dd i) = tgt := ⟨_, rfl⟩
  have hS : va_S A s.heap H locs := by rw [hH, hL]; exact hS
  rw [← hH] at hP
  have hl : lv_has ls 3 [(0, .ref m0), (1, .int i)] := hl
  have key : ∀ (H : Heap) (locs : List Loc), va_P G.1 vwCl [oMo m0 te re no tr di ke ik mf, aI G no 101 pn, aI G di 1414 dd] H → va_D A [oMo m0 te re no tr di ke ik mf, aI G no 101 pn, aI G di 1414 dd] → va_S A s.heap H locs → W p l e rm_X4_choose s m args below meth c H locs 0 0 (Q_X4_choose G m0 te re no tr di ke ik tgt below args s A) (F0 m 0 ls []) := by
    clear hP hD hS hH hL
    intro H locs hP hD hS
    unfold P_X4_choose at hq
    refine lv_aload_n hx hb dX4_choose_0 rfl (lv_at hl 0 rfl) ?_
    refine lv_aload_n hx hb dX4_choose_1 rfl (lv_at hl 0 rfl) ?_
    refine k_get (v := .ref no) (T := TX4) (C := RX4) (N := 11) cx hi_X4_choose_4 hP 0 rfl rfl 5 (by decide) (by decide +kernel) rfl dX4_choose_2 ?_
    refine lv_iload_n hx hb dX4_choose_5 rfl (lv_at hl 1 rfl) ?_
    have hC := c_X4_isUnknown l G no pn i
    refine k_i (ws' := [oMo m0 te re no tr di ke ik mf, aI G no 101 pn, aI G di 1414 dd]) (as := [no]) cx hP hD hS [1] rfl (kr_S (n := 2) (As := [.ref no, .int i]) cx hC gX4_choose_X4_isUnknown rfl rfl rfl (by decide +kernel) ⟨Nat.le_of_ble_eq_true rfl, Nat.le_of_ble_eq_true rfl⟩ hP hD [1] rfl rfl rfl rfl hl (Nat.le_of_ble_eq_true rfl) dX4_choose_6 ⟨Nat.le_refl _, Nat.le_refl _⟩) ⟨rfl, rfl⟩ rfl (fun H locs hP hD hS => ?_)
    refine lv_if_eq (tgt := 16) hx hb dX4_choose_9 (by decide) (fun c_9 => ?_) (fun c_9 => ?_)
    · replace hq := (if_pos c_9).symm.trans hq
      refine lv_iconst (v := 1) hx hb dX4_choose_16 (by decide) ?_
      have hC := c_X4_refused l G m0 te re no tr di ke ik mf 1
      rw [ref_1] at hC
      refine k_i (r := 1) (ws' := [oMo m0 te re no tr di ke ik (upd mf 0 1), aI G no 101 pn, aI G di 1414 dd]) (as := [m0]) cx hP hD hS [0] rfl (kr_V (n := 1) (As := [.int 1]) (ci := 4) cx hC gX4_choose_X4_refused rfl rfl rfl (by decide +kernel) ⟨Nat.le_of_ble_eq_true rfl, Nat.le_of_ble_eq_true rfl⟩ rfl rfl rfl hP hD [0] rfl rfl rfl rfl hl (Nat.le_of_ble_eq_true rfl) dX4_choose_17 ⟨Nat.le_refl _, Nat.le_refl _⟩) ⟨rfl, rfl⟩ rfl (fun H locs hP hD hS => ?_)
      refine lv_if_eq (tgt := 25) hx hb dX4_choose_20 (by decide) (fun cz => absurd cz (by decide)) (fun _ => ?_)
      refine lv_iconst (v := 0) hx hb dX4_choose_23 (by decide) ?_
      subst hq
      exact k_iret cx hP hS dX4_choose_24
    · replace hq := (if_neg c_9).symm.trans hq
      refine lv_iconst (v := 0) hx hb dX4_choose_12 (by decide) ?_
      refine lv_goto (tgt := 17) hx hb dX4_choose_13 (by decide) ?_
      have hC := c_X4_refused l G m0 te re no tr di ke ik mf 0
      rw [ref_0] at hC
      refine k_i (r := 0) (ws' := [oMo m0 te re no tr di ke ik (upd mf 0 0), aI G no 101 pn, aI G di 1414 dd]) (as := [m0]) cx hP hD hS [0] rfl (kr_V (n := 1) (As := [.int 0]) (ci := 4) cx hC gX4_choose_X4_refused rfl rfl rfl (by decide +kernel) ⟨Nat.le_of_ble_eq_true rfl, Nat.le_of_ble_eq_true rfl⟩ rfl rfl rfl hP hD [0] rfl rfl rfl rfl hl (Nat.le_of_ble_eq_true rfl) dX4_choose_17 ⟨Nat.le_refl _, Nat.le_refl _⟩) ⟨rfl, rfl⟩ rfl (fun H locs hP hD hS => ?_)
      refine lv_if_eq (tgt := 25) hx hb dX4_choose_20 (by decide) (fun _ => ?_) (fun cz => absurd (by decide) cz)
      refine lv_aload_n hx hb dX4_choose_25 rfl (lv_at hl 0 rfl) ?_
      have hC := c_X4_note l G m0 te re no tr di ke ik (upd mf 0 0) pn dd (hac)
      generalize hu26 : P_X4_note (upd mf 0 0) pn dd = u26 at hC hq
      refine k_v (ws' := [oMo m0 te re no tr di ke ik u26.1, aI G no 101 pn, aI G di 1414 u26.2]) (as := [m0, no, di]) cx hP hD hS [0, 1, 2] rfl (kr_V (n := 0) (As := []) (ci := 4) cx hC gX4_choose_X4_note rfl rfl rfl (by decide +kernel) ⟨Nat.le_of_ble_eq_true rfl, Nat.le_of_ble_eq_true rfl⟩ rfl rfl rfl hP hD [0, 1, 2] rfl rfl rfl rfl hl (Nat.le_of_ble_eq_true rfl) dX4_choose_26 ⟨Nat.le_refl _, Nat.le_refl _⟩) ⟨rfl, rfl⟩ rfl (fun H locs hP hD hS => ?_)
      refine lv_aload_n hx hb dX4_choose_29 rfl (lv_at hl 0 rfl) ?_
      refine k_get (v := .ref no) (T := TX4) (C := RX4) (N := 11) cx hi_X4_choose_4 hP 0 rfl rfl 5 (by decide) (by decide +kernel) rfl dX4_choose_30 ?_
      refine lv_bipush (v := 10) hx hb dX4_choose_33 (by decide) ?_
      refine k_iald (j := 10) cx hP 1 rfl (by decide) (by unfold vp_in; decide) dX4_choose_35 ?_
      refine lv_istore_n (lv' := [(2, .int (pn 10)), (0, .ref m0), (1, .int i)]) hx hb dX4_choose_36 rfl hl (by decide) rfl (fun ls hl => ?_)
      refine lv_aload_n hx hb dX4_choose_37 rfl (lv_at hl 1 rfl) ?_
      refine k_get (v := .ref no) (T := TX4) (C := RX4) (N := 11) cx hi_X4_choose_4 hP 0 rfl rfl 5 (by decide) (by decide +kernel) rfl dX4_choose_38 ?_
      refine lv_bipush (v := 10) hx hb dX4_choose_41 (by decide) ?_
      refine lv_iload_n hx hb dX4_choose_43 rfl (lv_at hl 2 rfl) ?_
      refine k_iast (ws' := [oMo m0 te re no tr di ke ik u26.1, aI G no 101 (upd pn 10 i), aI G di 1414 u26.2]) (j := 10) cx hP hD hS 1 rfl (by decide) (by unfold vp_in; decide) rfl dX4_choose_44 (fun H locs hP hD hS => ?_)
      refine lv_iload_n hx hb dX4_choose_45 rfl (lv_at hl 0 rfl) ?_
      subst hq
      exact k_iret cx hP hS dX4_choose_46
  subst hL
  subst hH
  subst hq
  exact key _ _ hP hD hS

/-! X4_add -/
theorem hi_X4_add_4 : ∀ w ∈ u_ws RX4 TX4 11, w ∈ wsX4_add := by decide +kernel
abbrev rm_X4_add : Room := { frames := 2, cells := 0, slots := 0, locals := 45 }
abbrev Q_X4_add (G : gG) (m0 : Nat) (te : Nat) (re : Nat) (no : Nat) (tr : Nat) (di : Nat) (ke : Nat) (ik : Nat)   (tgt : Int32 × (Nat → Int32) × (Nat → Int32) × (Nat → Int32)) (below : List Frame) (args : Array Value) (s : State) (A : Nat → Prop) : State → Prop := MQ below (qI G tgt.1 [oMo m0 te re no tr di ke ik tgt.2.1, aI G no 101 tgt.2.2.1, aI G di 1414 tgt.2.2.2] A) args s 0 0 A
def P_X4_add (mf : Nat → Int32) (pn : Nat → Int32) (dd : Nat → Int32) (ohms : Int32) : Int32 × (Nat → Int32) × (Nat → Int32) × (Nat → Int32) := (if (P_X4_in ((ohms).toInt64) 1 9999) = 0 then (0, (upd mf 0 1), pn, dd) else (if (pn 9) = 6 then (0, (upd mf 0 2), pn, dd) else (let u43 := P_X4_note (upd mf 0 0) pn dd; (((((upd pn (15 + (pn 9)).toNatClampNeg ohms) 9) + 1) - 1), u43.1, (upd (upd pn (15 + (pn 9)).toNatClampNeg ohms) 9 (((upd pn (15 + (pn 9)).toNatClampNeg ohms) 9) + 1)), u43.2))))
set_option maxHeartbeats 4000000 in
set_option maxRecDepth 100000 in
theorem c_X4_add (l : Launch) (G : gG) (m0 : Nat) (te : Nat) (re : Nat) (no : Nat) (tr : Nat) (di : Nat) (ke : Nat) (ik : Nat) (mf : Nat → Int32) (pn : Nat → Int32) (dd : Nat → Int32) (ohms : Int32) (hpv : PV pn) (hac : AB (mf 8)) : kM l G yX4_add wsX4_add rm_X4_add [.ref m0, .int ohms] [oMo m0 te re no tr di ke ik mf, aI G no 101 pn, aI G di 1414 dd] (qI G ((P_X4_add mf pn dd ohms).1) [oMo m0 te re no tr di ke ik ((P_X4_add mf pn dd ohms).2.1), aI G no 101 ((P_X4_add mf pn dd ohms).2.2.1), aI G di 1414 ((P_X4_add mf pn dd ohms).2.2.2)]) := by
  refine k_body (cc := cX4_add) (nL := 2) (ret := (some .int)) (by decide) rfl (Nat.le_of_ble_eq_true rfl) ?_
  intro p e s m args below meth c A cx hP hD hS ls hl
  obtain ⟨hx, hb, hml, hown, hts, hr, hlocks, hK, hA⟩ := id cx
  obtain ⟨H, hH⟩ : ∃ H, H = s.heap := ⟨_, rfl⟩
  obtain ⟨locs, hL⟩ : ∃ locs : List Loc, locs = [] := ⟨_, rfl⟩
  obtain ⟨tgt, hq⟩ : ∃ tgt, (P_X4_add mf pn dd ohms) = tgt := ⟨_, rfl⟩
  have hS : va_S A s.heap H locs := by rw [hH, hL]; exact hS
  rw [← hH] at hP
  have hl : lv_has ls 2 [(0, .ref m0), (1, .int ohms)] := hl
  have key : ∀ (H : Heap) (locs : List Loc), va_P G.1 vwCl [oMo m0 te re no tr di ke ik mf, aI G no 101 pn, aI G di 1414 dd] H → va_D A [oMo m0 te re no tr di ke ik mf, aI G no 101 pn, aI G di 1414 dd] → va_S A s.heap H locs → W p l e rm_X4_add s m args below meth c H locs 0 0 (Q_X4_add G m0 te re no tr di ke ik tgt below args s A) (F0 m 0 ls []) := by
    clear hP hD hS hH hL
    intro H locs hP hD hS
    unfold P_X4_add at hq
    refine lv_aload_n hx hb dX4_add_0 rfl (lv_at hl 0 rfl) ?_
    refine lv_iload_n hx hb dX4_add_1 rfl (lv_at hl 1 rfl) ?_
    refine lv_i2l hx hb dX4_add_2 rfl ?_
    refine lv_lconst (v := 1) hx hb dX4_add_3 (by decide) ?_
    refine k_ldc2 (v := 9999) cx (by decide +kernel) dX4_add_4 ?_
    have hC := c_X4_in l G ((ohms).toInt64) 1 9999
    refine k_i (ws' := [oMo m0 te re no tr di ke ik mf, aI G no 101 pn, aI G di 1414 dd]) (as := []) cx hP hD hS [] rfl (kr_S (n := 3) (As := [.long (ohms).toInt64, .long 1, .long 9999]) cx hC gX4_add_X4_in rfl rfl rfl (by decide +kernel) ⟨Nat.le_of_ble_eq_true rfl, Nat.le_of_ble_eq_true rfl⟩ hP hD [] rfl rfl rfl rfl hl (Nat.le_of_ble_eq_true rfl) dX4_add_7 ⟨Nat.le_refl _, Nat.le_refl _⟩) ⟨rfl, rfl⟩ rfl (fun H locs hP hD hS => ?_)
    refine lv_if_ne (tgt := 17) hx hb dX4_add_10 (by decide) (fun c_10 => ?_) (fun c_10 => ?_)
    · replace hq := (if_neg c_10).symm.trans hq
      refine lv_aload_n hx hb dX4_add_17 rfl (lv_at hl 0 rfl) ?_
      refine k_get (v := .ref no) (T := TX4) (C := RX4) (N := 11) cx hi_X4_add_4 hP 0 rfl rfl 5 (by decide) (by decide +kernel) rfl dX4_add_18 ?_
      refine lv_bipush (v := 9) hx hb dX4_add_21 (by decide) ?_
      refine k_iald (j := 9) cx hP 1 rfl (by decide) (by unfold vp_in; decide) dX4_add_23 ?_
      refine lv_bipush (v := 6) hx hb dX4_add_24 (by decide) ?_
      refine lv_icmp_ne (tgt := 33) hx hb dX4_add_26 (by decide) (fun c_26 => ?_) (fun c_26 => ?_)
      · replace hq := (if_neg c_26).symm.trans hq
        refine lv_iconst (v := 0) hx hb dX4_add_33 (by decide) ?_
        have hC := c_X4_refused l G m0 te re no tr di ke ik mf 0
        rw [ref_0] at hC
        refine k_i (r := 0) (ws' := [oMo m0 te re no tr di ke ik (upd mf 0 0), aI G no 101 pn, aI G di 1414 dd]) (as := [m0]) cx hP hD hS [0] rfl (kr_V (n := 1) (As := [.int 0]) (ci := 4) cx hC gX4_add_X4_refused rfl rfl rfl (by decide +kernel) ⟨Nat.le_of_ble_eq_true rfl, Nat.le_of_ble_eq_true rfl⟩ rfl rfl rfl hP hD [0] rfl rfl rfl rfl hl (Nat.le_of_ble_eq_true rfl) dX4_add_34 ⟨Nat.le_refl _, Nat.le_refl _⟩) ⟨rfl, rfl⟩ rfl (fun H locs hP hD hS => ?_)
        refine lv_if_eq (tgt := 42) hx hb dX4_add_37 (by decide) (fun _ => ?_) (fun cz => absurd (by decide) cz)
        refine lv_aload_n hx hb dX4_add_42 rfl (lv_at hl 0 rfl) ?_
        have hC := c_X4_note l G m0 te re no tr di ke ik (upd mf 0 0) pn dd (hac)
        generalize hu43 : P_X4_note (upd mf 0 0) pn dd = u43 at hC hq
        refine k_v (ws' := [oMo m0 te re no tr di ke ik u43.1, aI G no 101 pn, aI G di 1414 u43.2]) (as := [m0, no, di]) cx hP hD hS [0, 1, 2] rfl (kr_V (n := 0) (As := []) (ci := 4) cx hC gX4_add_X4_note rfl rfl rfl (by decide +kernel) ⟨Nat.le_of_ble_eq_true rfl, Nat.le_of_ble_eq_true rfl⟩ rfl rfl rfl hP hD [0, 1, 2] rfl rfl rfl rfl hl (Nat.le_of_ble_eq_true rfl) dX4_add_43 ⟨Nat.le_refl _, Nat.le_refl _⟩) ⟨rfl, rfl⟩ rfl (fun H locs hP hD hS => ?_)
        refine lv_aload_n hx hb dX4_add_46 rfl (lv_at hl 0 rfl) ?_
        refine k_get (v := .ref no) (T := TX4) (C := RX4) (N := 11) cx hi_X4_add_4 hP 0 rfl rfl 5 (by decide) (by decide +kernel) rfl dX4_add_47 ?_
        refine lv_bipush (v := 15) hx hb dX4_add_50 (by decide) ?_
        refine lv_aload_n hx hb dX4_add_52 rfl (lv_at hl 0 rfl) ?_
        refine k_get (v := .ref no) (T := TX4) (C := RX4) (N := 11) cx hi_X4_add_4 hP 0 rfl rfl 5 (by decide) (by decide +kernel) rfl dX4_add_53 ?_
        refine lv_bipush (v := 9) hx hb dX4_add_56 (by decide) ?_
        refine k_iald (j := 9) cx hP 1 rfl (by decide) (by unfold vp_in; decide) dX4_add_58 ?_
        refine lv_iadd hx hb dX4_add_59 ?_
        refine lv_iload_n hx hb dX4_add_60 rfl (lv_at hl 1 rfl) ?_
        refine k_iast (ws' := [oMo m0 te re no tr di ke ik u43.1, aI G no 101 (upd pn (15 + (pn 9)).toNatClampNeg ohms), aI G di 1414 u43.2]) (j := (15 + (pn 9)).toNatClampNeg) cx hP hD hS 1 rfl rfl (ix_add6 hpv c_26) rfl dX4_add_61 (fun H locs hP hD hS => ?_)
        refine lv_aload_n hx hb dX4_add_62 rfl (lv_at hl 0 rfl) ?_
        refine k_get (v := .ref no) (T := TX4) (C := RX4) (N := 11) cx hi_X4_add_4 hP 0 rfl rfl 5 (by decide) (by decide +kernel) rfl dX4_add_63 ?_
        refine lv_bipush (v := 9) hx hb dX4_add_66 (by decide) ?_
        refine lv_dup2_11 hx hb dX4_add_68 rfl rfl ?_
        refine k_iald (j := 9) cx hP 1 rfl (by decide) (by unfold vp_in; decide) dX4_add_69 ?_
        refine lv_iconst (v := 1) hx hb dX4_add_70 (by decide) ?_
        refine lv_iadd hx hb dX4_add_71 ?_
        refine k_iast (ws' := [oMo m0 te re no tr di ke ik u43.1, aI G no 101 (upd (upd pn (15 + (pn 9)).toNatClampNeg ohms) 9 (((upd pn (15 + (pn 9)).toNatClampNeg ohms) 9) + 1)), aI G di 1414 u43.2]) (j := 9) cx hP hD hS 1 rfl (by decide) (by unfold vp_in; decide) rfl dX4_add_72 (fun H locs hP hD hS => ?_)
        refine lv_aload_n hx hb dX4_add_73 rfl (lv_at hl 0 rfl) ?_
        refine k_get (v := .ref no) (T := TX4) (C := RX4) (N := 11) cx hi_X4_add_4 hP 0 rfl rfl 5 (by decide) (by decide +kernel) rfl dX4_add_74 ?_
        refine lv_bipush (v := 9) hx hb dX4_add_77 (by decide) ?_
        refine k_iald (j := 9) cx hP 1 rfl (by decide) (by unfold vp_in; decide) dX4_add_79 ?_
        refine lv_iconst (v := 1) hx hb dX4_add_80 (by decide) ?_
        refine lv_isub hx hb dX4_add_81 ?_
        subst hq
        exact k_iret cx hP hS dX4_add_82
      · replace hq := (if_pos c_26).symm.trans hq
        refine lv_iconst (v := 2) hx hb dX4_add_29 (by decide) ?_
        refine lv_goto (tgt := 34) hx hb dX4_add_30 (by decide) ?_
        have hC := c_X4_refused l G m0 te re no tr di ke ik mf 2
        rw [ref_2] at hC
        refine k_i (r := 1) (ws' := [oMo m0 te re no tr di ke ik (upd mf 0 2), aI G no 101 pn, aI G di 1414 dd]) (as := [m0]) cx hP hD hS [0] rfl (kr_V (n := 1) (As := [.int 2]) (ci := 4) cx hC gX4_add_X4_refused rfl rfl rfl (by decide +kernel) ⟨Nat.le_of_ble_eq_true rfl, Nat.le_of_ble_eq_true rfl⟩ rfl rfl rfl hP hD [0] rfl rfl rfl rfl hl (Nat.le_of_ble_eq_true rfl) dX4_add_34 ⟨Nat.le_refl _, Nat.le_refl _⟩) ⟨rfl, rfl⟩ rfl (fun H locs hP hD hS => ?_)
        refine lv_if_eq (tgt := 42) hx hb dX4_add_37 (by decide) (fun cz => absurd cz (by decide)) (fun _ => ?_)
        refine lv_iconst (v := 0) hx hb dX4_add_40 (by decide) ?_
        subst hq
        exact k_iret cx hP hS dX4_add_41
    · replace hq := (if_pos c_10).symm.trans hq
      refine lv_iconst (v := 1) hx hb dX4_add_13 (by decide) ?_
      refine lv_goto (tgt := 34) hx hb dX4_add_14 (by decide) ?_
      have hC := c_X4_refused l G m0 te re no tr di ke ik mf 1
      rw [ref_1] at hC
      refine k_i (r := 1) (ws' := [oMo m0 te re no tr di ke ik (upd mf 0 1), aI G no 101 pn, aI G di 1414 dd]) (as := [m0]) cx hP hD hS [0] rfl (kr_V (n := 1) (As := [.int 1]) (ci := 4) cx hC gX4_add_X4_refused rfl rfl rfl (by decide +kernel) ⟨Nat.le_of_ble_eq_true rfl, Nat.le_of_ble_eq_true rfl⟩ rfl rfl rfl hP hD [0] rfl rfl rfl rfl hl (Nat.le_of_ble_eq_true rfl) dX4_add_34 ⟨Nat.le_refl _, Nat.le_refl _⟩) ⟨rfl, rfl⟩ rfl (fun H locs hP hD hS => ?_)
      refine lv_if_eq (tgt := 42) hx hb dX4_add_37 (by decide) (fun cz => absurd cz (by decide)) (fun _ => ?_)
      refine lv_iconst (v := 0) hx hb dX4_add_40 (by decide) ?_
      subst hq
      exact k_iret cx hP hS dX4_add_41
  subst hL
  subst hH
  subst hq
  exact key _ _ hP hD hS

/-! X4_free -/
theorem hi_X4_free_4 : ∀ w ∈ u_ws RX4 TX4 11, w ∈ wsX4_free := by decide +kernel
abbrev rm_X4_free : Room := { frames := 2, cells := 0, slots := 0, locals := 45 }
abbrev Q_X4_free (G : gG) (m0 : Nat) (te : Nat) (re : Nat) (no : Nat) (tr : Nat) (di : Nat) (ke : Nat) (ik : Nat)   (tgt : Int32 × (Nat → Int32) × (Nat → Int32) × (Nat → Int32)) (below : List Frame) (args : Array Value) (s : State) (A : Nat → Prop) : State → Prop := MQ below (qI G tgt.1 [oMo m0 te re no tr di ke ik tgt.2.1, aI G no 101 tgt.2.2.1, aI G di 1414 tgt.2.2.2] A) args s 0 0 A
def P_X4_free (mf : Nat → Int32) (pn : Nat → Int32) (dd : Nat → Int32) : Int32 × (Nat → Int32) × (Nat → Int32) × (Nat → Int32) := (let u6 := P_X4_note (upd mf 0 0) pn dd; let u21 := P_X4_freeOn pn; ((pn 11), u6.1, u21, u6.2))
set_option maxHeartbeats 4000000 in
set_option maxRecDepth 100000 in
theorem c_X4_free (l : Launch) (G : gG) (m0 : Nat) (te : Nat) (re : Nat) (no : Nat) (tr : Nat) (di : Nat) (ke : Nat) (ik : Nat) (mf : Nat → Int32) (pn : Nat → Int32) (dd : Nat → Int32) (hac : AB (mf 8)) : kM l G yX4_free wsX4_free rm_X4_free [.ref m0] [oMo m0 te re no tr di ke ik mf, aI G no 101 pn, aI G di 1414 dd] (qI G ((P_X4_free mf pn dd).1) [oMo m0 te re no tr di ke ik ((P_X4_free mf pn dd).2.1), aI G no 101 ((P_X4_free mf pn dd).2.2.1), aI G di 1414 ((P_X4_free mf pn dd).2.2.2)]) := by
  refine k_body (cc := cX4_free) (nL := 2) (ret := (some .int)) (by decide) rfl (Nat.le_of_ble_eq_true rfl) ?_
  intro p e s m args below meth c A cx hP hD hS ls hl
  obtain ⟨hx, hb, hml, hown, hts, hr, hlocks, hK, hA⟩ := id cx
  obtain ⟨H, hH⟩ : ∃ H, H = s.heap := ⟨_, rfl⟩
  obtain ⟨locs, hL⟩ : ∃ locs : List Loc, locs = [] := ⟨_, rfl⟩
  obtain ⟨tgt, hq⟩ : ∃ tgt, (P_X4_free mf pn dd) = tgt := ⟨_, rfl⟩
  have hS : va_S A s.heap H locs := by rw [hH, hL]; exact hS
  rw [← hH] at hP
  have hl : lv_has ls 2 [(0, .ref m0)] := hl
  have key : ∀ (H : Heap) (locs : List Loc), va_P G.1 vwCl [oMo m0 te re no tr di ke ik mf, aI G no 101 pn, aI G di 1414 dd] H → va_D A [oMo m0 te re no tr di ke ik mf, aI G no 101 pn, aI G di 1414 dd] → va_S A s.heap H locs → W p l e rm_X4_free s m args below meth c H locs 0 0 (Q_X4_free G m0 te re no tr di ke ik tgt below args s A) (F0 m 0 ls []) := by
    clear hP hD hS hH hL
    intro H locs hP hD hS
    unfold P_X4_free at hq
    refine lv_aload_n hx hb dX4_free_0 rfl (lv_at hl 0 rfl) ?_
    refine lv_iconst (v := 0) hx hb dX4_free_1 (by decide) ?_
    refine k_put (ws' := [oMo m0 te re no tr di ke ik (upd mf 0 0), aI G no 101 pn, aI G di 1414 dd]) (ty := .int) (T := TX4) (C := RX4) (N := 11) cx hi_X4_free_4 tyX4_ok nmX4 hP hD hS 0 rfl rfl 0 (by decide) (by decide +kernel) rfl rfl rfl rfl (Nat.le_of_ble_eq_true rfl) rfl dX4_free_2 (fun H locs hP hD hS => ?_)
    refine lv_aload_n hx hb dX4_free_5 rfl (lv_at hl 0 rfl) ?_
    have hC := c_X4_note l G m0 te re no tr di ke ik (upd mf 0 0) pn dd (hac)
    generalize hu6 : P_X4_note (upd mf 0 0) pn dd = u6 at hC hq
    refine k_v (ws' := [oMo m0 te re no tr di ke ik u6.1, aI G no 101 pn, aI G di 1414 u6.2]) (as := [m0, no, di]) cx hP hD hS [0, 1, 2] rfl (kr_V (n := 0) (As := []) (ci := 4) cx hC gX4_free_X4_note rfl rfl rfl (by decide +kernel) ⟨Nat.le_of_ble_eq_true rfl, Nat.le_of_ble_eq_true rfl⟩ rfl rfl rfl hP hD [0, 1, 2] rfl rfl rfl rfl hl (Nat.le_of_ble_eq_true rfl) dX4_free_6 ⟨Nat.le_refl _, Nat.le_refl _⟩) ⟨rfl, rfl⟩ rfl (fun H locs hP hD hS => ?_)
    refine lv_aload_n hx hb dX4_free_9 rfl (lv_at hl 0 rfl) ?_
    refine k_get (v := .ref no) (T := TX4) (C := RX4) (N := 11) cx hi_X4_free_4 hP 0 rfl rfl 5 (by decide) (by decide +kernel) rfl dX4_free_10 ?_
    refine lv_bipush (v := 11) hx hb dX4_free_13 (by decide) ?_
    refine k_iald (j := 11) cx hP 1 rfl (by decide) (by unfold vp_in; decide) dX4_free_15 ?_
    refine lv_istore_n (lv' := [(1, .int (pn 11)), (0, .ref m0)]) hx hb dX4_free_16 rfl hl (by decide) rfl (fun ls hl => ?_)
    refine lv_aload_n hx hb dX4_free_17 rfl (lv_at hl 1 rfl) ?_
    refine k_get (v := .ref no) (T := TX4) (C := RX4) (N := 11) cx hi_X4_free_4 hP 0 rfl rfl 5 (by decide) (by decide +kernel) rfl dX4_free_18 ?_
    have hC := c_X4_freeOn l G no pn
    replace hq := k_let hq
    generalize hu21 : P_X4_freeOn pn = u21 at hC hq
    refine k_v (ws' := [oMo m0 te re no tr di ke ik u6.1, aI G no 101 u21, aI G di 1414 u6.2]) (as := [no]) cx hP hD hS [1] rfl (kr_S (n := 1) (As := [.ref no]) cx hC gX4_free_X4_freeOn rfl rfl rfl (by decide +kernel) ⟨Nat.le_of_ble_eq_true rfl, Nat.le_of_ble_eq_true rfl⟩ hP hD [1] rfl rfl rfl rfl hl (Nat.le_of_ble_eq_true rfl) dX4_free_21 ⟨Nat.le_refl _, Nat.le_refl _⟩) ⟨rfl, rfl⟩ rfl (fun H locs hP hD hS => ?_)
    refine lv_iload_n hx hb dX4_free_24 rfl (lv_at hl 0 rfl) ?_
    subst hq
    exact k_iret cx hP hS dX4_free_25
  subst hL
  subst hH
  subst hq
  exact key _ _ hP hD hS

/-! X4_undo -/
theorem hi_X4_undo_4 : ∀ w ∈ u_ws RX4 TX4 11, w ∈ wsX4_undo := by decide +kernel
abbrev rm_X4_undo : Room := { frames := 1, cells := 0, slots := 0, locals := 24 }
abbrev Q_X4_undo (G : gG) (m0 : Nat) (te : Nat) (re : Nat) (no : Nat) (tr : Nat) (di : Nat) (ke : Nat) (ik : Nat)  (dd : Nat → Int32) (tgt : Int32 × (Nat → Int32) × (Nat → Int32)) (below : List Frame) (args : Array Value) (s : State) (A : Nat → Prop) : State → Prop := MQ below (qI G tgt.1 [oMo m0 te re no tr di ke ik tgt.2.1, aI G no 101 tgt.2.2, aI G di 1414 dd] A) args s 0 0 A
def P_X4_undo (mf : Nat → Int32) (pn : Nat → Int32) (dd : Nat → Int32) : Int32 × (Nat → Int32) × (Nat → Int32) := (if (mf 8) = 0 then (0, (upd mf 0 1), pn) else (let u47 := P_X4_copyPage 1414 101 dd pn (101 * ((mf 8) - 1)) 0; (((mf 8) - 1), (upd (upd mf 0 0) 8 ((mf 8) - 1)), u47)))
set_option maxHeartbeats 4000000 in
set_option maxRecDepth 100000 in
theorem c_X4_undo (l : Launch) (G : gG) (m0 : Nat) (te : Nat) (re : Nat) (no : Nat) (tr : Nat) (di : Nat) (ke : Nat) (ik : Nat) (mf : Nat → Int32) (pn : Nat → Int32) (dd : Nat → Int32) (hac : AB (mf 8)) : kM l G yX4_undo wsX4_undo rm_X4_undo [.ref m0] [oMo m0 te re no tr di ke ik mf, aI G no 101 pn, aI G di 1414 dd] (qI G ((P_X4_undo mf pn dd).1) [oMo m0 te re no tr di ke ik ((P_X4_undo mf pn dd).2.1), aI G no 101 ((P_X4_undo mf pn dd).2.2), aI G di 1414 dd]) := by
  refine k_body (cc := cX4_undo) (nL := 1) (ret := (some .int)) (by decide) rfl (Nat.le_of_ble_eq_true rfl) ?_
  intro p e s m args below meth c A cx hP hD hS ls hl
  obtain ⟨hx, hb, hml, hown, hts, hr, hlocks, hK, hA⟩ := id cx
  obtain ⟨H, hH⟩ : ∃ H, H = s.heap := ⟨_, rfl⟩
  obtain ⟨locs, hL⟩ : ∃ locs : List Loc, locs = [] := ⟨_, rfl⟩
  obtain ⟨tgt, hq⟩ : ∃ tgt, (P_X4_undo mf pn dd) = tgt := ⟨_, rfl⟩
  have hS : va_S A s.heap H locs := by rw [hH, hL]; exact hS
  rw [← hH] at hP
  have hl : lv_has ls 1 [(0, .ref m0)] := hl
  have key : ∀ (H : Heap) (locs : List Loc), va_P G.1 vwCl [oMo m0 te re no tr di ke ik mf, aI G no 101 pn, aI G di 1414 dd] H → va_D A [oMo m0 te re no tr di ke ik mf, aI G no 101 pn, aI G di 1414 dd] → va_S A s.heap H locs → W p l e rm_X4_undo s m args below meth c H locs 0 0 (Q_X4_undo G m0 te re no tr di ke ik dd tgt below args s A) (F0 m 0 ls []) := by
    clear hP hD hS hH hL
    intro H locs hP hD hS
    unfold P_X4_undo at hq
    refine lv_aload_n hx hb dX4_undo_0 rfl (lv_at hl 0 rfl) ?_
    refine lv_aload_n hx hb dX4_undo_1 rfl (lv_at hl 0 rfl) ?_
    refine k_get (v := .int (mf 8)) (T := TX4) (C := RX4) (N := 11) cx hi_X4_undo_4 hP 0 rfl rfl 8 (by decide) (by decide +kernel) rfl dX4_undo_2 ?_
    refine lv_if_ne (tgt := 12) hx hb dX4_undo_5 (by decide) (fun c_5 => ?_) (fun c_5 => ?_)
    · replace hq := (if_neg c_5).symm.trans hq
      refine lv_iconst (v := 0) hx hb dX4_undo_12 (by decide) ?_
      have hC := c_X4_refused l G m0 te re no tr di ke ik mf 0
      rw [ref_0] at hC
      refine k_i (r := 0) (ws' := [oMo m0 te re no tr di ke ik (upd mf 0 0), aI G no 101 pn, aI G di 1414 dd]) (as := [m0]) cx hP hD hS [0] rfl (kr_V (n := 1) (As := [.int 0]) (ci := 4) cx hC gX4_undo_X4_refused rfl rfl rfl (by decide +kernel) ⟨Nat.le_of_ble_eq_true rfl, Nat.le_of_ble_eq_true rfl⟩ rfl rfl rfl hP hD [0] rfl rfl rfl rfl hl (Nat.le_of_ble_eq_true rfl) dX4_undo_13 ⟨Nat.le_refl _, Nat.le_refl _⟩) ⟨rfl, rfl⟩ rfl (fun H locs hP hD hS => ?_)
      refine lv_if_eq (tgt := 21) hx hb dX4_undo_16 (by decide) (fun _ => ?_) (fun cz => absurd (by decide) cz)
      refine lv_aload_n hx hb dX4_undo_21 rfl (lv_at hl 0 rfl) ?_
      refine lv_dup hx hb dX4_undo_22 rfl ?_
      refine k_get (v := .int (mf 8)) (T := TX4) (C := RX4) (N := 11) cx hi_X4_undo_4 hP 0 rfl rfl 8 (by decide) (by decide +kernel) rfl dX4_undo_23 ?_
      refine lv_iconst (v := 1) hx hb dX4_undo_26 (by decide) ?_
      refine lv_isub hx hb dX4_undo_27 ?_
      refine k_put (ws' := [oMo m0 te re no tr di ke ik (upd (upd mf 0 0) 8 ((mf 8) - 1)), aI G no 101 pn, aI G di 1414 dd]) (ty := .int) (T := TX4) (C := RX4) (N := 11) cx hi_X4_undo_4 tyX4_ok nmX4 hP hD hS 0 rfl rfl 8 (by decide) (by decide +kernel) rfl rfl rfl rfl (Nat.le_of_ble_eq_true rfl) rfl dX4_undo_28 (fun H locs hP hD hS => ?_)
      refine lv_aload_n hx hb dX4_undo_31 rfl (lv_at hl 0 rfl) ?_
      refine k_get (v := .ref di) (T := TX4) (C := RX4) (N := 11) cx hi_X4_undo_4 hP 0 rfl rfl 7 (by decide) (by decide +kernel) rfl dX4_undo_32 ?_
      refine lv_bipush (v := 101) hx hb dX4_undo_35 (by decide) ?_
      refine lv_aload_n hx hb dX4_undo_37 rfl (lv_at hl 0 rfl) ?_
      refine k_get (v := .int ((mf 8) - 1)) (T := TX4) (C := RX4) (N := 11) cx hi_X4_undo_4 hP 0 rfl rfl 8 (by decide) (by decide +kernel) rfl dX4_undo_38 ?_
      refine lv_imul hx hb dX4_undo_41 ?_
      refine lv_aload_n hx hb dX4_undo_42 rfl (lv_at hl 0 rfl) ?_
      refine k_get (v := .ref no) (T := TX4) (C := RX4) (N := 11) cx hi_X4_undo_4 hP 0 rfl rfl 5 (by decide) (by decide +kernel) rfl dX4_undo_43 ?_
      refine lv_iconst (v := 0) hx hb dX4_undo_46 (by decide) ?_
      have hC := c_X4_copyPage l G di no 1414 101 dd pn (101 * ((mf 8) - 1)) 0 (cp_u hac c_5) (cp0)
      generalize hu47 : P_X4_copyPage 1414 101 dd pn (101 * ((mf 8) - 1)) 0 = u47 at hC hq
      refine k_v (ws' := [oMo m0 te re no tr di ke ik (upd (upd mf 0 0) 8 ((mf 8) - 1)), aI G no 101 u47, aI G di 1414 dd]) (as := [di, no]) cx hP hD hS [2, 1] rfl (kr_S (n := 4) (As := [.ref di, .int (101 * ((mf 8) - 1)), .ref no, .int 0]) cx hC gX4_undo_X4_copyPage rfl rfl rfl (by decide +kernel) ⟨Nat.le_of_ble_eq_true rfl, Nat.le_of_ble_eq_true rfl⟩ hP hD [2, 1] rfl rfl rfl rfl hl (Nat.le_of_ble_eq_true rfl) dX4_undo_47 ⟨Nat.le_refl _, Nat.le_refl _⟩) ⟨rfl, rfl⟩ rfl (fun H locs hP hD hS => ?_)
      refine lv_aload_n hx hb dX4_undo_50 rfl (lv_at hl 0 rfl) ?_
      refine k_get (v := .int ((mf 8) - 1)) (T := TX4) (C := RX4) (N := 11) cx hi_X4_undo_4 hP 0 rfl rfl 8 (by decide) (by decide +kernel) rfl dX4_undo_51 ?_
      subst hq
      exact k_iret cx hP hS dX4_undo_54
    · replace hq := (if_pos c_5).symm.trans hq
      refine lv_iconst (v := 1) hx hb dX4_undo_8 (by decide) ?_
      refine lv_goto (tgt := 13) hx hb dX4_undo_9 (by decide) ?_
      have hC := c_X4_refused l G m0 te re no tr di ke ik mf 1
      rw [ref_1] at hC
      refine k_i (r := 1) (ws' := [oMo m0 te re no tr di ke ik (upd mf 0 1), aI G no 101 pn, aI G di 1414 dd]) (as := [m0]) cx hP hD hS [0] rfl (kr_V (n := 1) (As := [.int 1]) (ci := 4) cx hC gX4_undo_X4_refused rfl rfl rfl (by decide +kernel) ⟨Nat.le_of_ble_eq_true rfl, Nat.le_of_ble_eq_true rfl⟩ rfl rfl rfl hP hD [0] rfl rfl rfl rfl hl (Nat.le_of_ble_eq_true rfl) dX4_undo_13 ⟨Nat.le_refl _, Nat.le_refl _⟩) ⟨rfl, rfl⟩ rfl (fun H locs hP hD hS => ?_)
      refine lv_if_eq (tgt := 21) hx hb dX4_undo_16 (by decide) (fun cz => absurd cz (by decide)) (fun _ => ?_)
      refine lv_iconst (v := 0) hx hb dX4_undo_19 (by decide) ?_
      subst hq
      exact k_iret cx hP hS dX4_undo_20
  subst hL
  subst hH
  subst hq
  exact key _ _ hP hD hS

/-! X4_value -/
theorem hi_X4_value_4 : ∀ w ∈ u_ws RX4 TX4 11, w ∈ wsX4_value := by decide +kernel
abbrev rm_X4_value : Room := { frames := 1, cells := 0, slots := 0, locals := 25 }
abbrev Q_X4_value (G : gG) (m0 : Nat) (te : Nat) (re : Nat) (no : Nat) (tr : Nat) (di : Nat) (ke : Nat) (ik : Nat)  (pn : Nat → Int32) (tgt : Int32 × (Nat → Int32)) (below : List Frame) (args : Array Value) (s : State) (A : Nat → Prop) : State → Prop := MQ below (qI G tgt.1 [oMo m0 te re no tr di ke ik tgt.2, aI G no 101 pn] A) args s 0 0 A
def P_X4_value (mf : Nat → Int32) (pn : Nat → Int32) (lim : Int32) : Int32 × (Nat → Int32) := (if (P_X4_in ((lim).toInt64) 0 2) = 0 then (0, (upd mf 0 1)) else (if lim = 0 then ((((2 * ((P_X4_ten (pn 0)) * (pn 2))) + (P_X4_ten (pn 1))) / (2 * (P_X4_ten (pn 1)))), (upd mf 0 0)) else (if lim = 1 then ((((((P_X4_ten (pn 0)) * (pn 2)) + (P_X4_ten (pn 1))) - 1) / (P_X4_ten (pn 1))), (upd mf 0 0)) else ((((P_X4_ten (pn 0)) * (pn 2)) / (P_X4_ten (pn 1))), (upd mf 0 0)))))
set_option maxHeartbeats 4000000 in
set_option maxRecDepth 100000 in
theorem c_X4_value (l : Launch) (G : gG) (m0 : Nat) (te : Nat) (re : Nat) (no : Nat) (tr : Nat) (di : Nat) (ke : Nat) (ik : Nat) (mf : Nat → Int32) (pn : Nat → Int32) (lim : Int32)  : kM l G yX4_value wsX4_value rm_X4_value [.ref m0, .int lim] [oMo m0 te re no tr di ke ik mf, aI G no 101 pn] (qI G ((P_X4_value mf pn lim).1) [oMo m0 te re no tr di ke ik ((P_X4_value mf pn lim).2), aI G no 101 pn]) := by
  refine k_body (cc := cX4_value) (nL := 4) (ret := (some .int)) (by decide) rfl (Nat.le_of_ble_eq_true rfl) ?_
  intro p e s m args below meth c A cx hP hD hS ls hl
  obtain ⟨hx, hb, hml, hown, hts, hr, hlocks, hK, hA⟩ := id cx
  obtain ⟨H, hH⟩ : ∃ H, H = s.heap := ⟨_, rfl⟩
  obtain ⟨locs, hL⟩ : ∃ locs : List Loc, locs = [] := ⟨_, rfl⟩
  obtain ⟨tgt, hq⟩ : ∃ tgt, (P_X4_value mf pn lim) = tgt := ⟨_, rfl⟩
  have hS : va_S A s.heap H locs := by rw [hH, hL]; exact hS
  rw [← hH] at hP
  have hl : lv_has ls 4 [(0, .ref m0), (1, .int lim)] := hl
  have key : ∀ (H : Heap) (locs : List Loc), va_P G.1 vwCl [oMo m0 te re no tr di ke ik mf, aI G no 101 pn] H → va_D A [oMo m0 te re no tr di ke ik mf, aI G no 101 pn] → va_S A s.heap H locs → W p l e rm_X4_value s m args below meth c H locs 0 0 (Q_X4_value G m0 te re no tr di ke ik pn tgt below args s A) (F0 m 0 ls []) := by
    clear hP hD hS hH hL
    intro H locs hP hD hS
    unfold P_X4_value at hq
    refine lv_aload_n hx hb dX4_value_0 rfl (lv_at hl 0 rfl) ?_
    refine lv_iload_n hx hb dX4_value_1 rfl (lv_at hl 1 rfl) ?_
    refine lv_i2l hx hb dX4_value_2 rfl ?_
    refine lv_lconst (v := 0) hx hb dX4_value_3 (by decide) ?_
    refine k_ldc2 (v := 2) cx (by decide +kernel) dX4_value_4 ?_
    have hC := c_X4_in l G ((lim).toInt64) 0 2
    refine k_i (ws' := [oMo m0 te re no tr di ke ik mf, aI G no 101 pn]) (as := []) cx hP hD hS [] rfl (kr_S (n := 3) (As := [.long (lim).toInt64, .long 0, .long 2]) cx hC gX4_value_X4_in rfl rfl rfl (by decide +kernel) ⟨Nat.le_of_ble_eq_true rfl, Nat.le_of_ble_eq_true rfl⟩ hP hD [] rfl rfl rfl rfl hl (Nat.le_of_ble_eq_true rfl) dX4_value_7 ⟨Nat.le_refl _, Nat.le_refl _⟩) ⟨rfl, rfl⟩ rfl (fun H locs hP hD hS => ?_)
    refine lv_if_eq (tgt := 17) hx hb dX4_value_10 (by decide) (fun c_10 => ?_) (fun c_10 => ?_)
    · replace hq := (if_pos c_10).symm.trans hq
      refine lv_iconst (v := 1) hx hb dX4_value_17 (by decide) ?_
      have hC := c_X4_refused l G m0 te re no tr di ke ik mf 1
      rw [ref_1] at hC
      refine k_i (r := 1) (ws' := [oMo m0 te re no tr di ke ik (upd mf 0 1), aI G no 101 pn]) (as := [m0]) cx hP hD hS [0] rfl (kr_V (n := 1) (As := [.int 1]) (ci := 4) cx hC gX4_value_X4_refused rfl rfl rfl (by decide +kernel) ⟨Nat.le_of_ble_eq_true rfl, Nat.le_of_ble_eq_true rfl⟩ rfl rfl rfl hP hD [0] rfl rfl rfl rfl hl (Nat.le_of_ble_eq_true rfl) dX4_value_18 ⟨Nat.le_refl _, Nat.le_refl _⟩) ⟨rfl, rfl⟩ rfl (fun H locs hP hD hS => ?_)
      refine lv_if_eq (tgt := 26) hx hb dX4_value_21 (by decide) (fun cz => absurd cz (by decide)) (fun _ => ?_)
      refine lv_iconst (v := 0) hx hb dX4_value_24 (by decide) ?_
      subst hq
      exact k_iret cx hP hS dX4_value_25
    · replace hq := (if_neg c_10).symm.trans hq
      refine lv_iconst (v := 0) hx hb dX4_value_13 (by decide) ?_
      refine lv_goto (tgt := 18) hx hb dX4_value_14 (by decide) ?_
      have hC := c_X4_refused l G m0 te re no tr di ke ik mf 0
      rw [ref_0] at hC
      refine k_i (r := 0) (ws' := [oMo m0 te re no tr di ke ik (upd mf 0 0), aI G no 101 pn]) (as := [m0]) cx hP hD hS [0] rfl (kr_V (n := 1) (As := [.int 0]) (ci := 4) cx hC gX4_value_X4_refused rfl rfl rfl (by decide +kernel) ⟨Nat.le_of_ble_eq_true rfl, Nat.le_of_ble_eq_true rfl⟩ rfl rfl rfl hP hD [0] rfl rfl rfl rfl hl (Nat.le_of_ble_eq_true rfl) dX4_value_18 ⟨Nat.le_refl _, Nat.le_refl _⟩) ⟨rfl, rfl⟩ rfl (fun H locs hP hD hS => ?_)
      refine lv_if_eq (tgt := 26) hx hb dX4_value_21 (by decide) (fun _ => ?_) (fun cz => absurd (by decide) cz)
      refine lv_aload_n hx hb dX4_value_26 rfl (lv_at hl 0 rfl) ?_
      refine k_get (v := .ref no) (T := TX4) (C := RX4) (N := 11) cx hi_X4_value_4 hP 0 rfl rfl 5 (by decide) (by decide +kernel) rfl dX4_value_27 ?_
      refine lv_iconst (v := 0) hx hb dX4_value_30 (by decide) ?_
      refine k_iald (j := 0) cx hP 1 rfl (by decide) (by unfold vp_in; decide) dX4_value_31 ?_
      have hC := c_X4_ten l G (pn 0)
      refine k_i (ws' := [oMo m0 te re no tr di ke ik (upd mf 0 0), aI G no 101 pn]) (as := []) cx hP hD hS [] rfl (kr_S (n := 1) (As := [.int (pn 0)]) cx hC gX4_value_X4_ten rfl rfl rfl (by decide +kernel) ⟨Nat.le_of_ble_eq_true rfl, Nat.le_of_ble_eq_true rfl⟩ hP hD [] rfl rfl rfl rfl hl (Nat.le_of_ble_eq_true rfl) dX4_value_32 ⟨Nat.le_refl _, Nat.le_refl _⟩) ⟨rfl, rfl⟩ rfl (fun H locs hP hD hS => ?_)
      refine lv_aload_n hx hb dX4_value_35 rfl (lv_at hl 0 rfl) ?_
      refine k_get (v := .ref no) (T := TX4) (C := RX4) (N := 11) cx hi_X4_value_4 hP 0 rfl rfl 5 (by decide) (by decide +kernel) rfl dX4_value_36 ?_
      refine lv_iconst (v := 2) hx hb dX4_value_39 (by decide) ?_
      refine k_iald (j := 2) cx hP 1 rfl (by decide) (by unfold vp_in; decide) dX4_value_40 ?_
      refine lv_imul hx hb dX4_value_41 ?_
      refine lv_istore_n (lv' := [(2, .int ((P_X4_ten (pn 0)) * (pn 2))), (0, .ref m0), (1, .int lim)]) hx hb dX4_value_42 rfl hl (by decide) rfl (fun ls hl => ?_)
      refine lv_aload_n hx hb dX4_value_43 rfl (lv_at hl 1 rfl) ?_
      refine k_get (v := .ref no) (T := TX4) (C := RX4) (N := 11) cx hi_X4_value_4 hP 0 rfl rfl 5 (by decide) (by decide +kernel) rfl dX4_value_44 ?_
      refine lv_iconst (v := 1) hx hb dX4_value_47 (by decide) ?_
      refine k_iald (j := 1) cx hP 1 rfl (by decide) (by unfold vp_in; decide) dX4_value_48 ?_
      have hC := c_X4_ten l G (pn 1)
      refine k_i (ws' := [oMo m0 te re no tr di ke ik (upd mf 0 0), aI G no 101 pn]) (as := []) cx hP hD hS [] rfl (kr_S (n := 1) (As := [.int (pn 1)]) cx hC gX4_value_X4_ten rfl rfl rfl (by decide +kernel) ⟨Nat.le_of_ble_eq_true rfl, Nat.le_of_ble_eq_true rfl⟩ hP hD [] rfl rfl rfl rfl hl (Nat.le_of_ble_eq_true rfl) dX4_value_49 ⟨Nat.le_refl _, Nat.le_refl _⟩) ⟨rfl, rfl⟩ rfl (fun H locs hP hD hS => ?_)
      refine lv_istore_n (lv' := [(3, .int (P_X4_ten (pn 1))), (2, .int ((P_X4_ten (pn 0)) * (pn 2))), (0, .ref m0), (1, .int lim)]) hx hb dX4_value_52 rfl hl (by decide) rfl (fun ls hl => ?_)
      refine lv_iload_n hx hb dX4_value_53 rfl (lv_at hl 3 rfl) ?_
      refine lv_if_ne (tgt := 69) hx hb dX4_value_54 (by decide) (fun c_54 => ?_) (fun c_54 => ?_)
      · replace hq := (if_neg c_54).symm.trans hq
        refine lv_iload_n hx hb dX4_value_69 rfl (lv_at hl 3 rfl) ?_
        refine lv_iconst (v := 1) hx hb dX4_value_70 (by decide) ?_
        refine lv_icmp_ne (tgt := 84) hx hb dX4_value_71 (by decide) (fun c_71 => ?_) (fun c_71 => ?_)
        · replace hq := (if_neg c_71).symm.trans hq
          refine lv_iload_n hx hb dX4_value_84 rfl (lv_at hl 1 rfl) ?_
          refine lv_iload_n hx hb dX4_value_85 rfl (lv_at hl 0 rfl) ?_
          refine lv_idiv hx hb dX4_value_86 (ten_ne _) ?_
          subst hq
          exact k_iret cx hP hS dX4_value_87
        · replace hq := (if_pos c_71).symm.trans hq
          refine lv_iload_n hx hb dX4_value_74 rfl (lv_at hl 1 rfl) ?_
          refine lv_iload_n hx hb dX4_value_75 rfl (lv_at hl 0 rfl) ?_
          refine lv_iadd hx hb dX4_value_76 ?_
          refine lv_iconst (v := 1) hx hb dX4_value_77 (by decide) ?_
          refine lv_isub hx hb dX4_value_78 ?_
          refine lv_iload_n hx hb dX4_value_79 rfl (lv_at hl 0 rfl) ?_
          refine lv_idiv hx hb dX4_value_80 (ten_ne _) ?_
          refine lv_goto (tgt := 87) hx hb dX4_value_81 (by decide) ?_
          subst hq
          exact k_iret cx hP hS dX4_value_87
      · replace hq := (if_pos c_54).symm.trans hq
        refine lv_iconst (v := 2) hx hb dX4_value_57 (by decide) ?_
        refine lv_iload_n hx hb dX4_value_58 rfl (lv_at hl 1 rfl) ?_
        refine lv_imul hx hb dX4_value_59 ?_
        refine lv_iload_n hx hb dX4_value_60 rfl (lv_at hl 0 rfl) ?_
        refine lv_iadd hx hb dX4_value_61 ?_
        refine lv_iconst (v := 2) hx hb dX4_value_62 (by decide) ?_
        refine lv_iload_n hx hb dX4_value_63 rfl (lv_at hl 0 rfl) ?_
        refine lv_imul hx hb dX4_value_64 ?_
        refine lv_idiv hx hb dX4_value_65 (ten2_ne _) ?_
        refine lv_goto (tgt := 87) hx hb dX4_value_66 (by decide) ?_
        subst hq
        exact k_iret cx hP hS dX4_value_87
  subst hL
  subst hH
  subst hq
  exact key _ _ hP hD hS
