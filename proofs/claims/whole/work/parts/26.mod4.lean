/-! X4_balanceOn -/
abbrev rm_X4_balanceOn : Room := { frames := 6, cells := 0, slots := 0, locals := 134 }
abbrev Q_X4_balanceOn (G : gG) (ra : Nat)   (tgt : (Nat → Int32)) (below : List Frame) (args : Array Value) (s : State) (A : Nat → Prop) : State → Prop := MQ below (qV G [aI G ra 101 tgt] A) args s 0 0 A
def P_X4_balanceOn_14 (K8 : Int32 → (Nat → Int32) → (Nat → Int32)) (v1 : Int32) : Nat → Int32 → (Nat → Int32) → (Nat → Int32)
  | 0, _, _ => (fun _ => 0)
  | n + 1, v2, pg => (let j78 := fun (_ : Unit) => (K8 (v1 / 10) pg); (if v2 = 0 then (j78 ()) else (if 9999 < ((pg 2) + v1) then (j78 ()) else (let u37 := P_X4_pairOn (upd pg 2 ((pg 2) + v1)); (if (u37.2 11) = 1 then u37.2 else (if u37.1 < 0 then (P_X4_balanceOn_14 K8 v1 n 0 (upd u37.2 2 ((u37.2 2) - v1))) else (P_X4_balanceOn_14 K8 v1 n 1 (upd u37.2 2 ((u37.2 2) - 0)))))))))
set_option maxHeartbeats 4000000 in
set_option maxRecDepth 100000 in
theorem b_X4_balanceOn_14 {p : Program} {l : Launch} {e : Env} {s : State} {m : MethodId} {args : Array Value} {below : List Frame} {meth : Method} {c : Code} {G : gG} {A : Nat → Prop} (cx : Cx p s m args meth c cX4_balanceOn 4 yX4_balanceOn.cls wsX4_balanceOn none G A) (ra : Nat) (K8 : Int32 → (Nat → Int32) → (Nat → Int32)) (v1 : Int32)  (hdd : DE v1) (hd0 : ¬ v1 ≤ 0) (tgt : (Nat → Int32)) (hK8 : ∀ (pg : Nat → Int32), PV pg → DE (v1 / 10) → K8 (v1 / 10) pg = tgt → ∀ (H : Heap) (locs : List Loc), va_P G.1 vwCl [aI G ra 101 pg] H → va_D A [aI G ra 101 pg] → va_S A s.heap H locs → ∀ (ls : Array Slot), lv_has ls 4 [(0, .ref ra), (1, .int (v1 / 10))] → W p l e rm_X4_balanceOn s m args below meth c H locs 0 0 (Q_X4_balanceOn G ra tgt below args s A) (F0 m 8 ls [])) : ∀ (n : Nat) (v2 : Int32) (pg : Nat → Int32) (hpi : PV pg) (hm : (if (v2 : Int32) = 0 then 0 else (10000 - (pg 2).toInt).toNat) < n) (hq : P_X4_balanceOn_14 K8 v1 n v2 pg = tgt) (H : Heap) (locs : List Loc) (hP : va_P G.1 vwCl [aI G ra 101 pg] H) (hD : va_D A [aI G ra 101 pg]) (hS : va_S A s.heap H locs) (ls : Array Slot) (hl : lv_has ls 4 [(0, .ref ra), (1, .int v1), (2, .int v2)]), W p l e rm_X4_balanceOn s m args below meth c H locs 0 0 (Q_X4_balanceOn G ra tgt below args s A) (F0 m 14 ls []) := by
  obtain ⟨hx, hb, hml, hown, hts, hr, hlocks, hK, hA⟩ := id cx
  intro n
  induction n with
  | zero => intros; omega
  | succ n ih =>
    intro v2 pg hpi hm hq H locs hP hD hS ls hl
    unfold P_X4_balanceOn_14 at hq
    refine lv_iload_n hx hb dX4_balanceOn_14 rfl (lv_at hl 2 rfl) ?_
    have J78 : ∀ (_ : Unit), (K8 (v1 / 10) pg) = tgt → ∀ (H : Heap) (locs : List Loc) (ls : Array Slot), va_P G.1 vwCl [aI G ra 101 pg] H → va_D A [aI G ra 101 pg] → va_S A s.heap H locs → lv_has ls 4 [(0, .ref ra), (1, .int v1)] → W p l e rm_X4_balanceOn s m args below meth c H locs 0 0 (Q_X4_balanceOn G ra tgt below args s A) (F0 m 78 ls []) := by
      intro _ hq H locs ls hP hD hS hl
      refine lv_iload_n hx hb dX4_balanceOn_78 rfl (lv_at hl 1 rfl) ?_
      refine lv_bipush (v := 10) hx hb dX4_balanceOn_79 (by decide) ?_
      refine lv_idiv hx hb dX4_balanceOn_81 (by decide) ?_
      refine lv_istore_n (lv' := [(1, .int (v1 / 10)), (0, .ref ra)]) hx hb dX4_balanceOn_82 rfl hl (by decide) rfl (fun ls hl => ?_)
      refine lv_goto (tgt := 8) hx hb dX4_balanceOn_83 (by decide) ?_
      exact hK8 pg (hpi) (de10 hdd) hq H locs hP hD hS _ (lv_sub hl [1, 0] rfl)
    refine lv_if_eq (tgt := 78) hx hb dX4_balanceOn_15 (by decide) (fun c_15 => ?_) (fun c_15 => ?_)
    · replace hq := (if_pos c_15).symm.trans hq
      exact J78 () hq H locs ls hP hD hS (lv_sub hl [0, 1] rfl)
    · replace hq := (if_neg c_15).symm.trans hq
      refine lv_aload_n hx hb dX4_balanceOn_18 rfl (lv_at hl 0 rfl) ?_
      refine lv_iconst (v := 2) hx hb dX4_balanceOn_19 (by decide) ?_
      refine k_iald (j := 2) cx hP 0 rfl (by decide) (by unfold vp_in; decide) dX4_balanceOn_20 ?_
      refine lv_iload_n hx hb dX4_balanceOn_21 rfl (lv_at hl 1 rfl) ?_
      refine lv_iadd hx hb dX4_balanceOn_22 ?_
      refine lv_sipush (v := 9999) hx hb dX4_balanceOn_23 (by decide) ?_
      refine lv_icmp_gt (tgt := 78) hx hb dX4_balanceOn_26 (by decide) (fun c_26 => ?_) (fun c_26 => ?_)
      · replace hq := (if_pos c_26).symm.trans hq
        exact J78 () hq H locs ls hP hD hS (lv_sub hl [0, 1] rfl)
      · replace hq := (if_neg c_26).symm.trans hq
        refine lv_aload_n hx hb dX4_balanceOn_29 rfl (lv_at hl 0 rfl) ?_
        refine lv_iconst (v := 2) hx hb dX4_balanceOn_30 (by decide) ?_
        refine lv_dup2_11 hx hb dX4_balanceOn_31 rfl rfl ?_
        refine k_iald (j := 2) cx hP 0 rfl (by decide) (by unfold vp_in; decide) dX4_balanceOn_32 ?_
        refine lv_iload_n hx hb dX4_balanceOn_33 rfl (lv_at hl 1 rfl) ?_
        refine lv_iadd hx hb dX4_balanceOn_34 ?_
        refine k_iast (ws' := [aI G ra 101 (upd pg 2 ((pg 2) + v1))]) (j := 2) cx hP hD hS 0 rfl (by decide) (by unfold vp_in; decide) rfl dX4_balanceOn_35 (fun H locs hP hD hS => ?_)
        refine lv_aload_n hx hb dX4_balanceOn_36 rfl (lv_at hl 0 rfl) ?_
        have hC := c_X4_pairOn l G ra (upd pg 2 ((pg 2) + v1)) ((bal_up hpi hdd c_26).1)
        generalize hu37 : P_X4_pairOn (upd pg 2 ((pg 2) + v1)) = u37 at hC hq
        refine k_i (ws' := [aI G ra 101 u37.2]) (as := [ra]) cx hP hD hS [0] rfl (kr_S (n := 1) (As := [.ref ra]) cx hC gX4_balanceOn_X4_pairOn rfl rfl rfl (by decide +kernel) ⟨Nat.le_of_ble_eq_true rfl, Nat.le_of_ble_eq_true rfl⟩ hP hD [0] rfl rfl rfl rfl hl (Nat.le_of_ble_eq_true rfl) dX4_balanceOn_37 ⟨Nat.le_refl _, Nat.le_refl _⟩) ⟨rfl, rfl⟩ rfl (fun H locs hP hD hS => ?_)
        refine lv_istore_n (lv' := [(3, .int u37.1), (0, .ref ra), (1, .int v1), (2, .int v2)]) hx hb dX4_balanceOn_40 rfl hl (by decide) rfl (fun ls hl => ?_)
        refine lv_aload_n hx hb dX4_balanceOn_41 rfl (lv_at hl 1 rfl) ?_
        refine lv_bipush (v := 11) hx hb dX4_balanceOn_42 (by decide) ?_
        refine k_iald (j := 11) cx hP 0 rfl (by decide) (by unfold vp_in; decide) dX4_balanceOn_44 ?_
        refine lv_iconst (v := 1) hx hb dX4_balanceOn_45 (by decide) ?_
        refine lv_icmp_ne (tgt := 50) hx hb dX4_balanceOn_46 (by decide) (fun c_46 => ?_) (fun c_46 => ?_)
        · replace hq := (if_neg c_46).symm.trans hq
          refine lv_iload_n hx hb dX4_balanceOn_50 rfl (lv_at hl 0 rfl) ?_
          refine lv_if_lt (tgt := 58) hx hb dX4_balanceOn_51 (by decide) (fun c_51 => ?_) (fun c_51 => ?_)
          · replace hq := (if_pos c_51).symm.trans hq
            refine lv_iconst (v := 0) hx hb dX4_balanceOn_58 (by decide) ?_
            refine lv_istore_n (lv' := [(2, .int 0), (3, .int u37.1), (0, .ref ra), (1, .int v1)]) hx hb dX4_balanceOn_59 rfl hl (by decide) rfl (fun ls hl => ?_)
            refine lv_aload_n hx hb dX4_balanceOn_60 rfl (lv_at hl 2 rfl) ?_
            refine lv_iconst (v := 2) hx hb dX4_balanceOn_61 (by decide) ?_
            refine lv_dup2_11 hx hb dX4_balanceOn_62 rfl rfl ?_
            refine k_iald (j := 2) cx hP 0 rfl (by decide) (by unfold vp_in; decide) dX4_balanceOn_63 ?_
            refine lv_iload_n hx hb dX4_balanceOn_64 rfl (lv_at hl 0 rfl) ?_
            refine lv_if_eq (tgt := 72) hx hb dX4_balanceOn_65 (by decide) (fun _ => ?_) (fun cz => absurd (by decide) cz)
            refine lv_iload_n hx hb dX4_balanceOn_72 rfl (lv_at hl 3 rfl) ?_
            refine lv_isub hx hb dX4_balanceOn_73 ?_
            refine k_iast (ws' := [aI G ra 101 (upd u37.2 2 ((u37.2 2) - v1))]) (j := 2) cx hP hD hS 0 rfl (by decide) (by unfold vp_in; decide) rfl dX4_balanceOn_74 (fun H locs hP hD hS => ?_)
            refine lv_goto (tgt := 14) hx hb dX4_balanceOn_75 (by decide) ?_
            exact ih 0 (upd u37.2 2 ((u37.2 2) - v1)) (by first | exact bal_A hpi hdd c_26 hu37 | exact bal_B hpi hdd c_26 hu37) (by first | (have hmd := bal_d0 (q := (upd u37.2 2 ((u37.2 2) - v1))) c_15 hpi; omega) | (have hmd := bal_d1 c_15 hpi hdd hd0 c_26 hu37; omega)) hq H locs hP hD hS _ (lv_sub hl [2, 3, 0] rfl)
          · replace hq := (if_neg c_51).symm.trans hq
            refine lv_iconst (v := 1) hx hb dX4_balanceOn_54 (by decide) ?_
            refine lv_goto (tgt := 59) hx hb dX4_balanceOn_55 (by decide) ?_
            refine lv_istore_n (lv' := [(2, .int 1), (3, .int u37.1), (0, .ref ra), (1, .int v1)]) hx hb dX4_balanceOn_59 rfl hl (by decide) rfl (fun ls hl => ?_)
            refine lv_aload_n hx hb dX4_balanceOn_60 rfl (lv_at hl 2 rfl) ?_
            refine lv_iconst (v := 2) hx hb dX4_balanceOn_61 (by decide) ?_
            refine lv_dup2_11 hx hb dX4_balanceOn_62 rfl rfl ?_
            refine k_iald (j := 2) cx hP 0 rfl (by decide) (by unfold vp_in; decide) dX4_balanceOn_63 ?_
            refine lv_iload_n hx hb dX4_balanceOn_64 rfl (lv_at hl 0 rfl) ?_
            refine lv_if_eq (tgt := 72) hx hb dX4_balanceOn_65 (by decide) (fun cz => absurd cz (by decide)) (fun _ => ?_)
            refine lv_iconst (v := 0) hx hb dX4_balanceOn_68 (by decide) ?_
            refine lv_goto (tgt := 73) hx hb dX4_balanceOn_69 (by decide) ?_
            refine lv_isub hx hb dX4_balanceOn_73 ?_
            refine k_iast (ws' := [aI G ra 101 (upd u37.2 2 ((u37.2 2) - 0))]) (j := 2) cx hP hD hS 0 rfl (by decide) (by unfold vp_in; decide) rfl dX4_balanceOn_74 (fun H locs hP hD hS => ?_)
            refine lv_goto (tgt := 14) hx hb dX4_balanceOn_75 (by decide) ?_
            exact ih 1 (upd u37.2 2 ((u37.2 2) - 0)) (by first | exact bal_A hpi hdd c_26 hu37 | exact bal_B hpi hdd c_26 hu37) (by first | (have hmd := bal_d0 (q := (upd u37.2 2 ((u37.2 2) - 0))) c_15 hpi; omega) | (have hmd := bal_d1 c_15 hpi hdd hd0 c_26 hu37; omega)) hq H locs hP hD hS _ (lv_sub hl [2, 3, 0] rfl)
        · replace hq := (if_pos c_46).symm.trans hq
          subst hq
          exact k_vret cx hP hS dX4_balanceOn_49
def P_X4_balanceOn_8  : Nat → Int32 → (Nat → Int32) → (Nat → Int32)
  | 0, _, _ => (fun _ => 0)
  | n + 1, v1, pg => (if v1 ≤ 0 then pg else (P_X4_balanceOn_14 (fun v1' pg' => P_X4_balanceOn_8  n v1' pg') v1 ((if (1 : Int32) = 0 then 0 else (10000 - (pg 2).toInt).toNat) + 1) 1 pg))
set_option maxHeartbeats 4000000 in
set_option maxRecDepth 100000 in
theorem b_X4_balanceOn_8 {p : Program} {l : Launch} {e : Env} {s : State} {m : MethodId} {args : Array Value} {below : List Frame} {meth : Method} {c : Code} {G : gG} {A : Nat → Prop} (cx : Cx p s m args meth c cX4_balanceOn 4 yX4_balanceOn.cls wsX4_balanceOn none G A) (ra : Nat)    (tgt : (Nat → Int32)) : ∀ (n : Nat) (v1 : Int32) (pg : Nat → Int32) (hpi : PV pg) (hde : DE v1) (hm : (v1 : Int32).toInt.toNat < n) (hq : P_X4_balanceOn_8   n v1 pg = tgt) (H : Heap) (locs : List Loc) (hP : va_P G.1 vwCl [aI G ra 101 pg] H) (hD : va_D A [aI G ra 101 pg]) (hS : va_S A s.heap H locs) (ls : Array Slot) (hl : lv_has ls 4 [(0, .ref ra), (1, .int v1)]), W p l e rm_X4_balanceOn s m args below meth c H locs 0 0 (Q_X4_balanceOn G ra tgt below args s A) (F0 m 8 ls []) := by
  obtain ⟨hx, hb, hml, hown, hts, hr, hlocks, hK, hA⟩ := id cx
  intro n
  induction n with
  | zero => intros; omega
  | succ n ih =>
    intro v1 pg hpi hde hm hq H locs hP hD hS ls hl
    unfold P_X4_balanceOn_8 at hq
    refine lv_iload_n hx hb dX4_balanceOn_8 rfl (lv_at hl 1 rfl) ?_
    refine lv_if_le (tgt := 86) hx hb dX4_balanceOn_9 (by decide) (fun c_9 => ?_) (fun c_9 => ?_)
    · replace hq := (if_pos c_9).symm.trans hq
      subst hq
      exact k_vret cx hP hS dX4_balanceOn_86
    · replace hq := (if_neg c_9).symm.trans hq
      refine lv_iconst (v := 1) hx hb dX4_balanceOn_12 (by decide) ?_
      refine lv_istore_n (lv' := [(2, .int 1), (0, .ref ra), (1, .int v1)]) hx hb dX4_balanceOn_13 rfl hl (by decide) rfl (fun ls hl => ?_)
      exact b_X4_balanceOn_14 cx ra (fun v1' pg' => P_X4_balanceOn_8  n v1' pg') v1 (hde) (c_9) tgt (fun pg' hpi' hde' hq H locs hP hD hS ls hl => ih (v1 / 10) pg' hpi' hde' (by have hmd := mu_10 hde c_9; omega) hq H locs hP hD hS ls hl) ((if (1 : Int32) = 0 then 0 else (10000 - (pg 2).toInt).toNat) + 1) 1 pg (hpi) (Nat.lt_succ_self _) hq H locs hP hD hS _ (lv_sub hl [1, 2, 0] rfl)
def P_X4_balanceOn (pg : Nat → Int32) : (Nat → Int32) := (P_X4_balanceOn_8  ((1000 : Int32).toInt.toNat + 1) 1000 (upd pg 2 0))
set_option maxHeartbeats 4000000 in
set_option maxRecDepth 100000 in
theorem c_X4_balanceOn (l : Launch) (G : gG) (ra : Nat) (pg : Nat → Int32) (hpv : PV pg) : kM l G yX4_balanceOn wsX4_balanceOn rm_X4_balanceOn [.ref ra] [aI G ra 101 pg] (qV G [aI G ra 101 (P_X4_balanceOn pg)]) := by
  refine k_body (cc := cX4_balanceOn) (nL := 4) (ret := none) (by decide) rfl (Nat.le_of_ble_eq_true rfl) ?_
  intro p e s m args below meth c A cx hP hD hS ls hl
  obtain ⟨hx, hb, hml, hown, hts, hr, hlocks, hK, hA⟩ := id cx
  obtain ⟨H, hH⟩ : ∃ H, H = s.heap := ⟨_, rfl⟩
  obtain ⟨locs, hL⟩ : ∃ locs : List Loc, locs = [] := ⟨_, rfl⟩
  obtain ⟨tgt, hq⟩ : ∃ tgt, (P_X4_balanceOn pg) = tgt := ⟨_, rfl⟩
  have hS : va_S A s.heap H locs := by rw [hH, hL]; exact hS
  rw [← hH] at hP
  have hl : lv_has ls 4 [(0, .ref ra)] := hl
  have key : ∀ (H : Heap) (locs : List Loc), va_P G.1 vwCl [aI G ra 101 pg] H → va_D A [aI G ra 101 pg] → va_S A s.heap H locs → W p l e rm_X4_balanceOn s m args below meth c H locs 0 0 (Q_X4_balanceOn G ra tgt below args s A) (F0 m 0 ls []) := by
    clear hP hD hS hH hL
    intro H locs hP hD hS
    unfold P_X4_balanceOn at hq
    refine lv_aload_n hx hb dX4_balanceOn_0 rfl (lv_at hl 0 rfl) ?_
    refine lv_iconst (v := 2) hx hb dX4_balanceOn_1 (by decide) ?_
    refine lv_iconst (v := 0) hx hb dX4_balanceOn_2 (by decide) ?_
    refine k_iast (ws' := [aI G ra 101 (upd pg 2 0)]) (j := 2) cx hP hD hS 0 rfl (by decide) (by unfold vp_in; decide) rfl dX4_balanceOn_3 (fun H locs hP hD hS => ?_)
    refine lv_sipush (v := 1000) hx hb dX4_balanceOn_4 (by decide) ?_
    refine lv_istore_n (lv' := [(1, .int 1000), (0, .ref ra)]) hx hb dX4_balanceOn_7 rfl hl (by decide) rfl (fun ls hl => ?_)
    exact b_X4_balanceOn_8 cx ra   tgt ((1000 : Int32).toInt.toNat + 1) 1000 (upd pg 2 0) (pv_up2 hpv ⟨by decide, by decide⟩) (⟨by decide, by decide⟩) (Nat.lt_succ_self _) hq H locs hP hD hS _ (lv_sub hl [1, 0] rfl)
  subst hL
  subst hH
  subst hq
  exact key _ _ hP hD hS

/-! X4_balance -/
theorem hi_X4_balance_4 : ∀ w ∈ u_ws RX4 TX4 11, w ∈ wsX4_balance := by decide +kernel
abbrev rm_X4_balance : Room := { frames := 7, cells := 0, slots := 0, locals := 157 }
abbrev Q_X4_balance (G : gG) (m0 : Nat) (te : Nat) (re : Nat) (no : Nat) (tr : Nat) (di : Nat) (ke : Nat) (ik : Nat)   (tgt : Int32 × (Nat → Int32) × (Nat → Int32) × (Nat → Int32)) (below : List Frame) (args : Array Value) (s : State) (A : Nat → Prop) : State → Prop := MQ below (qI G tgt.1 [oMo m0 te re no tr di ke ik tgt.2.1, aI G no 101 tgt.2.2.1, aI G di 1414 tgt.2.2.2] A) args s 0 0 A
def P_X4_balance (mf : Nat → Int32) (pn : Nat → Int32) (dd : Nat → Int32) : Int32 × (Nat → Int32) × (Nat → Int32) × (Nat → Int32) := (let u8 := P_X4_refused mf (pn 11); (if u8.1 = 0 then (let u17 := P_X4_note u8.2 pn dd; let u24 := P_X4_balanceOn pn; ((u24 2), u17.1, u24, u17.2)) else (0, u8.2, pn, dd)))
set_option maxHeartbeats 4000000 in
set_option maxRecDepth 100000 in
theorem c_X4_balance (l : Launch) (G : gG) (m0 : Nat) (te : Nat) (re : Nat) (no : Nat) (tr : Nat) (di : Nat) (ke : Nat) (ik : Nat) (mf : Nat → Int32) (pn : Nat → Int32) (dd : Nat → Int32) (hpv : PV pn) (hac : AB (mf 8)) : kM l G yX4_balance wsX4_balance rm_X4_balance [.ref m0] [oMo m0 te re no tr di ke ik mf, aI G no 101 pn, aI G di 1414 dd] (qI G ((P_X4_balance mf pn dd).1) [oMo m0 te re no tr di ke ik ((P_X4_balance mf pn dd).2.1), aI G no 101 ((P_X4_balance mf pn dd).2.2.1), aI G di 1414 ((P_X4_balance mf pn dd).2.2.2)]) := by
  refine k_body (cc := cX4_balance) (nL := 1) (ret := (some .int)) (by decide) rfl (Nat.le_of_ble_eq_true rfl) ?_
  intro p e s m args below meth c A cx hP hD hS ls hl
  obtain ⟨hx, hb, hml, hown, hts, hr, hlocks, hK, hA⟩ := id cx
  obtain ⟨H, hH⟩ : ∃ H, H = s.heap := ⟨_, rfl⟩
  obtain ⟨locs, hL⟩ : ∃ locs : List Loc, locs = [] := ⟨_, rfl⟩
  obtain ⟨tgt, hq⟩ : ∃ tgt, (P_X4_balance mf pn dd) = tgt := ⟨_, rfl⟩
  have hS : va_S A s.heap H locs := by rw [hH, hL]; exact hS
  rw [← hH] at hP
  have hl : lv_has ls 1 [(0, .ref m0)] := hl
  have key : ∀ (H : Heap) (locs : List Loc), va_P G.1 vwCl [oMo m0 te re no tr di ke ik mf, aI G no 101 pn, aI G di 1414 dd] H → va_D A [oMo m0 te re no tr di ke ik mf, aI G no 101 pn, aI G di 1414 dd] → va_S A s.heap H locs → W p l e rm_X4_balance s m args below meth c H locs 0 0 (Q_X4_balance G m0 te re no tr di ke ik tgt below args s A) (F0 m 0 ls []) := by
    clear hP hD hS hH hL
    intro H locs hP hD hS
    unfold P_X4_balance at hq
    refine lv_aload_n hx hb dX4_balance_0 rfl (lv_at hl 0 rfl) ?_
    refine lv_aload_n hx hb dX4_balance_1 rfl (lv_at hl 0 rfl) ?_
    refine k_get (v := .ref no) (T := TX4) (C := RX4) (N := 11) cx hi_X4_balance_4 hP 0 rfl rfl 5 (by decide) (by decide +kernel) rfl dX4_balance_2 ?_
    refine lv_bipush (v := 11) hx hb dX4_balance_5 (by decide) ?_
    refine k_iald (j := 11) cx hP 1 rfl (by decide) (by unfold vp_in; decide) dX4_balance_7 ?_
    have hC := c_X4_refused l G m0 te re no tr di ke ik mf (pn 11)
    generalize hu8 : P_X4_refused mf (pn 11) = u8 at hC hq
    refine k_i (ws' := [oMo m0 te re no tr di ke ik u8.2, aI G no 101 pn, aI G di 1414 dd]) (as := [m0]) cx hP hD hS [0] rfl (kr_V (n := 1) (As := [.int (pn 11)]) (ci := 4) cx hC gX4_balance_X4_refused rfl rfl rfl (by decide +kernel) ⟨Nat.le_of_ble_eq_true rfl, Nat.le_of_ble_eq_true rfl⟩ rfl rfl rfl hP hD [0] rfl rfl rfl rfl hl (Nat.le_of_ble_eq_true rfl) dX4_balance_8 ⟨Nat.le_refl _, Nat.le_refl _⟩) ⟨rfl, rfl⟩ rfl (fun H locs hP hD hS => ?_)
    refine lv_if_eq (tgt := 16) hx hb dX4_balance_11 (by decide) (fun c_11 => ?_) (fun c_11 => ?_)
    · replace hq := (if_pos c_11).symm.trans hq
      refine lv_aload_n hx hb dX4_balance_16 rfl (lv_at hl 0 rfl) ?_
      have hC := c_X4_note l G m0 te re no tr di ke ik u8.2 pn dd (ref_ab hu8 hac)
      generalize hu17 : P_X4_note u8.2 pn dd = u17 at hC hq
      refine k_v (ws' := [oMo m0 te re no tr di ke ik u17.1, aI G no 101 pn, aI G di 1414 u17.2]) (as := [m0, no, di]) cx hP hD hS [0, 1, 2] rfl (kr_V (n := 0) (As := []) (ci := 4) cx hC gX4_balance_X4_note rfl rfl rfl (by decide +kernel) ⟨Nat.le_of_ble_eq_true rfl, Nat.le_of_ble_eq_true rfl⟩ rfl rfl rfl hP hD [0, 1, 2] rfl rfl rfl rfl hl (Nat.le_of_ble_eq_true rfl) dX4_balance_17 ⟨Nat.le_refl _, Nat.le_refl _⟩) ⟨rfl, rfl⟩ rfl (fun H locs hP hD hS => ?_)
      refine lv_aload_n hx hb dX4_balance_20 rfl (lv_at hl 0 rfl) ?_
      refine k_get (v := .ref no) (T := TX4) (C := RX4) (N := 11) cx hi_X4_balance_4 hP 0 rfl rfl 5 (by decide) (by decide +kernel) rfl dX4_balance_21 ?_
      have hC := c_X4_balanceOn l G no pn (hpv)
      replace hq := k_let hq
      generalize hu24 : P_X4_balanceOn pn = u24 at hC hq
      refine k_v (ws' := [oMo m0 te re no tr di ke ik u17.1, aI G no 101 u24, aI G di 1414 u17.2]) (as := [no]) cx hP hD hS [1] rfl (kr_S (n := 1) (As := [.ref no]) cx hC gX4_balance_X4_balanceOn rfl rfl rfl (by decide +kernel) ⟨Nat.le_of_ble_eq_true rfl, Nat.le_of_ble_eq_true rfl⟩ hP hD [1] rfl rfl rfl rfl hl (Nat.le_of_ble_eq_true rfl) dX4_balance_24 ⟨Nat.le_refl _, Nat.le_refl _⟩) ⟨rfl, rfl⟩ rfl (fun H locs hP hD hS => ?_)
      refine lv_aload_n hx hb dX4_balance_27 rfl (lv_at hl 0 rfl) ?_
      refine k_get (v := .ref no) (T := TX4) (C := RX4) (N := 11) cx hi_X4_balance_4 hP 0 rfl rfl 5 (by decide) (by decide +kernel) rfl dX4_balance_28 ?_
      refine lv_iconst (v := 2) hx hb dX4_balance_31 (by decide) ?_
      refine k_iald (j := 2) cx hP 1 rfl (by decide) (by unfold vp_in; decide) dX4_balance_32 ?_
      subst hq
      exact k_iret cx hP hS dX4_balance_33
    · replace hq := (if_neg c_11).symm.trans hq
      refine lv_iconst (v := 0) hx hb dX4_balance_14 (by decide) ?_
      subst hq
      exact k_iret cx hP hS dX4_balance_15
  subst hL
  subst hH
  subst hq
  exact key _ _ hP hD hS

/-! X4_bestR -/
theorem hi_X4_bestR_4 : ∀ w ∈ u_ws RX4 TX4 11, w ∈ wsX4_bestR := by decide +kernel
abbrev rm_X4_bestR : Room := { frames := 2, cells := 0, slots := 0, locals := 46 }
abbrev Q_X4_bestR (G : gG) (m0 : Nat) (te : Nat) (re : Nat) (no : Nat) (tr : Nat) (di : Nat) (ke : Nat) (ik : Nat)  (pn : Nat → Int32) (tgt : Int32 × (Nat → Int32)) (below : List Frame) (args : Array Value) (s : State) (A : Nat → Prop) : State → Prop := MQ below (qI G tgt.1 [oMo m0 te re no tr di ke ik tgt.2, aI G no 101 pn] A) args s 0 0 A
def P_X4_bestR_29 (pn : Nat → Int32) (i : Int32) : Nat → Int32 → Int32 → (Nat → Int32) → Int32 × (Nat → Int32)
  | 0, _, _, _ => (0, (fun _ => 0))
  | n + 1, v2, v3, mf => (if 9999 < v3 then (v2, mf) else (let j84 := fun (j84_s0 : Int32) => (P_X4_bestR_29 pn i n j84_s0 (v3 + 1) mf); (if (P_X4_size (P_X4_missing pn (pn (15 + i).toNatClampNeg) v2)) ≤ (P_X4_size (P_X4_missing pn (pn (15 + i).toNatClampNeg) v3)) then (j84 v2) else (j84 v3))))
set_option maxHeartbeats 4000000 in
set_option maxRecDepth 100000 in
theorem b_X4_bestR_29 {p : Program} {l : Launch} {e : Env} {s : State} {m : MethodId} {args : Array Value} {below : List Frame} {meth : Method} {c : Code} {G : gG} {A : Nat → Prop} (cx : Cx p s m args meth c cX4_bestR 4 yX4_bestR.cls wsX4_bestR (some .int) G A) (m0 : Nat) (te : Nat) (re : Nat) (no : Nat) (tr : Nat) (di : Nat) (ke : Nat) (ik : Nat) (pn : Nat → Int32) (i : Int32) (hpv : PV pn) (hi : ¬ P_X4_isUnknown pn i = 0) (tgt : Int32 × (Nat → Int32)) : ∀ (n : Nat) (v2 : Int32) (v3 : Int32) (mf : Nat → Int32)  (hm : (10000 - (v3 : Int32).toInt).toNat < n) (hq : P_X4_bestR_29  pn i n v2 v3 mf = tgt) (H : Heap) (locs : List Loc) (hP : va_P G.1 vwCl [oMo m0 te re no tr di ke ik mf, aI G no 101 pn] H) (hD : va_D A [oMo m0 te re no tr di ke ik mf, aI G no 101 pn]) (hS : va_S A s.heap H locs) (ls : Array Slot) (hl : lv_has ls 4 [(0, .ref m0), (1, .int i), (2, .int v2), (3, .int v3)]), W p l e rm_X4_bestR s m args below meth c H locs 0 0 (Q_X4_bestR G m0 te re no tr di ke ik pn tgt below args s A) (F0 m 29 ls []) := by
  obtain ⟨hx, hb, hml, hown, hts, hr, hlocks, hK, hA⟩ := id cx
  intro n
  induction n with
  | zero => intros; omega
  | succ n ih =>
    intro v2 v3 mf  hm hq H locs hP hD hS ls hl
    unfold P_X4_bestR_29 at hq
    refine lv_iload_n hx hb dX4_bestR_29 rfl (lv_at hl 3 rfl) ?_
    refine lv_sipush (v := 9999) hx hb dX4_bestR_30 (by decide) ?_
    refine lv_icmp_gt (tgt := 91) hx hb dX4_bestR_33 (by decide) (fun c_33 => ?_) (fun c_33 => ?_)
    · replace hq := (if_pos c_33).symm.trans hq
      refine lv_iload_n hx hb dX4_bestR_91 rfl (lv_at hl 2 rfl) ?_
      subst hq
      exact k_iret cx hP hS dX4_bestR_92
    · replace hq := (if_neg c_33).symm.trans hq
      refine lv_aload_n hx hb dX4_bestR_36 rfl (lv_at hl 0 rfl) ?_
      refine k_get (v := .ref no) (T := TX4) (C := RX4) (N := 11) cx hi_X4_bestR_4 hP 0 rfl rfl 5 (by decide) (by decide +kernel) rfl dX4_bestR_37 ?_
      refine lv_aload_n hx hb dX4_bestR_40 rfl (lv_at hl 0 rfl) ?_
      refine k_get (v := .ref no) (T := TX4) (C := RX4) (N := 11) cx hi_X4_bestR_4 hP 0 rfl rfl 5 (by decide) (by decide +kernel) rfl dX4_bestR_41 ?_
      refine lv_bipush (v := 15) hx hb dX4_bestR_44 (by decide) ?_
      refine lv_iload_n hx hb dX4_bestR_46 rfl (lv_at hl 1 rfl) ?_
      refine lv_iadd hx hb dX4_bestR_47 ?_
      refine k_iald (j := (15 + i).toNatClampNeg) cx hP 1 rfl rfl (ix_u hpv hi) dX4_bestR_48 ?_
      refine lv_iload_n hx hb dX4_bestR_49 rfl (lv_at hl 3 rfl) ?_
      have hC := c_X4_missing l G no pn (pn (15 + i).toNatClampNeg) v3
      refine k_i (ws' := [oMo m0 te re no tr di ke ik mf, aI G no 101 pn]) (as := [no]) cx hP hD hS [1] rfl (kr_S (n := 3) (As := [.ref no, .int (pn (15 + i).toNatClampNeg), .int v3]) cx hC gX4_bestR_X4_missing rfl rfl rfl (by decide +kernel) ⟨Nat.le_of_ble_eq_true rfl, Nat.le_of_ble_eq_true rfl⟩ hP hD [1] rfl rfl rfl rfl hl (Nat.le_of_ble_eq_true rfl) dX4_bestR_50 ⟨Nat.le_refl _, Nat.le_refl _⟩) ⟨rfl, rfl⟩ rfl (fun H locs hP hD hS => ?_)
      have hC := c_X4_size l G (P_X4_missing pn (pn (15 + i).toNatClampNeg) v3)
      refine k_i (ws' := [oMo m0 te re no tr di ke ik mf, aI G no 101 pn]) (as := []) cx hP hD hS [] rfl (kr_S (n := 1) (As := [.int (P_X4_missing pn (pn (15 + i).toNatClampNeg) v3)]) cx hC gX4_bestR_X4_size rfl rfl rfl (by decide +kernel) ⟨Nat.le_of_ble_eq_true rfl, Nat.le_of_ble_eq_true rfl⟩ hP hD [] rfl rfl rfl rfl hl (Nat.le_of_ble_eq_true rfl) dX4_bestR_53 ⟨Nat.le_refl _, Nat.le_refl _⟩) ⟨rfl, rfl⟩ rfl (fun H locs hP hD hS => ?_)
      refine lv_aload_n hx hb dX4_bestR_56 rfl (lv_at hl 0 rfl) ?_
      refine k_get (v := .ref no) (T := TX4) (C := RX4) (N := 11) cx hi_X4_bestR_4 hP 0 rfl rfl 5 (by decide) (by decide +kernel) rfl dX4_bestR_57 ?_
      refine lv_aload_n hx hb dX4_bestR_60 rfl (lv_at hl 0 rfl) ?_
      refine k_get (v := .ref no) (T := TX4) (C := RX4) (N := 11) cx hi_X4_bestR_4 hP 0 rfl rfl 5 (by decide) (by decide +kernel) rfl dX4_bestR_61 ?_
      refine lv_bipush (v := 15) hx hb dX4_bestR_64 (by decide) ?_
      refine lv_iload_n hx hb dX4_bestR_66 rfl (lv_at hl 1 rfl) ?_
      refine lv_iadd hx hb dX4_bestR_67 ?_
      refine k_iald (j := (15 + i).toNatClampNeg) cx hP 1 rfl rfl (ix_u hpv hi) dX4_bestR_68 ?_
      refine lv_iload_n hx hb dX4_bestR_69 rfl (lv_at hl 2 rfl) ?_
      have hC := c_X4_missing l G no pn (pn (15 + i).toNatClampNeg) v2
      refine k_i (ws' := [oMo m0 te re no tr di ke ik mf, aI G no 101 pn]) (as := [no]) cx hP hD hS [1] rfl (kr_S (n := 3) (As := [.ref no, .int (pn (15 + i).toNatClampNeg), .int v2]) cx hC gX4_bestR_X4_missing rfl rfl rfl (by decide +kernel) ⟨Nat.le_of_ble_eq_true rfl, Nat.le_of_ble_eq_true rfl⟩ hP hD [1] rfl rfl rfl rfl hl (Nat.le_of_ble_eq_true rfl) dX4_bestR_70 ⟨Nat.le_refl _, Nat.le_refl _⟩) ⟨rfl, rfl⟩ rfl (fun H locs hP hD hS => ?_)
      have hC := c_X4_size l G (P_X4_missing pn (pn (15 + i).toNatClampNeg) v2)
      refine k_i (ws' := [oMo m0 te re no tr di ke ik mf, aI G no 101 pn]) (as := []) cx hP hD hS [] rfl (kr_S (n := 1) (As := [.int (P_X4_missing pn (pn (15 + i).toNatClampNeg) v2)]) cx hC gX4_bestR_X4_size rfl rfl rfl (by decide +kernel) ⟨Nat.le_of_ble_eq_true rfl, Nat.le_of_ble_eq_true rfl⟩ hP hD [] rfl rfl rfl rfl hl (Nat.le_of_ble_eq_true rfl) dX4_bestR_73 ⟨Nat.le_refl _, Nat.le_refl _⟩) ⟨rfl, rfl⟩ rfl (fun H locs hP hD hS => ?_)
      have J84 : ∀ (j84_s0 : Int32), (P_X4_bestR_29 pn i n j84_s0 (v3 + 1) mf) = tgt → ∀ (H : Heap) (locs : List Loc) (ls : Array Slot), va_P G.1 vwCl [oMo m0 te re no tr di ke ik mf, aI G no 101 pn] H → va_D A [oMo m0 te re no tr di ke ik mf, aI G no 101 pn] → va_S A s.heap H locs → lv_has ls 4 [(0, .ref m0), (1, .int i), (3, .int v3)] → W p l e rm_X4_bestR s m args below meth c H locs 0 0 (Q_X4_bestR G m0 te re no tr di ke ik pn tgt below args s A) (F0 m 84 ls [.int j84_s0]) := by
        intro j84_s0 hq H locs ls hP hD hS hl
        refine lv_istore_n (lv' := [(2, .int j84_s0), (0, .ref m0), (1, .int i), (3, .int v3)]) hx hb dX4_bestR_84 rfl hl (by decide) rfl (fun ls hl => ?_)
        refine lv_iinc (v := (v3 + 1)) (lv' := [(3, .int (v3 + 1)), (2, .int j84_s0), (0, .ref m0), (1, .int i)]) hx hb dX4_bestR_85 hl (k := 3) rfl rfl (by decide) rfl (fun ls hl => ?_)
        refine lv_goto (tgt := 29) hx hb dX4_bestR_88 (by decide) ?_
        exact ih j84_s0 (v3 + 1) mf  (by have hmd := mu_le (by assumption); omega) hq H locs hP hD hS _ (lv_sub hl [2, 3, 1, 0] rfl)
      refine lv_icmp_ge (tgt := 83) hx hb dX4_bestR_76 (by decide) (fun c_76 => ?_) (fun c_76 => ?_)
      · replace hq := (if_pos c_76).symm.trans hq
        refine lv_iload_n hx hb dX4_bestR_83 rfl (lv_at hl 2 rfl) ?_
        exact J84 v2 hq H locs ls hP hD hS (lv_sub hl [0, 1, 3] rfl)
      · replace hq := (if_neg c_76).symm.trans hq
        refine lv_iload_n hx hb dX4_bestR_79 rfl (lv_at hl 3 rfl) ?_
        refine lv_goto (tgt := 84) hx hb dX4_bestR_80 (by decide) ?_
        exact J84 v3 hq H locs ls hP hD hS (lv_sub hl [0, 1, 3] rfl)
def P_X4_bestR (mf : Nat → Int32) (pn : Nat → Int32) (i : Int32) : Int32 × (Nat → Int32) := (if (P_X4_isUnknown pn i) = 0 then (0, (upd mf 0 1)) else (P_X4_bestR_29 pn i ((10000 - (1 : Int32).toInt).toNat + 1) 0 1 (upd mf 0 0)))
set_option maxHeartbeats 4000000 in
set_option maxRecDepth 100000 in
theorem c_X4_bestR (l : Launch) (G : gG) (m0 : Nat) (te : Nat) (re : Nat) (no : Nat) (tr : Nat) (di : Nat) (ke : Nat) (ik : Nat) (mf : Nat → Int32) (pn : Nat → Int32) (i : Int32) (hpv : PV pn) : kM l G yX4_bestR wsX4_bestR rm_X4_bestR [.ref m0, .int i] [oMo m0 te re no tr di ke ik mf, aI G no 101 pn] (qI G ((P_X4_bestR mf pn i).1) [oMo m0 te re no tr di ke ik ((P_X4_bestR mf pn i).2), aI G no 101 pn]) := by
  refine k_body (cc := cX4_bestR) (nL := 4) (ret := (some .int)) (by decide) rfl (Nat.le_of_ble_eq_true rfl) ?_
  intro p e s m args below meth c A cx hP hD hS ls hl
  obtain ⟨hx, hb, hml, hown, hts, hr, hlocks, hK, hA⟩ := id cx
  obtain ⟨H, hH⟩ : ∃ H, H = s.heap := ⟨_, rfl⟩
  obtain ⟨locs, hL⟩ : ∃ locs : List Loc, locs = [] := ⟨_, rfl⟩
  obtain ⟨tgt, hq⟩ : ∃ tgt, (P_X4_bestR mf pn i) = tgt := ⟨_, rfl⟩
  have hS : va_S A s.heap H locs := by rw [hH, hL]; exact hS
  rw [← hH] at hP
  have hl : lv_has ls 4 [(0, .ref m0), (1, .int i)] := hl
  have key : ∀ (H : Heap) (locs : List Loc), va_P G.1 vwCl [oMo m0 te re no tr di ke ik mf, aI G no 101 pn] H → va_D A [oMo m0 te re no tr di ke ik mf, aI G no 101 pn] → va_S A s.heap H locs → W p l e rm_X4_bestR s m args below meth c H locs 0 0 (Q_X4_bestR G m0 te re no tr di ke ik pn tgt below args s A) (F0 m 0 ls []) := by
    clear hP hD hS hH hL
    intro H locs hP hD hS
    unfold P_X4_bestR at hq
    refine lv_aload_n hx hb dX4_bestR_0 rfl (lv_at hl 0 rfl) ?_
    refine lv_aload_n hx hb dX4_bestR_1 rfl (lv_at hl 0 rfl) ?_
    refine k_get (v := .ref no) (T := TX4) (C := RX4) (N := 11) cx hi_X4_bestR_4 hP 0 rfl rfl 5 (by decide) (by decide +kernel) rfl dX4_bestR_2 ?_
    refine lv_iload_n hx hb dX4_bestR_5 rfl (lv_at hl 1 rfl) ?_
    have hC := c_X4_isUnknown l G no pn i
    refine k_i (ws' := [oMo m0 te re no tr di ke ik mf, aI G no 101 pn]) (as := [no]) cx hP hD hS [1] rfl (kr_S (n := 2) (As := [.ref no, .int i]) cx hC gX4_bestR_X4_isUnknown rfl rfl rfl (by decide +kernel) ⟨Nat.le_of_ble_eq_true rfl, Nat.le_of_ble_eq_true rfl⟩ hP hD [1] rfl rfl rfl rfl hl (Nat.le_of_ble_eq_true rfl) dX4_bestR_6 ⟨Nat.le_refl _, Nat.le_refl _⟩) ⟨rfl, rfl⟩ rfl (fun H locs hP hD hS => ?_)
    refine lv_if_eq (tgt := 16) hx hb dX4_bestR_9 (by decide) (fun c_9 => ?_) (fun c_9 => ?_)
    · replace hq := (if_pos c_9).symm.trans hq
      refine lv_iconst (v := 1) hx hb dX4_bestR_16 (by decide) ?_
      have hC := c_X4_refused l G m0 te re no tr di ke ik mf 1
      rw [ref_1] at hC
      refine k_i (r := 1) (ws' := [oMo m0 te re no tr di ke ik (upd mf 0 1), aI G no 101 pn]) (as := [m0]) cx hP hD hS [0] rfl (kr_V (n := 1) (As := [.int 1]) (ci := 4) cx hC gX4_bestR_X4_refused rfl rfl rfl (by decide +kernel) ⟨Nat.le_of_ble_eq_true rfl, Nat.le_of_ble_eq_true rfl⟩ rfl rfl rfl hP hD [0] rfl rfl rfl rfl hl (Nat.le_of_ble_eq_true rfl) dX4_bestR_17 ⟨Nat.le_refl _, Nat.le_refl _⟩) ⟨rfl, rfl⟩ rfl (fun H locs hP hD hS => ?_)
      refine lv_if_eq (tgt := 25) hx hb dX4_bestR_20 (by decide) (fun cz => absurd cz (by decide)) (fun _ => ?_)
      refine lv_iconst (v := 0) hx hb dX4_bestR_23 (by decide) ?_
      subst hq
      exact k_iret cx hP hS dX4_bestR_24
    · replace hq := (if_neg c_9).symm.trans hq
      refine lv_iconst (v := 0) hx hb dX4_bestR_12 (by decide) ?_
      refine lv_goto (tgt := 17) hx hb dX4_bestR_13 (by decide) ?_
      have hC := c_X4_refused l G m0 te re no tr di ke ik mf 0
      rw [ref_0] at hC
      refine k_i (r := 0) (ws' := [oMo m0 te re no tr di ke ik (upd mf 0 0), aI G no 101 pn]) (as := [m0]) cx hP hD hS [0] rfl (kr_V (n := 1) (As := [.int 0]) (ci := 4) cx hC gX4_bestR_X4_refused rfl rfl rfl (by decide +kernel) ⟨Nat.le_of_ble_eq_true rfl, Nat.le_of_ble_eq_true rfl⟩ rfl rfl rfl hP hD [0] rfl rfl rfl rfl hl (Nat.le_of_ble_eq_true rfl) dX4_bestR_17 ⟨Nat.le_refl _, Nat.le_refl _⟩) ⟨rfl, rfl⟩ rfl (fun H locs hP hD hS => ?_)
      refine lv_if_eq (tgt := 25) hx hb dX4_bestR_20 (by decide) (fun _ => ?_) (fun cz => absurd (by decide) cz)
      refine lv_iconst (v := 0) hx hb dX4_bestR_25 (by decide) ?_
      refine lv_istore_n (lv' := [(2, .int 0), (0, .ref m0), (1, .int i)]) hx hb dX4_bestR_26 rfl hl (by decide) rfl (fun ls hl => ?_)
      refine lv_iconst (v := 1) hx hb dX4_bestR_27 (by decide) ?_
      refine lv_istore_n (lv' := [(3, .int 1), (2, .int 0), (0, .ref m0), (1, .int i)]) hx hb dX4_bestR_28 rfl hl (by decide) rfl (fun ls hl => ?_)
      exact b_X4_bestR_29 cx m0 te re no tr di ke ik pn i hpv (c_9) tgt ((10000 - (1 : Int32).toInt).toNat + 1) 0 1 (upd mf 0 0)  (Nat.lt_succ_self _) hq H locs hP hD hS _ (lv_sub hl [2, 3, 1, 0] rfl)
  subst hL
  subst hH
  subst hq
  exact key _ _ hP hD hS

/-! X4_bestArms -/
theorem hi_X4_bestArms_4 : ∀ w ∈ u_ws RX4 TX4 11, w ∈ wsX4_bestArms := by decide +kernel
abbrev rm_X4_bestArms : Room := { frames := 2, cells := 0, slots := 0, locals := 46 }
abbrev Q_X4_bestArms (G : gG) (m0 : Nat) (te : Nat) (re : Nat) (no : Nat) (tr : Nat) (di : Nat) (ke : Nat) (ik : Nat)  (pn : Nat → Int32) (tgt : Int32 × (Nat → Int32)) (below : List Frame) (args : Array Value) (s : State) (A : Nat → Prop) : State → Prop := MQ below (qI G tgt.1 [oMo m0 te re no tr di ke ik tgt.2, aI G no 101 pn] A) args s 0 0 A
def P_X4_bestArms_35 (pn : Nat → Int32) (i : Int32) : Nat → Int32 → Int32 → Int32 → (Nat → Int32) → Int32 × (Nat → Int32)
  | 0, _, _, _, _ => (0, (fun _ => 0))
  | n + 1, v2, v3, v4, mf => (if 16 ≤ v4 then (v2, mf) else (let j86 := fun (j86_s0 : Int32) => (let j117 := fun (j117_2 : Int32) (j117_3 : Int32) => (P_X4_bestArms_35 pn i n j117_2 j117_3 (v4 + 1) mf); (if j86_s0 = 0 then (j117 v2 v3) else (if ((v4 - v4 / 4 * 4) - (v4 / 4)) ≤ v3 then (j117 v2 v3) else (j117 ((10 * (v4 / 4)) + (v4 - v4 / 4 * 4)) ((v4 - v4 / 4 * 4) - (v4 / 4)))))); (if (9999 * (P_X4_ten (v4 / 4))) < ((pn (15 + i).toNatClampNeg) * (P_X4_ten (v4 - v4 / 4 * 4))) then (j86 0) else (j86 1))))
set_option maxHeartbeats 4000000 in
set_option maxRecDepth 100000 in
theorem b_X4_bestArms_35 {p : Program} {l : Launch} {e : Env} {s : State} {m : MethodId} {args : Array Value} {below : List Frame} {meth : Method} {c : Code} {G : gG} {A : Nat → Prop} (cx : Cx p s m args meth c cX4_bestArms 8 yX4_bestArms.cls wsX4_bestArms (some .int) G A) (m0 : Nat) (te : Nat) (re : Nat) (no : Nat) (tr : Nat) (di : Nat) (ke : Nat) (ik : Nat) (pn : Nat → Int32) (i : Int32) (hpv : PV pn) (hi : ¬ P_X4_isUnknown pn i = 0) (tgt : Int32 × (Nat → Int32)) : ∀ (n : Nat) (v2 : Int32) (v3 : Int32) (v4 : Int32) (mf : Nat → Int32) (h0 : ¬ v4 < 0) (hm : (((16 : Int32)).toInt - (v4 : Int32).toInt).toNat < n) (hq : P_X4_bestArms_35  pn i n v2 v3 v4 mf = tgt) (H : Heap) (locs : List Loc) (hP : va_P G.1 vwCl [oMo m0 te re no tr di ke ik mf, aI G no 101 pn] H) (hD : va_D A [oMo m0 te re no tr di ke ik mf, aI G no 101 pn]) (hS : va_S A s.heap H locs) (ls : Array Slot) (hl : lv_has ls 8 [(0, .ref m0), (1, .int i), (2, .int v2), (3, .int v3), (4, .int v4)]), W p l e rm_X4_bestArms s m args below meth c H locs 0 0 (Q_X4_bestArms G m0 te re no tr di ke ik pn tgt below args s A) (F0 m 35 ls []) := by
  obtain ⟨hx, hb, hml, hown, hts, hr, hlocks, hK, hA⟩ := id cx
  intro n
  induction n with
  | zero => intros; omega
  | succ n ih =>
    intro v2 v3 v4 mf h0 hm hq H locs hP hD hS ls hl
    unfold P_X4_bestArms_35 at hq
    refine lv_iload hx hb dX4_bestArms_35 (lv_at hl 4 rfl) ?_
    refine lv_bipush (v := 16) hx hb dX4_bestArms_37 (by decide) ?_
    refine lv_icmp_ge (tgt := 123) hx hb dX4_bestArms_39 (by decide) (fun c_39 => ?_) (fun c_39 => ?_)
    · replace hq := (if_pos c_39).symm.trans hq
      refine lv_iload_n hx hb dX4_bestArms_123 rfl (lv_at hl 2 rfl) ?_
      subst hq
      exact k_iret cx hP hS dX4_bestArms_124
    · replace hq := (if_neg c_39).symm.trans hq
      refine lv_iload hx hb dX4_bestArms_42 (lv_at hl 4 rfl) ?_
      refine lv_iconst (v := 4) hx hb dX4_bestArms_44 (by decide) ?_
      refine lv_idiv hx hb dX4_bestArms_45 (by decide) ?_
      refine lv_istore (lv' := [(5, .int (v4 / 4)), (0, .ref m0), (1, .int i), (2, .int v2), (3, .int v3), (4, .int v4)]) hx hb dX4_bestArms_46 hl (by decide) rfl (fun ls hl => ?_)
      refine lv_iload hx hb dX4_bestArms_48 (lv_at hl 5 rfl) ?_
      refine lv_iconst (v := 4) hx hb dX4_bestArms_50 (by decide) ?_
      refine lv_irem hx hb dX4_bestArms_51 (by decide) ?_
      refine lv_istore (lv' := [(6, .int (v4 - v4 / 4 * 4)), (5, .int (v4 / 4)), (0, .ref m0), (1, .int i), (2, .int v2), (3, .int v3), (4, .int v4)]) hx hb dX4_bestArms_52 hl (by decide) rfl (fun ls hl => ?_)
      refine lv_aload_n hx hb dX4_bestArms_54 rfl (lv_at hl 2 rfl) ?_
      refine k_get (v := .ref no) (T := TX4) (C := RX4) (N := 11) cx hi_X4_bestArms_4 hP 0 rfl rfl 5 (by decide) (by decide +kernel) rfl dX4_bestArms_55 ?_
      refine lv_bipush (v := 15) hx hb dX4_bestArms_58 (by decide) ?_
      refine lv_iload_n hx hb dX4_bestArms_60 rfl (lv_at hl 3 rfl) ?_
      refine lv_iadd hx hb dX4_bestArms_61 ?_
      refine k_iald (j := (15 + i).toNatClampNeg) cx hP 1 rfl rfl (ix_u hpv hi) dX4_bestArms_62 ?_
      refine lv_iload hx hb dX4_bestArms_63 (lv_at hl 0 rfl) ?_
      have hC := c_X4_ten l G (v4 - v4 / 4 * 4)
      refine k_i (ws' := [oMo m0 te re no tr di ke ik mf, aI G no 101 pn]) (as := []) cx hP hD hS [] rfl (kr_S (n := 1) (As := [.int (v4 - v4 / 4 * 4)]) cx hC gX4_bestArms_X4_ten rfl rfl rfl (by decide +kernel) ⟨Nat.le_of_ble_eq_true rfl, Nat.le_of_ble_eq_true rfl⟩ hP hD [] rfl rfl rfl rfl hl (Nat.le_of_ble_eq_true rfl) dX4_bestArms_65 ⟨Nat.le_refl _, Nat.le_refl _⟩) ⟨rfl, rfl⟩ rfl (fun H locs hP hD hS => ?_)
      refine lv_imul hx hb dX4_bestArms_68 ?_
      refine lv_sipush (v := 9999) hx hb dX4_bestArms_69 (by decide) ?_
      refine lv_iload hx hb dX4_bestArms_72 (lv_at hl 1 rfl) ?_
      have hC := c_X4_ten l G (v4 / 4)
      refine k_i (ws' := [oMo m0 te re no tr di ke ik mf, aI G no 101 pn]) (as := []) cx hP hD hS [] rfl (kr_S (n := 1) (As := [.int (v4 / 4)]) cx hC gX4_bestArms_X4_ten rfl rfl rfl (by decide +kernel) ⟨Nat.le_of_ble_eq_true rfl, Nat.le_of_ble_eq_true rfl⟩ hP hD [] rfl rfl rfl rfl hl (Nat.le_of_ble_eq_true rfl) dX4_bestArms_74 ⟨Nat.le_refl _, Nat.le_refl _⟩) ⟨rfl, rfl⟩ rfl (fun H locs hP hD hS => ?_)
      refine lv_imul hx hb dX4_bestArms_77 ?_
      have J86 : ∀ (j86_s0 : Int32), (let j117 := fun (j117_2 : Int32) (j117_3 : Int32) => (P_X4_bestArms_35 pn i n j117_2 j117_3 (v4 + 1) mf); (if j86_s0 = 0 then (j117 v2 v3) else (if ((v4 - v4 / 4 * 4) - (v4 / 4)) ≤ v3 then (j117 v2 v3) else (j117 ((10 * (v4 / 4)) + (v4 - v4 / 4 * 4)) ((v4 - v4 / 4 * 4) - (v4 / 4)))))) = tgt → ∀ (H : Heap) (locs : List Loc) (ls : Array Slot), va_P G.1 vwCl [oMo m0 te re no tr di ke ik mf, aI G no 101 pn] H → va_D A [oMo m0 te re no tr di ke ik mf, aI G no 101 pn] → va_S A s.heap H locs → lv_has ls 8 [(0, .ref m0), (1, .int i), (2, .int v2), (3, .int v3), (4, .int v4), (5, .int (v4 / 4)), (6, .int (v4 - v4 / 4 * 4))] → W p l e rm_X4_bestArms s m args below meth c H locs 0 0 (Q_X4_bestArms G m0 te re no tr di ke ik pn tgt below args s A) (F0 m 86 ls [.int j86_s0]) := by
        intro j86_s0 hq H locs ls hP hD hS hl
        refine lv_istore (lv' := [(7, .int j86_s0), (0, .ref m0), (1, .int i), (2, .int v2), (3, .int v3), (4, .int v4), (5, .int (v4 / 4)), (6, .int (v4 - v4 / 4 * 4))]) hx hb dX4_bestArms_86 hl (by decide) rfl (fun ls hl => ?_)
        refine lv_iload hx hb dX4_bestArms_88 (lv_at hl 0 rfl) ?_
        have J117 : ∀ (j117_2 : Int32) (j117_3 : Int32), (P_X4_bestArms_35 pn i n j117_2 j117_3 (v4 + 1) mf) = tgt → ∀ (H : Heap) (locs : List Loc) (ls : Array Slot), va_P G.1 vwCl [oMo m0 te re no tr di ke ik mf, aI G no 101 pn] H → va_D A [oMo m0 te re no tr di ke ik mf, aI G no 101 pn] → va_S A s.heap H locs → lv_has ls 8 [(0, .ref m0), (1, .int i), (2, .int j117_2), (3, .int j117_3), (4, .int v4)] → W p l e rm_X4_bestArms s m args below meth c H locs 0 0 (Q_X4_bestArms G m0 te re no tr di ke ik pn tgt below args s A) (F0 m 117 ls []) := by
          intro j117_2 j117_3 hq H locs ls hP hD hS hl
          refine lv_iinc (v := (v4 + 1)) (lv' := [(4, .int (v4 + 1)), (0, .ref m0), (1, .int i), (2, .int j117_2), (3, .int j117_3)]) hx hb dX4_bestArms_117 hl (k := 4) rfl rfl (by decide) rfl (fun ls hl => ?_)
          refine lv_goto (tgt := 35) hx hb dX4_bestArms_120 (by decide) ?_
          exact ih j117_2 j117_3 (v4 + 1) mf (nn_inc h0 (N := (16 : Int32)) (by assumption)) (by have hmd := mu_up (N := (16 : Int32)) (by assumption); omega) hq H locs hP hD hS _ (lv_sub hl [1, 2, 3, 4, 0] rfl)
        refine lv_if_eq (tgt := 117) hx hb dX4_bestArms_90 (by decide) (fun c_90 => ?_) (fun c_90 => ?_)
        · replace hq := (if_pos c_90).symm.trans hq
          exact J117 v2 v3 hq H locs ls hP hD hS (lv_sub hl [1, 2, 3, 4, 5] rfl)
        · replace hq := (if_neg c_90).symm.trans hq
          refine lv_iload hx hb dX4_bestArms_93 (lv_at hl 7 rfl) ?_
          refine lv_iload hx hb dX4_bestArms_95 (lv_at hl 6 rfl) ?_
          refine lv_isub hx hb dX4_bestArms_97 ?_
          refine lv_iload_n hx hb dX4_bestArms_98 rfl (lv_at hl 4 rfl) ?_
          refine lv_icmp_le (tgt := 117) hx hb dX4_bestArms_99 (by decide) (fun c_99 => ?_) (fun c_99 => ?_)
          · replace hq := (if_pos c_99).symm.trans hq
            exact J117 v2 v3 hq H locs ls hP hD hS (lv_sub hl [1, 2, 3, 4, 5] rfl)
          · replace hq := (if_neg c_99).symm.trans hq
            refine lv_iload hx hb dX4_bestArms_102 (lv_at hl 7 rfl) ?_
            refine lv_iload hx hb dX4_bestArms_104 (lv_at hl 6 rfl) ?_
            refine lv_isub hx hb dX4_bestArms_106 ?_
            refine lv_istore_n (lv' := [(3, .int ((v4 - v4 / 4 * 4) - (v4 / 4))), (7, .int j86_s0), (0, .ref m0), (1, .int i), (2, .int v2), (4, .int v4), (5, .int (v4 / 4)), (6, .int (v4 - v4 / 4 * 4))]) hx hb dX4_bestArms_107 rfl hl (by decide) rfl (fun ls hl => ?_)
            refine lv_bipush (v := 10) hx hb dX4_bestArms_108 (by decide) ?_
            refine lv_iload hx hb dX4_bestArms_110 (lv_at hl 6 rfl) ?_
            refine lv_imul hx hb dX4_bestArms_112 ?_
            refine lv_iload hx hb dX4_bestArms_113 (lv_at hl 7 rfl) ?_
            refine lv_iadd hx hb dX4_bestArms_115 ?_
            refine lv_istore_n (lv' := [(2, .int ((10 * (v4 / 4)) + (v4 - v4 / 4 * 4))), (3, .int ((v4 - v4 / 4 * 4) - (v4 / 4))), (7, .int j86_s0), (0, .ref m0), (1, .int i), (4, .int v4), (5, .int (v4 / 4)), (6, .int (v4 - v4 / 4 * 4))]) hx hb dX4_bestArms_116 rfl hl (by decide) rfl (fun ls hl => ?_)
            exact J117 ((10 * (v4 / 4)) + (v4 - v4 / 4 * 4)) ((v4 - v4 / 4 * 4) - (v4 / 4)) hq H locs ls hP hD hS (lv_sub hl [3, 4, 0, 1, 5] rfl)
      refine lv_icmp_gt (tgt := 85) hx hb dX4_bestArms_78 (by decide) (fun c_78 => ?_) (fun c_78 => ?_)
      · replace hq := (if_pos c_78).symm.trans hq
        refine lv_iconst (v := 0) hx hb dX4_bestArms_85 (by decide) ?_
        exact J86 0 hq H locs ls hP hD hS (lv_sub hl [2, 3, 4, 5, 6, 1, 0] rfl)
      · replace hq := (if_neg c_78).symm.trans hq
        refine lv_iconst (v := 1) hx hb dX4_bestArms_81 (by decide) ?_
        refine lv_goto (tgt := 86) hx hb dX4_bestArms_82 (by decide) ?_
        exact J86 1 hq H locs ls hP hD hS (lv_sub hl [2, 3, 4, 5, 6, 1, 0] rfl)
def P_X4_bestArms (mf : Nat → Int32) (pn : Nat → Int32) (i : Int32) : Int32 × (Nat → Int32) := (if (P_X4_isUnknown pn i) = 0 then (0, (upd mf 0 1)) else (P_X4_bestArms_35 pn i ((((16 : Int32)).toInt - (0 : Int32).toInt).toNat + 1) (-9999) (-9) 0 (upd mf 0 0)))
set_option maxHeartbeats 4000000 in
set_option maxRecDepth 100000 in
theorem c_X4_bestArms (l : Launch) (G : gG) (m0 : Nat) (te : Nat) (re : Nat) (no : Nat) (tr : Nat) (di : Nat) (ke : Nat) (ik : Nat) (mf : Nat → Int32) (pn : Nat → Int32) (i : Int32) (hpv : PV pn) : kM l G yX4_bestArms wsX4_bestArms rm_X4_bestArms [.ref m0, .int i] [oMo m0 te re no tr di ke ik mf, aI G no 101 pn] (qI G ((P_X4_bestArms mf pn i).1) [oMo m0 te re no tr di ke ik ((P_X4_bestArms mf pn i).2), aI G no 101 pn]) := by
  refine k_body (cc := cX4_bestArms) (nL := 8) (ret := (some .int)) (by decide) rfl (Nat.le_of_ble_eq_true rfl) ?_
  intro p e s m args below meth c A cx hP hD hS ls hl
  obtain ⟨hx, hb, hml, hown, hts, hr, hlocks, hK, hA⟩ := id cx
  obtain ⟨H, hH⟩ : ∃ H, H = s.heap := ⟨_, rfl⟩
  obtain ⟨locs, hL⟩ : ∃ locs : List Loc, locs = [] := ⟨_, rfl⟩
  obtain ⟨tgt, hq⟩ : ∃ tgt, (P_X4_bestArms mf pn i) = tgt := ⟨_, rfl⟩
  have hS : va_S A s.heap H locs := by rw [hH, hL]; exact hS
  rw [← hH] at hP
  have hl : lv_has ls 8 [(0, .ref m0), (1, .int i)] := hl
  have key : ∀ (H : Heap) (locs : List Loc), va_P G.1 vwCl [oMo m0 te re no tr di ke ik mf, aI G no 101 pn] H → va_D A [oMo m0 te re no tr di ke ik mf, aI G no 101 pn] → va_S A s.heap H locs → W p l e rm_X4_bestArms s m args below meth c H locs 0 0 (Q_X4_bestArms G m0 te re no tr di ke ik pn tgt below args s A) (F0 m 0 ls []) := by
    clear hP hD hS hH hL
    intro H locs hP hD hS
    unfold P_X4_bestArms at hq
    refine lv_aload_n hx hb dX4_bestArms_0 rfl (lv_at hl 0 rfl) ?_
    refine lv_aload_n hx hb dX4_bestArms_1 rfl (lv_at hl 0 rfl) ?_
    refine k_get (v := .ref no) (T := TX4) (C := RX4) (N := 11) cx hi_X4_bestArms_4 hP 0 rfl rfl 5 (by decide) (by decide +kernel) rfl dX4_bestArms_2 ?_
    refine lv_iload_n hx hb dX4_bestArms_5 rfl (lv_at hl 1 rfl) ?_
    have hC := c_X4_isUnknown l G no pn i
    refine k_i (ws' := [oMo m0 te re no tr di ke ik mf, aI G no 101 pn]) (as := [no]) cx hP hD hS [1] rfl (kr_S (n := 2) (As := [.ref no, .int i]) cx hC gX4_bestArms_X4_isUnknown rfl rfl rfl (by decide +kernel) ⟨Nat.le_of_ble_eq_true rfl, Nat.le_of_ble_eq_true rfl⟩ hP hD [1] rfl rfl rfl rfl hl (Nat.le_of_ble_eq_true rfl) dX4_bestArms_6 ⟨Nat.le_refl _, Nat.le_refl _⟩) ⟨rfl, rfl⟩ rfl (fun H locs hP hD hS => ?_)
    refine lv_if_eq (tgt := 16) hx hb dX4_bestArms_9 (by decide) (fun c_9 => ?_) (fun c_9 => ?_)
    · replace hq := (if_pos c_9).symm.trans hq
      refine lv_iconst (v := 1) hx hb dX4_bestArms_16 (by decide) ?_
      have hC := c_X4_refused l G m0 te re no tr di ke ik mf 1
      rw [ref_1] at hC
      refine k_i (r := 1) (ws' := [oMo m0 te re no tr di ke ik (upd mf 0 1), aI G no 101 pn]) (as := [m0]) cx hP hD hS [0] rfl (kr_V (n := 1) (As := [.int 1]) (ci := 4) cx hC gX4_bestArms_X4_refused rfl rfl rfl (by decide +kernel) ⟨Nat.le_of_ble_eq_true rfl, Nat.le_of_ble_eq_true rfl⟩ rfl rfl rfl hP hD [0] rfl rfl rfl rfl hl (Nat.le_of_ble_eq_true rfl) dX4_bestArms_17 ⟨Nat.le_refl _, Nat.le_refl _⟩) ⟨rfl, rfl⟩ rfl (fun H locs hP hD hS => ?_)
      refine lv_if_eq (tgt := 25) hx hb dX4_bestArms_20 (by decide) (fun cz => absurd cz (by decide)) (fun _ => ?_)
      refine lv_iconst (v := 0) hx hb dX4_bestArms_23 (by decide) ?_
      subst hq
      exact k_iret cx hP hS dX4_bestArms_24
    · replace hq := (if_neg c_9).symm.trans hq
      refine lv_iconst (v := 0) hx hb dX4_bestArms_12 (by decide) ?_
      refine lv_goto (tgt := 17) hx hb dX4_bestArms_13 (by decide) ?_
      have hC := c_X4_refused l G m0 te re no tr di ke ik mf 0
      rw [ref_0] at hC
      refine k_i (r := 0) (ws' := [oMo m0 te re no tr di ke ik (upd mf 0 0), aI G no 101 pn]) (as := [m0]) cx hP hD hS [0] rfl (kr_V (n := 1) (As := [.int 0]) (ci := 4) cx hC gX4_bestArms_X4_refused rfl rfl rfl (by decide +kernel) ⟨Nat.le_of_ble_eq_true rfl, Nat.le_of_ble_eq_true rfl⟩ rfl rfl rfl hP hD [0] rfl rfl rfl rfl hl (Nat.le_of_ble_eq_true rfl) dX4_bestArms_17 ⟨Nat.le_refl _, Nat.le_refl _⟩) ⟨rfl, rfl⟩ rfl (fun H locs hP hD hS => ?_)
      refine lv_if_eq (tgt := 25) hx hb dX4_bestArms_20 (by decide) (fun _ => ?_) (fun cz => absurd (by decide) cz)
      refine lv_sipush (v := (-9999)) hx hb dX4_bestArms_25 (by decide) ?_
      refine lv_istore_n (lv' := [(2, .int (-9999)), (0, .ref m0), (1, .int i)]) hx hb dX4_bestArms_28 rfl hl (by decide) rfl (fun ls hl => ?_)
      refine lv_bipush (v := (-9)) hx hb dX4_bestArms_29 (by decide) ?_
      refine lv_istore_n (lv' := [(3, .int (-9)), (2, .int (-9999)), (0, .ref m0), (1, .int i)]) hx hb dX4_bestArms_31 rfl hl (by decide) rfl (fun ls hl => ?_)
      refine lv_iconst (v := 0) hx hb dX4_bestArms_32 (by decide) ?_
      refine lv_istore (lv' := [(4, .int 0), (3, .int (-9)), (2, .int (-9999)), (0, .ref m0), (1, .int i)]) hx hb dX4_bestArms_33 hl (by decide) rfl (fun ls hl => ?_)
      exact b_X4_bestArms_35 cx m0 te re no tr di ke ik pn i hpv (c_9) tgt ((((16 : Int32)).toInt - (0 : Int32).toInt).toNat + 1) (-9999) (-9) 0 (upd mf 0 0) (by decide) (Nat.lt_succ_self _) hq H locs hP hD hS _ (lv_sub hl [3, 4, 2, 1, 0] rfl)
  subst hL
  subst hH
  subst hq
  exact key _ _ hP hD hS

/-! X4_enoughShunt -/
theorem hi_X4_enoughShunt_4 : ∀ w ∈ u_ws RX4 TX4 11, w ∈ wsX4_enoughShunt := by decide +kernel
abbrev rm_X4_enoughShunt : Room := { frames := 4, cells := 0, slots := 0, locals := 89 }
abbrev Q_X4_enoughShunt (G : gG) (m0 : Nat) (te : Nat) (re : Nat) (no : Nat) (tr : Nat) (di : Nat) (ke : Nat) (ik : Nat)  (pn : Nat → Int32) (tgt : Int32 × (Nat → Int32)) (below : List Frame) (args : Array Value) (s : State) (A : Nat → Prop) : State → Prop := MQ below (qI G tgt.1 [oMo m0 te re no tr di ke ik tgt.2, aI G no 101 pn] A) args s 0 0 A
def P_X4_enoughShunt_7 (pn : Nat → Int32) : Nat → Int32 → (Nat → Int32) → Int32 × (Nat → Int32)
  | 0, _, _ => (0, (fun _ => 0))
  | n + 1, v1, mf => (if 4 ≤ v1 then ((-9999), mf) else (let j50 := fun (_ : Unit) => (P_X4_enoughShunt_7 pn n (v1 + 1) mf); (if 500 < (P_X4_size (P_X4_rawOf pn 0 v1)) then (j50 ()) else (if 500 < (P_X4_size (P_X4_rawOf pn 1 v1)) then (j50 ()) else (v1, mf)))))
set_option maxHeartbeats 4000000 in
set_option maxRecDepth 100000 in
theorem b_X4_enoughShunt_7 {p : Program} {l : Launch} {e : Env} {s : State} {m : MethodId} {args : Array Value} {below : List Frame} {meth : Method} {c : Code} {G : gG} {A : Nat → Prop} (cx : Cx p s m args meth c cX4_enoughShunt 2 yX4_enoughShunt.cls wsX4_enoughShunt (some .int) G A) (m0 : Nat) (te : Nat) (re : Nat) (no : Nat) (tr : Nat) (di : Nat) (ke : Nat) (ik : Nat) (pn : Nat → Int32) (hpv : PV pn)  (tgt : Int32 × (Nat → Int32)) : ∀ (n : Nat) (v1 : Int32) (mf : Nat → Int32) (h0 : ¬ v1 < 0) (hm : (((4 : Int32)).toInt - (v1 : Int32).toInt).toNat < n) (hq : P_X4_enoughShunt_7  pn n v1 mf = tgt) (H : Heap) (locs : List Loc) (hP : va_P G.1 vwCl [oMo m0 te re no tr di ke ik mf, aI G no 101 pn] H) (hD : va_D A [oMo m0 te re no tr di ke ik mf, aI G no 101 pn]) (hS : va_S A s.heap H locs) (ls : Array Slot) (hl : lv_has ls 2 [(0, .ref m0), (1, .int v1)]), W p l e rm_X4_enoughShunt s m args below meth c H locs 0 0 (Q_X4_enoughShunt G m0 te re no tr di ke ik pn tgt below args s A) (F0 m 7 ls []) := by
  obtain ⟨hx, hb, hml, hown, hts, hr, hlocks, hK, hA⟩ := id cx
  intro n
  induction n with
  | zero => intros; omega
  | succ n ih =>
    intro v1 mf h0 hm hq H locs hP hD hS ls hl
    unfold P_X4_enoughShunt_7 at hq
    refine lv_iload_n hx hb dX4_enoughShunt_7 rfl (lv_at hl 1 rfl) ?_
    refine lv_iconst (v := 4) hx hb dX4_enoughShunt_8 (by decide) ?_
    refine lv_icmp_ge (tgt := 56) hx hb dX4_enoughShunt_9 (by decide) (fun c_9 => ?_) (fun c_9 => ?_)
    · replace hq := (if_pos c_9).symm.trans hq
      refine lv_sipush (v := (-9999)) hx hb dX4_enoughShunt_56 (by decide) ?_
      subst hq
      exact k_iret cx hP hS dX4_enoughShunt_59
    · replace hq := (if_neg c_9).symm.trans hq
      refine lv_aload_n hx hb dX4_enoughShunt_12 rfl (lv_at hl 0 rfl) ?_
      refine k_get (v := .ref no) (T := TX4) (C := RX4) (N := 11) cx hi_X4_enoughShunt_4 hP 0 rfl rfl 5 (by decide) (by decide +kernel) rfl dX4_enoughShunt_13 ?_
      refine lv_iconst (v := 0) hx hb dX4_enoughShunt_16 (by decide) ?_
      refine lv_iload_n hx hb dX4_enoughShunt_17 rfl (lv_at hl 1 rfl) ?_
      have hC := c_X4_rawOf l G no pn 0 v1 (hpv)
      refine k_i (ws' := [oMo m0 te re no tr di ke ik mf, aI G no 101 pn]) (as := [no]) cx hP hD hS [1] rfl (kr_S (n := 3) (As := [.ref no, .int 0, .int v1]) cx hC gX4_enoughShunt_X4_rawOf rfl rfl rfl (by decide +kernel) ⟨Nat.le_of_ble_eq_true rfl, Nat.le_of_ble_eq_true rfl⟩ hP hD [1] rfl rfl rfl rfl hl (Nat.le_of_ble_eq_true rfl) dX4_enoughShunt_18 ⟨Nat.le_refl _, Nat.le_refl _⟩) ⟨rfl, rfl⟩ rfl (fun H locs hP hD hS => ?_)
      have hC := c_X4_size l G (P_X4_rawOf pn 0 v1)
      refine k_i (ws' := [oMo m0 te re no tr di ke ik mf, aI G no 101 pn]) (as := []) cx hP hD hS [] rfl (kr_S (n := 1) (As := [.int (P_X4_rawOf pn 0 v1)]) cx hC gX4_enoughShunt_X4_size rfl rfl rfl (by decide +kernel) ⟨Nat.le_of_ble_eq_true rfl, Nat.le_of_ble_eq_true rfl⟩ hP hD [] rfl rfl rfl rfl hl (Nat.le_of_ble_eq_true rfl) dX4_enoughShunt_21 ⟨Nat.le_refl _, Nat.le_refl _⟩) ⟨rfl, rfl⟩ rfl (fun H locs hP hD hS => ?_)
      refine lv_sipush (v := 500) hx hb dX4_enoughShunt_24 (by decide) ?_
      have J50 : ∀ (_ : Unit), (P_X4_enoughShunt_7 pn n (v1 + 1) mf) = tgt → ∀ (H : Heap) (locs : List Loc) (ls : Array Slot), va_P G.1 vwCl [oMo m0 te re no tr di ke ik mf, aI G no 101 pn] H → va_D A [oMo m0 te re no tr di ke ik mf, aI G no 101 pn] → va_S A s.heap H locs → lv_has ls 2 [(0, .ref m0), (1, .int v1)] → W p l e rm_X4_enoughShunt s m args below meth c H locs 0 0 (Q_X4_enoughShunt G m0 te re no tr di ke ik pn tgt below args s A) (F0 m 50 ls []) := by
        intro _ hq H locs ls hP hD hS hl
        refine lv_iinc (v := (v1 + 1)) (lv' := [(1, .int (v1 + 1)), (0, .ref m0)]) hx hb dX4_enoughShunt_50 hl (k := 1) rfl rfl (by decide) rfl (fun ls hl => ?_)
        refine lv_goto (tgt := 7) hx hb dX4_enoughShunt_53 (by decide) ?_
        exact ih (v1 + 1) mf (nn_inc h0 (N := (4 : Int32)) (by assumption)) (by have hmd := mu_up (N := (4 : Int32)) (by assumption); omega) hq H locs hP hD hS _ (lv_sub hl [1, 0] rfl)
      refine lv_icmp_gt (tgt := 50) hx hb dX4_enoughShunt_27 (by decide) (fun c_27 => ?_) (fun c_27 => ?_)
      · replace hq := (if_pos c_27).symm.trans hq
        exact J50 () hq H locs ls hP hD hS (lv_sub hl [0, 1] rfl)
      · replace hq := (if_neg c_27).symm.trans hq
        refine lv_aload_n hx hb dX4_enoughShunt_30 rfl (lv_at hl 0 rfl) ?_
        refine k_get (v := .ref no) (T := TX4) (C := RX4) (N := 11) cx hi_X4_enoughShunt_4 hP 0 rfl rfl 5 (by decide) (by decide +kernel) rfl dX4_enoughShunt_31 ?_
        refine lv_iconst (v := 1) hx hb dX4_enoughShunt_34 (by decide) ?_
        refine lv_iload_n hx hb dX4_enoughShunt_35 rfl (lv_at hl 1 rfl) ?_
        have hC := c_X4_rawOf l G no pn 1 v1 (hpv)
        refine k_i (ws' := [oMo m0 te re no tr di ke ik mf, aI G no 101 pn]) (as := [no]) cx hP hD hS [1] rfl (kr_S (n := 3) (As := [.ref no, .int 1, .int v1]) cx hC gX4_enoughShunt_X4_rawOf rfl rfl rfl (by decide +kernel) ⟨Nat.le_of_ble_eq_true rfl, Nat.le_of_ble_eq_true rfl⟩ hP hD [1] rfl rfl rfl rfl hl (Nat.le_of_ble_eq_true rfl) dX4_enoughShunt_36 ⟨Nat.le_refl _, Nat.le_refl _⟩) ⟨rfl, rfl⟩ rfl (fun H locs hP hD hS => ?_)
        have hC := c_X4_size l G (P_X4_rawOf pn 1 v1)
        refine k_i (ws' := [oMo m0 te re no tr di ke ik mf, aI G no 101 pn]) (as := []) cx hP hD hS [] rfl (kr_S (n := 1) (As := [.int (P_X4_rawOf pn 1 v1)]) cx hC gX4_enoughShunt_X4_size rfl rfl rfl (by decide +kernel) ⟨Nat.le_of_ble_eq_true rfl, Nat.le_of_ble_eq_true rfl⟩ hP hD [] rfl rfl rfl rfl hl (Nat.le_of_ble_eq_true rfl) dX4_enoughShunt_39 ⟨Nat.le_refl _, Nat.le_refl _⟩) ⟨rfl, rfl⟩ rfl (fun H locs hP hD hS => ?_)
        refine lv_sipush (v := 500) hx hb dX4_enoughShunt_42 (by decide) ?_
        refine lv_icmp_gt (tgt := 50) hx hb dX4_enoughShunt_45 (by decide) (fun c_45 => ?_) (fun c_45 => ?_)
        · replace hq := (if_pos c_45).symm.trans hq
          exact J50 () hq H locs ls hP hD hS (lv_sub hl [0, 1] rfl)
        · replace hq := (if_neg c_45).symm.trans hq
          refine lv_iload_n hx hb dX4_enoughShunt_48 rfl (lv_at hl 1 rfl) ?_
          subst hq
          exact k_iret cx hP hS dX4_enoughShunt_49
def P_X4_enoughShunt (mf : Nat → Int32) (pn : Nat → Int32) : Int32 × (Nat → Int32) := (P_X4_enoughShunt_7 pn ((((4 : Int32)).toInt - (0 : Int32).toInt).toNat + 1) 0 (upd mf 0 0))
set_option maxHeartbeats 4000000 in
set_option maxRecDepth 100000 in
theorem c_X4_enoughShunt (l : Launch) (G : gG) (m0 : Nat) (te : Nat) (re : Nat) (no : Nat) (tr : Nat) (di : Nat) (ke : Nat) (ik : Nat) (mf : Nat → Int32) (pn : Nat → Int32) (hpv : PV pn) : kM l G yX4_enoughShunt wsX4_enoughShunt rm_X4_enoughShunt [.ref m0] [oMo m0 te re no tr di ke ik mf, aI G no 101 pn] (qI G ((P_X4_enoughShunt mf pn).1) [oMo m0 te re no tr di ke ik ((P_X4_enoughShunt mf pn).2), aI G no 101 pn]) := by
  refine k_body (cc := cX4_enoughShunt) (nL := 2) (ret := (some .int)) (by decide) rfl (Nat.le_of_ble_eq_true rfl) ?_
  intro p e s m args below meth c A cx hP hD hS ls hl
  obtain ⟨hx, hb, hml, hown, hts, hr, hlocks, hK, hA⟩ := id cx
  obtain ⟨H, hH⟩ : ∃ H, H = s.heap := ⟨_, rfl⟩
  obtain ⟨locs, hL⟩ : ∃ locs : List Loc, locs = [] := ⟨_, rfl⟩
  obtain ⟨tgt, hq⟩ : ∃ tgt, (P_X4_enoughShunt mf pn) = tgt := ⟨_, rfl⟩
  have hS : va_S A s.heap H locs := by rw [hH, hL]; exact hS
  rw [← hH] at hP
  have hl : lv_has ls 2 [(0, .ref m0)] := hl
  have key : ∀ (H : Heap) (locs : List Loc), va_P G.1 vwCl [oMo m0 te re no tr di ke ik mf, aI G no 101 pn] H → va_D A [oMo m0 te re no tr di ke ik mf, aI G no 101 pn] → va_S A s.heap H locs → W p l e rm_X4_enoughShunt s m args below meth c H locs 0 0 (Q_X4_enoughShunt G m0 te re no tr di ke ik pn tgt below args s A) (F0 m 0 ls []) := by
    clear hP hD hS hH hL
    intro H locs hP hD hS
    unfold P_X4_enoughShunt at hq
    refine lv_aload_n hx hb dX4_enoughShunt_0 rfl (lv_at hl 0 rfl) ?_
    refine lv_iconst (v := 0) hx hb dX4_enoughShunt_1 (by decide) ?_
    refine k_put (ws' := [oMo m0 te re no tr di ke ik (upd mf 0 0), aI G no 101 pn]) (ty := .int) (T := TX4) (C := RX4) (N := 11) cx hi_X4_enoughShunt_4 tyX4_ok nmX4 hP hD hS 0 rfl rfl 0 (by decide) (by decide +kernel) rfl rfl rfl rfl (Nat.le_of_ble_eq_true rfl) rfl dX4_enoughShunt_2 (fun H locs hP hD hS => ?_)
    refine lv_iconst (v := 0) hx hb dX4_enoughShunt_5 (by decide) ?_
    refine lv_istore_n (lv' := [(1, .int 0), (0, .ref m0)]) hx hb dX4_enoughShunt_6 rfl hl (by decide) rfl (fun ls hl => ?_)
    exact b_X4_enoughShunt_7 cx m0 te re no tr di ke ik pn hpv tgt ((((4 : Int32)).toInt - (0 : Int32).toInt).toNat + 1) 0 (upd mf 0 0) (by decide) (Nat.lt_succ_self _) hq H locs hP hD hS _ (lv_sub hl [1, 0] rfl)
  subst hL
  subst hH
  subst hq
  exact key _ _ hP hD hS

/-! X4_sensitivity -/
theorem hi_X4_sensitivity_4 : ∀ w ∈ u_ws RX4 TX4 11, w ∈ wsX4_sensitivity := by decide +kernel
abbrev rm_X4_sensitivity : Room := { frames := 3, cells := 0, slots := 0, locals := 66 }
abbrev Q_X4_sensitivity (G : gG) (m0 : Nat) (te : Nat) (re : Nat) (no : Nat) (tr : Nat) (di : Nat) (ke : Nat) (ik : Nat)  (pn : Nat → Int32) (tgt : Int32 × (Nat → Int32)) (below : List Frame) (args : Array Value) (s : State) (A : Nat → Prop) : State → Prop := MQ below (qI G tgt.1 [oMo m0 te re no tr di ke ik tgt.2, aI G no 101 pn] A) args s 0 0 A
def P_X4_sensitivity (mf : Nat → Int32) (pn : Nat → Int32) : Int32 × (Nat → Int32) := (let j67 := fun (j67_s0 : Int32) => (let j107 := fun (j107_s0 : Int32) => (if j67_s0 ≤ j107_s0 then (j107_s0, (upd mf 0 0)) else (j67_s0, (upd mf 0 0))); (if (pn 2) ≤ 0 then (j107 0) else (j107 (P_X4_size ((P_X4_trueOf pn ((pn 2) - 1) (pn 4)) - (P_X4_trueOf pn (pn 2) (pn 4))))))); (if 9999 ≤ (pn 2) then (j67 0) else (j67 (P_X4_size ((P_X4_trueOf pn ((pn 2) + 1) (pn 4)) - (P_X4_trueOf pn (pn 2) (pn 4)))))))
set_option maxHeartbeats 4000000 in
set_option maxRecDepth 100000 in
theorem c_X4_sensitivity (l : Launch) (G : gG) (m0 : Nat) (te : Nat) (re : Nat) (no : Nat) (tr : Nat) (di : Nat) (ke : Nat) (ik : Nat) (mf : Nat → Int32) (pn : Nat → Int32) (hpv : PV pn) : kM l G yX4_sensitivity wsX4_sensitivity rm_X4_sensitivity [.ref m0] [oMo m0 te re no tr di ke ik mf, aI G no 101 pn] (qI G ((P_X4_sensitivity mf pn).1) [oMo m0 te re no tr di ke ik ((P_X4_sensitivity mf pn).2), aI G no 101 pn]) := by
  refine k_body (cc := cX4_sensitivity) (nL := 4) (ret := (some .int)) (by decide) rfl (Nat.le_of_ble_eq_true rfl) ?_
  intro p e s m args below meth c A cx hP hD hS ls hl
  obtain ⟨hx, hb, hml, hown, hts, hr, hlocks, hK, hA⟩ := id cx
  obtain ⟨H, hH⟩ : ∃ H, H = s.heap := ⟨_, rfl⟩
  obtain ⟨locs, hL⟩ : ∃ locs : List Loc, locs = [] := ⟨_, rfl⟩
  obtain ⟨tgt, hq⟩ : ∃ tgt, (P_X4_sensitivity mf pn) = tgt := ⟨_, rfl⟩
  have hS : va_S A s.heap H locs := by rw [hH, hL]; exact hS
  rw [← hH] at hP
  have hl : lv_has ls 4 [(0, .ref m0)] := hl
  have key : ∀ (H : Heap) (locs : List Loc), va_P G.1 vwCl [oMo m0 te re no tr di ke ik mf, aI G no 101 pn] H → va_D A [oMo m0 te re no tr di ke ik mf, aI G no 101 pn] → va_S A s.heap H locs → W p l e rm_X4_sensitivity s m args below meth c H locs 0 0 (Q_X4_sensitivity G m0 te re no tr di ke ik pn tgt below args s A) (F0 m 0 ls []) := by
    clear hP hD hS hH hL
    intro H locs hP hD hS
    unfold P_X4_sensitivity at hq
    refine lv_aload_n hx hb dX4_sensitivity_0 rfl (lv_at hl 0 rfl) ?_
    refine lv_iconst (v := 0) hx hb dX4_sensitivity_1 (by decide) ?_
    refine k_put (ws' := [oMo m0 te re no tr di ke ik (upd mf 0 0), aI G no 101 pn]) (ty := .int) (T := TX4) (C := RX4) (N := 11) cx hi_X4_sensitivity_4 tyX4_ok nmX4 hP hD hS 0 rfl rfl 0 (by decide) (by decide +kernel) rfl rfl rfl rfl (Nat.le_of_ble_eq_true rfl) rfl dX4_sensitivity_2 (fun H locs hP hD hS => ?_)
    refine lv_aload_n hx hb dX4_sensitivity_5 rfl (lv_at hl 0 rfl) ?_
    refine k_get (v := .ref no) (T := TX4) (C := RX4) (N := 11) cx hi_X4_sensitivity_4 hP 0 rfl rfl 5 (by decide) (by decide +kernel) rfl dX4_sensitivity_6 ?_
    refine lv_aload_n hx hb dX4_sensitivity_9 rfl (lv_at hl 0 rfl) ?_
    refine k_get (v := .ref no) (T := TX4) (C := RX4) (N := 11) cx hi_X4_sensitivity_4 hP 0 rfl rfl 5 (by decide) (by decide +kernel) rfl dX4_sensitivity_10 ?_
    refine lv_iconst (v := 2) hx hb dX4_sensitivity_13 (by decide) ?_
    refine k_iald (j := 2) cx hP 1 rfl (by decide) (by unfold vp_in; decide) dX4_sensitivity_14 ?_
    refine lv_aload_n hx hb dX4_sensitivity_15 rfl (lv_at hl 0 rfl) ?_
    refine k_get (v := .ref no) (T := TX4) (C := RX4) (N := 11) cx hi_X4_sensitivity_4 hP 0 rfl rfl 5 (by decide) (by decide +kernel) rfl dX4_sensitivity_16 ?_
    refine lv_iconst (v := 4) hx hb dX4_sensitivity_19 (by decide) ?_
    refine k_iald (j := 4) cx hP 1 rfl (by decide) (by unfold vp_in; decide) dX4_sensitivity_20 ?_
    have hC := c_X4_trueOf l G no pn (pn 2) (pn 4) (hpv) (pv_r hpv)
    refine k_i (ws' := [oMo m0 te re no tr di ke ik (upd mf 0 0), aI G no 101 pn]) (as := [no]) cx hP hD hS [1] rfl (kr_S (n := 3) (As := [.ref no, .int (pn 2), .int (pn 4)]) cx hC gX4_sensitivity_X4_trueOf rfl rfl rfl (by decide +kernel) ⟨Nat.le_of_ble_eq_true rfl, Nat.le_of_ble_eq_true rfl⟩ hP hD [1] rfl rfl rfl rfl hl (Nat.le_of_ble_eq_true rfl) dX4_sensitivity_21 ⟨Nat.le_refl _, Nat.le_refl _⟩) ⟨rfl, rfl⟩ rfl (fun H locs hP hD hS => ?_)
    refine lv_istore_n (lv' := [(1, .int (P_X4_trueOf pn (pn 2) (pn 4))), (0, .ref m0)]) hx hb dX4_sensitivity_24 rfl hl (by decide) rfl (fun ls hl => ?_)
    refine lv_aload_n hx hb dX4_sensitivity_25 rfl (lv_at hl 1 rfl) ?_
    refine k_get (v := .ref no) (T := TX4) (C := RX4) (N := 11) cx hi_X4_sensitivity_4 hP 0 rfl rfl 5 (by decide) (by decide +kernel) rfl dX4_sensitivity_26 ?_
    refine lv_iconst (v := 2) hx hb dX4_sensitivity_29 (by decide) ?_
    refine k_iald (j := 2) cx hP 1 rfl (by decide) (by unfold vp_in; decide) dX4_sensitivity_30 ?_
    refine lv_sipush (v := 9999) hx hb dX4_sensitivity_31 (by decide) ?_
    have J67 : ∀ (j67_s0 : Int32), (let j107 := fun (j107_s0 : Int32) => (if j67_s0 ≤ j107_s0 then (j107_s0, (upd mf 0 0)) else (j67_s0, (upd mf 0 0))); (if (pn 2) ≤ 0 then (j107 0) else (j107 (P_X4_size ((P_X4_trueOf pn ((pn 2) - 1) (pn 4)) - (P_X4_trueOf pn (pn 2) (pn 4))))))) = tgt → ∀ (H : Heap) (locs : List Loc) (ls : Array Slot), va_P G.1 vwCl [oMo m0 te re no tr di ke ik (upd mf 0 0), aI G no 101 pn] H → va_D A [oMo m0 te re no tr di ke ik (upd mf 0 0), aI G no 101 pn] → va_S A s.heap H locs → lv_has ls 4 [(0, .ref m0), (1, .int (P_X4_trueOf pn (pn 2) (pn 4)))] → W p l e rm_X4_sensitivity s m args below meth c H locs 0 0 (Q_X4_sensitivity G m0 te re no tr di ke ik pn tgt below args s A) (F0 m 67 ls [.int j67_s0]) := by
      intro j67_s0 hq H locs ls hP hD hS hl
      refine lv_istore_n (lv' := [(2, .int j67_s0), (0, .ref m0), (1, .int (P_X4_trueOf pn (pn 2) (pn 4)))]) hx hb dX4_sensitivity_67 rfl hl (by decide) rfl (fun ls hl => ?_)
      refine lv_aload_n hx hb dX4_sensitivity_68 rfl (lv_at hl 1 rfl) ?_
      refine k_get (v := .ref no) (T := TX4) (C := RX4) (N := 11) cx hi_X4_sensitivity_4 hP 0 rfl rfl 5 (by decide) (by decide +kernel) rfl dX4_sensitivity_69 ?_
      refine lv_iconst (v := 2) hx hb dX4_sensitivity_72 (by decide) ?_
      refine k_iald (j := 2) cx hP 1 rfl (by decide) (by unfold vp_in; decide) dX4_sensitivity_73 ?_
      have J107 : ∀ (j107_s0 : Int32), (if j67_s0 ≤ j107_s0 then (j107_s0, (upd mf 0 0)) else (j67_s0, (upd mf 0 0))) = tgt → ∀ (H : Heap) (locs : List Loc) (ls : Array Slot), va_P G.1 vwCl [oMo m0 te re no tr di ke ik (upd mf 0 0), aI G no 101 pn] H → va_D A [oMo m0 te re no tr di ke ik (upd mf 0 0), aI G no 101 pn] → va_S A s.heap H locs → lv_has ls 4 [(0, .ref m0), (2, .int j67_s0)] → W p l e rm_X4_sensitivity s m args below meth c H locs 0 0 (Q_X4_sensitivity G m0 te re no tr di ke ik pn tgt below args s A) (F0 m 107 ls [.int j107_s0]) := by
        intro j107_s0 hq H locs ls hP hD hS hl
        refine lv_istore_n (lv' := [(3, .int j107_s0), (0, .ref m0), (2, .int j67_s0)]) hx hb dX4_sensitivity_107 rfl hl (by decide) rfl (fun ls hl => ?_)
        refine lv_iload_n hx hb dX4_sensitivity_108 rfl (lv_at hl 2 rfl) ?_
        refine lv_iload_n hx hb dX4_sensitivity_109 rfl (lv_at hl 0 rfl) ?_
        refine lv_icmp_le (tgt := 117) hx hb dX4_sensitivity_110 (by decide) (fun c_110 => ?_) (fun c_110 => ?_)
        · replace hq := (if_pos c_110).symm.trans hq
          refine lv_iload_n hx hb dX4_sensitivity_117 rfl (lv_at hl 0 rfl) ?_
          subst hq
          exact k_iret cx hP hS dX4_sensitivity_118
        · replace hq := (if_neg c_110).symm.trans hq
          refine lv_iload_n hx hb dX4_sensitivity_113 rfl (lv_at hl 2 rfl) ?_
          refine lv_goto (tgt := 118) hx hb dX4_sensitivity_114 (by decide) ?_
          subst hq
          exact k_iret cx hP hS dX4_sensitivity_118
      refine lv_if_le (tgt := 106) hx hb dX4_sensitivity_74 (by decide) (fun c_74 => ?_) (fun c_74 => ?_)
      · replace hq := (if_pos c_74).symm.trans hq
        refine lv_iconst (v := 0) hx hb dX4_sensitivity_106 (by decide) ?_
        exact J107 0 hq H locs ls hP hD hS (lv_sub hl [1, 0] rfl)
      · replace hq := (if_neg c_74).symm.trans hq
        refine lv_aload_n hx hb dX4_sensitivity_77 rfl (lv_at hl 1 rfl) ?_
        refine k_get (v := .ref no) (T := TX4) (C := RX4) (N := 11) cx hi_X4_sensitivity_4 hP 0 rfl rfl 5 (by decide) (by decide +kernel) rfl dX4_sensitivity_78 ?_
        refine lv_aload_n hx hb dX4_sensitivity_81 rfl (lv_at hl 1 rfl) ?_
        refine k_get (v := .ref no) (T := TX4) (C := RX4) (N := 11) cx hi_X4_sensitivity_4 hP 0 rfl rfl 5 (by decide) (by decide +kernel) rfl dX4_sensitivity_82 ?_
        refine lv_iconst (v := 2) hx hb dX4_sensitivity_85 (by decide) ?_
        refine k_iald (j := 2) cx hP 1 rfl (by decide) (by unfold vp_in; decide) dX4_sensitivity_86 ?_
        refine lv_iconst (v := 1) hx hb dX4_sensitivity_87 (by decide) ?_
        refine lv_isub hx hb dX4_sensitivity_88 ?_
        refine lv_aload_n hx hb dX4_sensitivity_89 rfl (lv_at hl 1 rfl) ?_
        refine k_get (v := .ref no) (T := TX4) (C := RX4) (N := 11) cx hi_X4_sensitivity_4 hP 0 rfl rfl 5 (by decide) (by decide +kernel) rfl dX4_sensitivity_90 ?_
        refine lv_iconst (v := 4) hx hb dX4_sensitivity_93 (by decide) ?_
        refine k_iald (j := 4) cx hP 1 rfl (by decide) (by unfold vp_in; decide) dX4_sensitivity_94 ?_
        have hC := c_X4_trueOf l G no pn ((pn 2) - 1) (pn 4) (hpv) (rb_dec (pv_r hpv) c_74)
        refine k_i (ws' := [oMo m0 te re no tr di ke ik (upd mf 0 0), aI G no 101 pn]) (as := [no]) cx hP hD hS [1] rfl (kr_S (n := 3) (As := [.ref no, .int ((pn 2) - 1), .int (pn 4)]) cx hC gX4_sensitivity_X4_trueOf rfl rfl rfl (by decide +kernel) ⟨Nat.le_of_ble_eq_true rfl, Nat.le_of_ble_eq_true rfl⟩ hP hD [1] rfl rfl rfl rfl hl (Nat.le_of_ble_eq_true rfl) dX4_sensitivity_95 ⟨Nat.le_refl _, Nat.le_refl _⟩) ⟨rfl, rfl⟩ rfl (fun H locs hP hD hS => ?_)
        refine lv_iload_n hx hb dX4_sensitivity_98 rfl (lv_at hl 2 rfl) ?_
        refine lv_isub hx hb dX4_sensitivity_99 ?_
        have hC := c_X4_size l G ((P_X4_trueOf pn ((pn 2) - 1) (pn 4)) - (P_X4_trueOf pn (pn 2) (pn 4)))
        refine k_i (ws' := [oMo m0 te re no tr di ke ik (upd mf 0 0), aI G no 101 pn]) (as := []) cx hP hD hS [] rfl (kr_S (n := 1) (As := [.int ((P_X4_trueOf pn ((pn 2) - 1) (pn 4)) - (P_X4_trueOf pn (pn 2) (pn 4)))]) cx hC gX4_sensitivity_X4_size rfl rfl rfl (by decide +kernel) ⟨Nat.le_of_ble_eq_true rfl, Nat.le_of_ble_eq_true rfl⟩ hP hD [] rfl rfl rfl rfl hl (Nat.le_of_ble_eq_true rfl) dX4_sensitivity_100 ⟨Nat.le_refl _, Nat.le_refl _⟩) ⟨rfl, rfl⟩ rfl (fun H locs hP hD hS => ?_)
        refine lv_goto (tgt := 107) hx hb dX4_sensitivity_103 (by decide) ?_
        exact J107 (P_X4_size ((P_X4_trueOf pn ((pn 2) - 1) (pn 4)) - (P_X4_trueOf pn (pn 2) (pn 4)))) hq H locs ls hP hD hS (lv_sub hl [1, 0] rfl)
    refine lv_icmp_ge (tgt := 66) hx hb dX4_sensitivity_34 (by decide) (fun c_34 => ?_) (fun c_34 => ?_)
    · replace hq := (if_pos c_34).symm.trans hq
      refine lv_iconst (v := 0) hx hb dX4_sensitivity_66 (by decide) ?_
      exact J67 0 hq H locs ls hP hD hS (lv_sub hl [1, 0] rfl)
    · replace hq := (if_neg c_34).symm.trans hq
      refine lv_aload_n hx hb dX4_sensitivity_37 rfl (lv_at hl 1 rfl) ?_
      refine k_get (v := .ref no) (T := TX4) (C := RX4) (N := 11) cx hi_X4_sensitivity_4 hP 0 rfl rfl 5 (by decide) (by decide +kernel) rfl dX4_sensitivity_38 ?_
      refine lv_aload_n hx hb dX4_sensitivity_41 rfl (lv_at hl 1 rfl) ?_
      refine k_get (v := .ref no) (T := TX4) (C := RX4) (N := 11) cx hi_X4_sensitivity_4 hP 0 rfl rfl 5 (by decide) (by decide +kernel) rfl dX4_sensitivity_42 ?_
      refine lv_iconst (v := 2) hx hb dX4_sensitivity_45 (by decide) ?_
      refine k_iald (j := 2) cx hP 1 rfl (by decide) (by unfold vp_in; decide) dX4_sensitivity_46 ?_
      refine lv_iconst (v := 1) hx hb dX4_sensitivity_47 (by decide) ?_
      refine lv_iadd hx hb dX4_sensitivity_48 ?_
      refine lv_aload_n hx hb dX4_sensitivity_49 rfl (lv_at hl 1 rfl) ?_
      refine k_get (v := .ref no) (T := TX4) (C := RX4) (N := 11) cx hi_X4_sensitivity_4 hP 0 rfl rfl 5 (by decide) (by decide +kernel) rfl dX4_sensitivity_50 ?_
      refine lv_iconst (v := 4) hx hb dX4_sensitivity_53 (by decide) ?_
      refine k_iald (j := 4) cx hP 1 rfl (by decide) (by unfold vp_in; decide) dX4_sensitivity_54 ?_
      have hC := c_X4_trueOf l G no pn ((pn 2) + 1) (pn 4) (hpv) (rb_inc (pv_r hpv) c_34)
      refine k_i (ws' := [oMo m0 te re no tr di ke ik (upd mf 0 0), aI G no 101 pn]) (as := [no]) cx hP hD hS [1] rfl (kr_S (n := 3) (As := [.ref no, .int ((pn 2) + 1), .int (pn 4)]) cx hC gX4_sensitivity_X4_trueOf rfl rfl rfl (by decide +kernel) ⟨Nat.le_of_ble_eq_true rfl, Nat.le_of_ble_eq_true rfl⟩ hP hD [1] rfl rfl rfl rfl hl (Nat.le_of_ble_eq_true rfl) dX4_sensitivity_55 ⟨Nat.le_refl _, Nat.le_refl _⟩) ⟨rfl, rfl⟩ rfl (fun H locs hP hD hS => ?_)
      refine lv_iload_n hx hb dX4_sensitivity_58 rfl (lv_at hl 0 rfl) ?_
      refine lv_isub hx hb dX4_sensitivity_59 ?_
      have hC := c_X4_size l G ((P_X4_trueOf pn ((pn 2) + 1) (pn 4)) - (P_X4_trueOf pn (pn 2) (pn 4)))
      refine k_i (ws' := [oMo m0 te re no tr di ke ik (upd mf 0 0), aI G no 101 pn]) (as := []) cx hP hD hS [] rfl (kr_S (n := 1) (As := [.int ((P_X4_trueOf pn ((pn 2) + 1) (pn 4)) - (P_X4_trueOf pn (pn 2) (pn 4)))]) cx hC gX4_sensitivity_X4_size rfl rfl rfl (by decide +kernel) ⟨Nat.le_of_ble_eq_true rfl, Nat.le_of_ble_eq_true rfl⟩ hP hD [] rfl rfl rfl rfl hl (Nat.le_of_ble_eq_true rfl) dX4_sensitivity_60 ⟨Nat.le_refl _, Nat.le_refl _⟩) ⟨rfl, rfl⟩ rfl (fun H locs hP hD hS => ?_)
      refine lv_goto (tgt := 67) hx hb dX4_sensitivity_63 (by decide) ?_
      exact J67 (P_X4_size ((P_X4_trueOf pn ((pn 2) + 1) (pn 4)) - (P_X4_trueOf pn (pn 2) (pn 4)))) hq H locs ls hP hD hS (lv_sub hl [1, 0] rfl)
  subst hL
  subst hH
  subst hq
  exact key _ _ hP hD hS

/-! X4_offsetAfter -/
theorem hi_X4_offsetAfter_4 : ∀ w ∈ u_ws RX4 TX4 11, w ∈ wsX4_offsetAfter := by decide +kernel
abbrev rm_X4_offsetAfter : Room := { frames := 1, cells := 0, slots := 0, locals := 25 }
abbrev Q_X4_offsetAfter (G : gG) (m0 : Nat) (te : Nat) (re : Nat) (no : Nat) (tr : Nat) (di : Nat) (ke : Nat) (ik : Nat)  (pn : Nat → Int32) (tgt : Int32 × (Nat → Int32) × (Nat → Int32)) (below : List Frame) (args : Array Value) (s : State) (A : Nat → Prop) : State → Prop := MQ below (qI G tgt.1 [oMo m0 te re no tr di ke ik tgt.2.1, aI G no 101 pn, aI G tr 101 tgt.2.2] A) args s 0 0 A
def P_X4_offsetAfter_53 (pn : Nat → Int32) (pr : Int32) (wt : Int32) : Nat → Int32 → (Nat → Int32) → (Nat → Int32) → Int32 × (Nat → Int32) × (Nat → Int32)
  | 0, _, _, _ => (0, (fun _ => 0), (fun _ => 0))
  | n + 1, v3, mf, pt => (if pr ≤ v3 then (let u116 := P_X4_waitOn pt wt; ((P_X4_offsetOf u116), mf, u116)) else (let j104 := fun (j104_s0 : Int32) => (P_X4_offsetAfter_53 pn pr wt n (v3 + 1) mf (upd pt 7 j104_s0)); (if ((pt 7) + (pt 3)) ≤ 9999 then (j104 ((pt 7) + (pt 3))) else (j104 9999))))
set_option maxHeartbeats 4000000 in
set_option maxRecDepth 100000 in
theorem b_X4_offsetAfter_53 {p : Program} {l : Launch} {e : Env} {s : State} {m : MethodId} {args : Array Value} {below : List Frame} {meth : Method} {c : Code} {G : gG} {A : Nat → Prop} (cx : Cx p s m args meth c cX4_offsetAfter 4 yX4_offsetAfter.cls wsX4_offsetAfter (some .int) G A) (m0 : Nat) (te : Nat) (re : Nat) (no : Nat) (tr : Nat) (di : Nat) (ke : Nat) (ik : Nat) (pn : Nat → Int32) (pr : Int32) (wt : Int32)   (tgt : Int32 × (Nat → Int32) × (Nat → Int32)) : ∀ (n : Nat) (v3 : Int32) (mf : Nat → Int32) (pt : Nat → Int32) (h0 : ¬ v3 < 0) (hm : ((pr).toInt - (v3 : Int32).toInt).toNat < n) (hq : P_X4_offsetAfter_53  pn pr wt n v3 mf pt = tgt) (H : Heap) (locs : List Loc) (hP : va_P G.1 vwCl [oMo m0 te re no tr di ke ik mf, aI G no 101 pn, aI G tr 101 pt] H) (hD : va_D A [oMo m0 te re no tr di ke ik mf, aI G no 101 pn, aI G tr 101 pt]) (hS : va_S A s.heap H locs) (ls : Array Slot) (hl : lv_has ls 4 [(0, .ref m0), (1, .int pr), (2, .int wt), (3, .int v3)]), W p l e rm_X4_offsetAfter s m args below meth c H locs 0 0 (Q_X4_offsetAfter G m0 te re no tr di ke ik pn tgt below args s A) (F0 m 53 ls []) := by
  obtain ⟨hx, hb, hml, hown, hts, hr, hlocks, hK, hA⟩ := id cx
  intro n
  induction n with
  | zero => intros; omega
  | succ n ih =>
    intro v3 mf pt h0 hm hq H locs hP hD hS ls hl
    unfold P_X4_offsetAfter_53 at hq
    refine lv_iload_n hx hb dX4_offsetAfter_53 rfl (lv_at hl 3 rfl) ?_
    refine lv_iload_n hx hb dX4_offsetAfter_54 rfl (lv_at hl 1 rfl) ?_
    refine lv_icmp_ge (tgt := 111) hx hb dX4_offsetAfter_55 (by decide) (fun c_55 => ?_) (fun c_55 => ?_)
    · replace hq := (if_pos c_55).symm.trans hq
      refine lv_aload_n hx hb dX4_offsetAfter_111 rfl (lv_at hl 0 rfl) ?_
      refine k_get (v := .ref tr) (T := TX4) (C := RX4) (N := 11) cx hi_X4_offsetAfter_4 hP 0 rfl rfl 6 (by decide) (by decide +kernel) rfl dX4_offsetAfter_112 ?_
      refine lv_iload_n hx hb dX4_offsetAfter_115 rfl (lv_at hl 2 rfl) ?_
      have hC := c_X4_waitOn l G tr pt wt
      generalize hu116 : P_X4_waitOn pt wt = u116 at hC hq
      refine k_v (ws' := [oMo m0 te re no tr di ke ik mf, aI G no 101 pn, aI G tr 101 u116]) (as := [tr]) cx hP hD hS [2] rfl (kr_S (n := 2) (As := [.ref tr, .int wt]) cx hC gX4_offsetAfter_X4_waitOn rfl rfl rfl (by decide +kernel) ⟨Nat.le_of_ble_eq_true rfl, Nat.le_of_ble_eq_true rfl⟩ hP hD [2] rfl rfl rfl rfl hl (Nat.le_of_ble_eq_true rfl) dX4_offsetAfter_116 ⟨Nat.le_refl _, Nat.le_refl _⟩) ⟨rfl, rfl⟩ rfl (fun H locs hP hD hS => ?_)
      refine lv_aload_n hx hb dX4_offsetAfter_119 rfl (lv_at hl 0 rfl) ?_
      refine k_get (v := .ref tr) (T := TX4) (C := RX4) (N := 11) cx hi_X4_offsetAfter_4 hP 0 rfl rfl 6 (by decide) (by decide +kernel) rfl dX4_offsetAfter_120 ?_
      have hC := c_X4_offsetOf l G tr u116
      refine k_i (ws' := [oMo m0 te re no tr di ke ik mf, aI G no 101 pn, aI G tr 101 u116]) (as := [tr]) cx hP hD hS [2] rfl (kr_S (n := 1) (As := [.ref tr]) cx hC gX4_offsetAfter_X4_offsetOf rfl rfl rfl (by decide +kernel) ⟨Nat.le_of_ble_eq_true rfl, Nat.le_of_ble_eq_true rfl⟩ hP hD [2] rfl rfl rfl rfl hl (Nat.le_of_ble_eq_true rfl) dX4_offsetAfter_123 ⟨Nat.le_refl _, Nat.le_refl _⟩) ⟨rfl, rfl⟩ rfl (fun H locs hP hD hS => ?_)
      subst hq
      exact k_iret cx hP hS dX4_offsetAfter_126
    · replace hq := (if_neg c_55).symm.trans hq
      refine lv_aload_n hx hb dX4_offsetAfter_58 rfl (lv_at hl 0 rfl) ?_
      refine k_get (v := .ref tr) (T := TX4) (C := RX4) (N := 11) cx hi_X4_offsetAfter_4 hP 0 rfl rfl 6 (by decide) (by decide +kernel) rfl dX4_offsetAfter_59 ?_
      refine lv_bipush (v := 7) hx hb dX4_offsetAfter_62 (by decide) ?_
      refine lv_aload_n hx hb dX4_offsetAfter_64 rfl (lv_at hl 0 rfl) ?_
      refine k_get (v := .ref tr) (T := TX4) (C := RX4) (N := 11) cx hi_X4_offsetAfter_4 hP 0 rfl rfl 6 (by decide) (by decide +kernel) rfl dX4_offsetAfter_65 ?_
      refine lv_bipush (v := 7) hx hb dX4_offsetAfter_68 (by decide) ?_
      refine k_iald (j := 7) cx hP 2 rfl (by decide) (by unfold vp_in; decide) dX4_offsetAfter_70 ?_
      refine lv_aload_n hx hb dX4_offsetAfter_71 rfl (lv_at hl 0 rfl) ?_
      refine k_get (v := .ref tr) (T := TX4) (C := RX4) (N := 11) cx hi_X4_offsetAfter_4 hP 0 rfl rfl 6 (by decide) (by decide +kernel) rfl dX4_offsetAfter_72 ?_
      refine lv_iconst (v := 3) hx hb dX4_offsetAfter_75 (by decide) ?_
      refine k_iald (j := 3) cx hP 2 rfl (by decide) (by unfold vp_in; decide) dX4_offsetAfter_76 ?_
      refine lv_iadd hx hb dX4_offsetAfter_77 ?_
      refine lv_sipush (v := 9999) hx hb dX4_offsetAfter_78 (by decide) ?_
      have J104 : ∀ (j104_s0 : Int32), (P_X4_offsetAfter_53 pn pr wt n (v3 + 1) mf (upd pt 7 j104_s0)) = tgt → ∀ (H : Heap) (locs : List Loc) (ls : Array Slot), va_P G.1 vwCl [oMo m0 te re no tr di ke ik mf, aI G no 101 pn, aI G tr 101 pt] H → va_D A [oMo m0 te re no tr di ke ik mf, aI G no 101 pn, aI G tr 101 pt] → va_S A s.heap H locs → lv_has ls 4 [(0, .ref m0), (1, .int pr), (2, .int wt), (3, .int v3)] → W p l e rm_X4_offsetAfter s m args below meth c H locs 0 0 (Q_X4_offsetAfter G m0 te re no tr di ke ik pn tgt below args s A) (F0 m 104 ls [.int j104_s0, .int 7, .ref tr]) := by
        intro j104_s0 hq H locs ls hP hD hS hl
        refine k_iast (ws' := [oMo m0 te re no tr di ke ik mf, aI G no 101 pn, aI G tr 101 (upd pt 7 j104_s0)]) (j := 7) cx hP hD hS 2 rfl (by decide) (by unfold vp_in; decide) rfl dX4_offsetAfter_104 (fun H locs hP hD hS => ?_)
        refine lv_iinc (v := (v3 + 1)) (lv' := [(3, .int (v3 + 1)), (0, .ref m0), (1, .int pr), (2, .int wt)]) hx hb dX4_offsetAfter_105 hl (k := 3) rfl rfl (by decide) rfl (fun ls hl => ?_)
        refine lv_goto (tgt := 53) hx hb dX4_offsetAfter_108 (by decide) ?_
        exact ih (v3 + 1) mf (upd pt 7 j104_s0) (nn_inc h0 (N := pr) (by assumption)) (by have hmd := mu_up (N := pr) (by assumption); omega) hq H locs hP hD hS _ (lv_sub hl [1, 2, 3, 0] rfl)
      refine lv_icmp_le (tgt := 90) hx hb dX4_offsetAfter_81 (by decide) (fun c_81 => ?_) (fun c_81 => ?_)
      · replace hq := (if_pos c_81).symm.trans hq
        refine lv_aload_n hx hb dX4_offsetAfter_90 rfl (lv_at hl 0 rfl) ?_
        refine k_get (v := .ref tr) (T := TX4) (C := RX4) (N := 11) cx hi_X4_offsetAfter_4 hP 0 rfl rfl 6 (by decide) (by decide +kernel) rfl dX4_offsetAfter_91 ?_
        refine lv_bipush (v := 7) hx hb dX4_offsetAfter_94 (by decide) ?_
        refine k_iald (j := 7) cx hP 2 rfl (by decide) (by unfold vp_in; decide) dX4_offsetAfter_96 ?_
        refine lv_aload_n hx hb dX4_offsetAfter_97 rfl (lv_at hl 0 rfl) ?_
        refine k_get (v := .ref tr) (T := TX4) (C := RX4) (N := 11) cx hi_X4_offsetAfter_4 hP 0 rfl rfl 6 (by decide) (by decide +kernel) rfl dX4_offsetAfter_98 ?_
        refine lv_iconst (v := 3) hx hb dX4_offsetAfter_101 (by decide) ?_
        refine k_iald (j := 3) cx hP 2 rfl (by decide) (by unfold vp_in; decide) dX4_offsetAfter_102 ?_
        refine lv_iadd hx hb dX4_offsetAfter_103 ?_
        exact J104 ((pt 7) + (pt 3)) hq H locs ls hP hD hS (lv_sub hl [0, 1, 2, 3] rfl)
      · replace hq := (if_neg c_81).symm.trans hq
        refine lv_sipush (v := 9999) hx hb dX4_offsetAfter_84 (by decide) ?_
        refine lv_goto (tgt := 104) hx hb dX4_offsetAfter_87 (by decide) ?_
        exact J104 9999 hq H locs ls hP hD hS (lv_sub hl [0, 1, 2, 3] rfl)
def P_X4_offsetAfter (mf : Nat → Int32) (pn : Nat → Int32) (pt : Nat → Int32) (pr : Int32) (wt : Int32) : Int32 × (Nat → Int32) × (Nat → Int32) := (let j29 := fun (_ : Unit) => (0, (upd mf 0 1), pt); (if (P_X4_in ((pr).toInt64) 0 99) = 0 then (j29 ()) else (if (P_X4_in ((wt).toInt64) 0 200) = 0 then (j29 ()) else (let u48 := P_X4_copyPage 101 101 pn pt 0 0; (P_X4_offsetAfter_53 pn pr wt (((pr).toInt - (0 : Int32).toInt).toNat + 1) 0 (upd mf 0 0) u48)))))
set_option maxHeartbeats 4000000 in
set_option maxRecDepth 100000 in
theorem c_X4_offsetAfter (l : Launch) (G : gG) (m0 : Nat) (te : Nat) (re : Nat) (no : Nat) (tr : Nat) (di : Nat) (ke : Nat) (ik : Nat) (mf : Nat → Int32) (pn : Nat → Int32) (pt : Nat → Int32) (pr : Int32) (wt : Int32)  : kM l G yX4_offsetAfter wsX4_offsetAfter rm_X4_offsetAfter [.ref m0, .int pr, .int wt] [oMo m0 te re no tr di ke ik mf, aI G no 101 pn, aI G tr 101 pt] (qI G ((P_X4_offsetAfter mf pn pt pr wt).1) [oMo m0 te re no tr di ke ik ((P_X4_offsetAfter mf pn pt pr wt).2.1), aI G no 101 pn, aI G tr 101 ((P_X4_offsetAfter mf pn pt pr wt).2.2)]) := by
  refine k_body (cc := cX4_offsetAfter) (nL := 4) (ret := (some .int)) (by decide) rfl (Nat.le_of_ble_eq_true rfl) ?_
  intro p e s m args below meth c A cx hP hD hS ls hl
  obtain ⟨hx, hb, hml, hown, hts, hr, hlocks, hK, hA⟩ := id cx
  obtain ⟨H, hH⟩ : ∃ H, H = s.heap := ⟨_, rfl⟩
  obtain ⟨locs, hL⟩ : ∃ locs : List Loc, locs = [] := ⟨_, rfl⟩
  obtain ⟨tgt, hq⟩ : ∃ tgt, (P_X4_offsetAfter mf pn pt pr wt) = tgt := ⟨_, rfl⟩
  have hS : va_S A s.heap H locs := by rw [hH, hL]; exact hS
  rw [← hH] at hP
  have hl : lv_has ls 4 [(0, .ref m0), (1, .int pr), (2, .int wt)] := hl
  have key : ∀ (H : Heap) (locs : List Loc), va_P G.1 vwCl [oMo m0 te re no tr di ke ik mf, aI G no 101 pn, aI G tr 101 pt] H → va_D A [oMo m0 te re no tr di ke ik mf, aI G no 101 pn, aI G tr 101 pt] → va_S A s.heap H locs → W p l e rm_X4_offsetAfter s m args below meth c H locs 0 0 (Q_X4_offsetAfter G m0 te re no tr di ke ik pn tgt below args s A) (F0 m 0 ls []) := by
    clear hP hD hS hH hL
    intro H locs hP hD hS
    unfold P_X4_offsetAfter at hq
    refine lv_aload_n hx hb dX4_offsetAfter_0 rfl (lv_at hl 0 rfl) ?_
    refine lv_iload_n hx hb dX4_offsetAfter_1 rfl (lv_at hl 1 rfl) ?_
    refine lv_i2l hx hb dX4_offsetAfter_2 rfl ?_
    refine lv_lconst (v := 0) hx hb dX4_offsetAfter_3 (by decide) ?_
    refine k_ldc2 (v := 99) cx (by decide +kernel) dX4_offsetAfter_4 ?_
    have hC := c_X4_in l G ((pr).toInt64) 0 99
    refine k_i (ws' := [oMo m0 te re no tr di ke ik mf, aI G no 101 pn, aI G tr 101 pt]) (as := []) cx hP hD hS [] rfl (kr_S (n := 3) (As := [.long (pr).toInt64, .long 0, .long 99]) cx hC gX4_offsetAfter_X4_in rfl rfl rfl (by decide +kernel) ⟨Nat.le_of_ble_eq_true rfl, Nat.le_of_ble_eq_true rfl⟩ hP hD [] rfl rfl rfl rfl hl (Nat.le_of_ble_eq_true rfl) dX4_offsetAfter_7 ⟨Nat.le_refl _, Nat.le_refl _⟩) ⟨rfl, rfl⟩ rfl (fun H locs hP hD hS => ?_)
    have J29 : ∀ (_ : Unit), (0, (upd mf 0 1), pt) = tgt → ∀ (H : Heap) (locs : List Loc) (ls : Array Slot), va_P G.1 vwCl [oMo m0 te re no tr di ke ik mf, aI G no 101 pn, aI G tr 101 pt] H → va_D A [oMo m0 te re no tr di ke ik mf, aI G no 101 pn, aI G tr 101 pt] → va_S A s.heap H locs → lv_has ls 4 [(0, .ref m0), (1, .int pr), (2, .int wt)] → W p l e rm_X4_offsetAfter s m args below meth c H locs 0 0 (Q_X4_offsetAfter G m0 te re no tr di ke ik pn tgt below args s A) (F0 m 29 ls [.ref m0]) := by
      intro _ hq H locs ls hP hD hS hl
      refine lv_iconst (v := 1) hx hb dX4_offsetAfter_29 (by decide) ?_
      have hC := c_X4_refused l G m0 te re no tr di ke ik mf 1
      rw [ref_1] at hC
      refine k_i (r := 1) (ws' := [oMo m0 te re no tr di ke ik (upd mf 0 1), aI G no 101 pn, aI G tr 101 pt]) (as := [m0]) cx hP hD hS [0] rfl (kr_V (n := 1) (As := [.int 1]) (ci := 4) cx hC gX4_offsetAfter_X4_refused rfl rfl rfl (by decide +kernel) ⟨Nat.le_of_ble_eq_true rfl, Nat.le_of_ble_eq_true rfl⟩ rfl rfl rfl hP hD [0] rfl rfl rfl rfl hl (Nat.le_of_ble_eq_true rfl) dX4_offsetAfter_30 ⟨Nat.le_refl _, Nat.le_refl _⟩) ⟨rfl, rfl⟩ rfl (fun H locs hP hD hS => ?_)
      refine lv_if_eq (tgt := 38) hx hb dX4_offsetAfter_33 (by decide) (fun cz => absurd cz (by decide)) (fun _ => ?_)
      refine lv_iconst (v := 0) hx hb dX4_offsetAfter_36 (by decide) ?_
      subst hq
      exact k_iret cx hP hS dX4_offsetAfter_37
    refine lv_if_eq (tgt := 29) hx hb dX4_offsetAfter_10 (by decide) (fun c_10 => ?_) (fun c_10 => ?_)
    · replace hq := (if_pos c_10).symm.trans hq
      exact J29 () hq H locs ls hP hD hS (lv_sub hl [0, 1, 2] rfl)
    · replace hq := (if_neg c_10).symm.trans hq
      refine lv_iload_n hx hb dX4_offsetAfter_13 rfl (lv_at hl 2 rfl) ?_
      refine lv_i2l hx hb dX4_offsetAfter_14 rfl ?_
      refine lv_lconst (v := 0) hx hb dX4_offsetAfter_15 (by decide) ?_
      refine k_ldc2 (v := 200) cx (by decide +kernel) dX4_offsetAfter_16 ?_
      have hC := c_X4_in l G ((wt).toInt64) 0 200
      refine k_i (ws' := [oMo m0 te re no tr di ke ik mf, aI G no 101 pn, aI G tr 101 pt]) (as := []) cx hP hD hS [] rfl (kr_S (n := 3) (As := [.long (wt).toInt64, .long 0, .long 200]) cx hC gX4_offsetAfter_X4_in rfl rfl rfl (by decide +kernel) ⟨Nat.le_of_ble_eq_true rfl, Nat.le_of_ble_eq_true rfl⟩ hP hD [] rfl rfl rfl rfl hl (Nat.le_of_ble_eq_true rfl) dX4_offsetAfter_19 ⟨Nat.le_refl _, Nat.le_refl _⟩) ⟨rfl, rfl⟩ rfl (fun H locs hP hD hS => ?_)
      refine lv_if_eq (tgt := 29) hx hb dX4_offsetAfter_22 (by decide) (fun c_22 => ?_) (fun c_22 => ?_)
      · replace hq := (if_pos c_22).symm.trans hq
        exact J29 () hq H locs ls hP hD hS (lv_sub hl [0, 1, 2] rfl)
      · replace hq := (if_neg c_22).symm.trans hq
        refine lv_iconst (v := 0) hx hb dX4_offsetAfter_25 (by decide) ?_
        refine lv_goto (tgt := 30) hx hb dX4_offsetAfter_26 (by decide) ?_
        have hC := c_X4_refused l G m0 te re no tr di ke ik mf 0
        rw [ref_0] at hC
        refine k_i (r := 0) (ws' := [oMo m0 te re no tr di ke ik (upd mf 0 0), aI G no 101 pn, aI G tr 101 pt]) (as := [m0]) cx hP hD hS [0] rfl (kr_V (n := 1) (As := [.int 0]) (ci := 4) cx hC gX4_offsetAfter_X4_refused rfl rfl rfl (by decide +kernel) ⟨Nat.le_of_ble_eq_true rfl, Nat.le_of_ble_eq_true rfl⟩ rfl rfl rfl hP hD [0] rfl rfl rfl rfl hl (Nat.le_of_ble_eq_true rfl) dX4_offsetAfter_30 ⟨Nat.le_refl _, Nat.le_refl _⟩) ⟨rfl, rfl⟩ rfl (fun H locs hP hD hS => ?_)
        refine lv_if_eq (tgt := 38) hx hb dX4_offsetAfter_33 (by decide) (fun _ => ?_) (fun cz => absurd (by decide) cz)
        refine lv_aload_n hx hb dX4_offsetAfter_38 rfl (lv_at hl 0 rfl) ?_
        refine k_get (v := .ref no) (T := TX4) (C := RX4) (N := 11) cx hi_X4_offsetAfter_4 hP 0 rfl rfl 5 (by decide) (by decide +kernel) rfl dX4_offsetAfter_39 ?_
        refine lv_iconst (v := 0) hx hb dX4_offsetAfter_42 (by decide) ?_
        refine lv_aload_n hx hb dX4_offsetAfter_43 rfl (lv_at hl 0 rfl) ?_
        refine k_get (v := .ref tr) (T := TX4) (C := RX4) (N := 11) cx hi_X4_offsetAfter_4 hP 0 rfl rfl 6 (by decide) (by decide +kernel) rfl dX4_offsetAfter_44 ?_
        refine lv_iconst (v := 0) hx hb dX4_offsetAfter_47 (by decide) ?_
        have hC := c_X4_copyPage l G no tr 101 101 pn pt 0 0 (by first | exact cp0 | assumption) (by first | exact cp0 | assumption)
        generalize hu48 : P_X4_copyPage 101 101 pn pt 0 0 = u48 at hC hq
        refine k_v (ws' := [oMo m0 te re no tr di ke ik (upd mf 0 0), aI G no 101 pn, aI G tr 101 u48]) (as := [no, tr]) cx hP hD hS [1, 2] rfl (kr_S (n := 4) (As := [.ref no, .int 0, .ref tr, .int 0]) cx hC gX4_offsetAfter_X4_copyPage rfl rfl rfl (by decide +kernel) ⟨Nat.le_of_ble_eq_true rfl, Nat.le_of_ble_eq_true rfl⟩ hP hD [1, 2] rfl rfl rfl rfl hl (Nat.le_of_ble_eq_true rfl) dX4_offsetAfter_48 ⟨Nat.le_refl _, Nat.le_refl _⟩) ⟨rfl, rfl⟩ rfl (fun H locs hP hD hS => ?_)
        refine lv_iconst (v := 0) hx hb dX4_offsetAfter_51 (by decide) ?_
        refine lv_istore_n (lv' := [(3, .int 0), (0, .ref m0), (1, .int pr), (2, .int wt)]) hx hb dX4_offsetAfter_52 rfl hl (by decide) rfl (fun ls hl => ?_)
        exact b_X4_offsetAfter_53 cx m0 te re no tr di ke ik pn pr wt  tgt (((pr).toInt - (0 : Int32).toInt).toNat + 1) 0 (upd mf 0 0) u48 (by decide) (Nat.lt_succ_self _) hq H locs hP hD hS _ (lv_sub hl [1, 2, 3, 0] rfl)
  subst hL
  subst hH
  subst hq
  exact key _ _ hP hD hS

/-! X4_waitFor -/
theorem hi_X4_waitFor_4 : ∀ w ∈ u_ws RX4 TX4 11, w ∈ wsX4_waitFor := by decide +kernel
abbrev rm_X4_waitFor : Room := { frames := 1, cells := 0, slots := 0, locals := 25 }
abbrev Q_X4_waitFor (G : gG) (m0 : Nat) (te : Nat) (re : Nat) (no : Nat) (tr : Nat) (di : Nat) (ke : Nat) (ik : Nat)  (pn : Nat → Int32) (tgt : Int32 × (Nat → Int32) × (Nat → Int32)) (below : List Frame) (args : Array Value) (s : State) (A : Nat → Prop) : State → Prop := MQ below (qI G tgt.1 [oMo m0 te re no tr di ke ik tgt.2.1, aI G no 101 pn, aI G tr 101 tgt.2.2] A) args s 0 0 A
def P_X4_waitFor_43 (pn : Nat → Int32) (off : Int32) : Nat → Int32 → (Nat → Int32) → (Nat → Int32) → Int32 × (Nat → Int32) × (Nat → Int32)
  | 0, _, _, _ => (0, (fun _ => 0), (fun _ => 0))
  | n + 1, v2, mf, pt => (if 200 < v2 then ((-9999), mf, pt) else (if off < (P_X4_offsetOf pt) then (let u68 := P_X4_waitOn pt 1; (P_X4_waitFor_43 pn off n (v2 + 1) mf u68)) else (v2, mf, pt)))
set_option maxHeartbeats 4000000 in
set_option maxRecDepth 100000 in
theorem b_X4_waitFor_43 {p : Program} {l : Launch} {e : Env} {s : State} {m : MethodId} {args : Array Value} {below : List Frame} {meth : Method} {c : Code} {G : gG} {A : Nat → Prop} (cx : Cx p s m args meth c cX4_waitFor 3 yX4_waitFor.cls wsX4_waitFor (some .int) G A) (m0 : Nat) (te : Nat) (re : Nat) (no : Nat) (tr : Nat) (di : Nat) (ke : Nat) (ik : Nat) (pn : Nat → Int32) (off : Int32)   (tgt : Int32 × (Nat → Int32) × (Nat → Int32)) : ∀ (n : Nat) (v2 : Int32) (mf : Nat → Int32) (pt : Nat → Int32)  (hm : (201 - (v2 : Int32).toInt).toNat < n) (hq : P_X4_waitFor_43  pn off n v2 mf pt = tgt) (H : Heap) (locs : List Loc) (hP : va_P G.1 vwCl [oMo m0 te re no tr di ke ik mf, aI G no 101 pn, aI G tr 101 pt] H) (hD : va_D A [oMo m0 te re no tr di ke ik mf, aI G no 101 pn, aI G tr 101 pt]) (hS : va_S A s.heap H locs) (ls : Array Slot) (hl : lv_has ls 3 [(0, .ref m0), (1, .int off), (2, .int v2)]), W p l e rm_X4_waitFor s m args below meth c H locs 0 0 (Q_X4_waitFor G m0 te re no tr di ke ik pn tgt below args s A) (F0 m 43 ls []) := by
  obtain ⟨hx, hb, hml, hown, hts, hr, hlocks, hK, hA⟩ := id cx
  intro n
  induction n with
  | zero => intros; omega
  | succ n ih =>
    intro v2 mf pt  hm hq H locs hP hD hS ls hl
    unfold P_X4_waitFor_43 at hq
    refine lv_iload_n hx hb dX4_waitFor_43 rfl (lv_at hl 2 rfl) ?_
    refine lv_sipush (v := 200) hx hb dX4_waitFor_44 (by decide) ?_
    refine lv_icmp_gt (tgt := 77) hx hb dX4_waitFor_47 (by decide) (fun c_47 => ?_) (fun c_47 => ?_)
    · replace hq := (if_pos c_47).symm.trans hq
      refine lv_sipush (v := (-9999)) hx hb dX4_waitFor_77 (by decide) ?_
      subst hq
      exact k_iret cx hP hS dX4_waitFor_80
    · replace hq := (if_neg c_47).symm.trans hq
      refine lv_aload_n hx hb dX4_waitFor_50 rfl (lv_at hl 0 rfl) ?_
      refine k_get (v := .ref tr) (T := TX4) (C := RX4) (N := 11) cx hi_X4_waitFor_4 hP 0 rfl rfl 6 (by decide) (by decide +kernel) rfl dX4_waitFor_51 ?_
      have hC := c_X4_offsetOf l G tr pt
      refine k_i (ws' := [oMo m0 te re no tr di ke ik mf, aI G no 101 pn, aI G tr 101 pt]) (as := [tr]) cx hP hD hS [2] rfl (kr_S (n := 1) (As := [.ref tr]) cx hC gX4_waitFor_X4_offsetOf rfl rfl rfl (by decide +kernel) ⟨Nat.le_of_ble_eq_true rfl, Nat.le_of_ble_eq_true rfl⟩ hP hD [2] rfl rfl rfl rfl hl (Nat.le_of_ble_eq_true rfl) dX4_waitFor_54 ⟨Nat.le_refl _, Nat.le_refl _⟩) ⟨rfl, rfl⟩ rfl (fun H locs hP hD hS => ?_)
      refine lv_iload_n hx hb dX4_waitFor_57 rfl (lv_at hl 1 rfl) ?_
      refine lv_icmp_gt (tgt := 63) hx hb dX4_waitFor_58 (by decide) (fun c_58 => ?_) (fun c_58 => ?_)
      · replace hq := (if_pos c_58).symm.trans hq
        refine lv_aload_n hx hb dX4_waitFor_63 rfl (lv_at hl 0 rfl) ?_
        refine k_get (v := .ref tr) (T := TX4) (C := RX4) (N := 11) cx hi_X4_waitFor_4 hP 0 rfl rfl 6 (by decide) (by decide +kernel) rfl dX4_waitFor_64 ?_
        refine lv_iconst (v := 1) hx hb dX4_waitFor_67 (by decide) ?_
        have hC := c_X4_waitOn l G tr pt 1
        generalize hu68 : P_X4_waitOn pt 1 = u68 at hC hq
        refine k_v (ws' := [oMo m0 te re no tr di ke ik mf, aI G no 101 pn, aI G tr 101 u68]) (as := [tr]) cx hP hD hS [2] rfl (kr_S (n := 2) (As := [.ref tr, .int 1]) cx hC gX4_waitFor_X4_waitOn rfl rfl rfl (by decide +kernel) ⟨Nat.le_of_ble_eq_true rfl, Nat.le_of_ble_eq_true rfl⟩ hP hD [2] rfl rfl rfl rfl hl (Nat.le_of_ble_eq_true rfl) dX4_waitFor_68 ⟨Nat.le_refl _, Nat.le_refl _⟩) ⟨rfl, rfl⟩ rfl (fun H locs hP hD hS => ?_)
        refine lv_iinc (v := (v2 + 1)) (lv' := [(2, .int (v2 + 1)), (0, .ref m0), (1, .int off)]) hx hb dX4_waitFor_71 hl (k := 2) rfl rfl (by decide) rfl (fun ls hl => ?_)
        refine lv_goto (tgt := 43) hx hb dX4_waitFor_74 (by decide) ?_
        exact ih (v2 + 1) mf u68  (by have hmd := mu_le200 (by assumption); omega) hq H locs hP hD hS _ (lv_sub hl [1, 2, 0] rfl)
      · replace hq := (if_neg c_58).symm.trans hq
        refine lv_iload_n hx hb dX4_waitFor_61 rfl (lv_at hl 2 rfl) ?_
        subst hq
        exact k_iret cx hP hS dX4_waitFor_62
def P_X4_waitFor (mf : Nat → Int32) (pn : Nat → Int32) (pt : Nat → Int32) (off : Int32) : Int32 × (Nat → Int32) × (Nat → Int32) := (if (P_X4_in ((off).toInt64) (-50) 300) = 0 then (0, (upd mf 0 1), pt) else (let u38 := P_X4_copyPage 101 101 pn pt 0 0; (P_X4_waitFor_43 pn off ((201 - (0 : Int32).toInt).toNat + 1) 0 (upd mf 0 0) u38)))
set_option maxHeartbeats 4000000 in
set_option maxRecDepth 100000 in
theorem c_X4_waitFor (l : Launch) (G : gG) (m0 : Nat) (te : Nat) (re : Nat) (no : Nat) (tr : Nat) (di : Nat) (ke : Nat) (ik : Nat) (mf : Nat → Int32) (pn : Nat → Int32) (pt : Nat → Int32) (off : Int32)  : kM l G yX4_waitFor wsX4_waitFor rm_X4_waitFor [.ref m0, .int off] [oMo m0 te re no tr di ke ik mf, aI G no 101 pn, aI G tr 101 pt] (qI G ((P_X4_waitFor mf pn pt off).1) [oMo m0 te re no tr di ke ik ((P_X4_waitFor mf pn pt off).2.1), aI G no 101 pn, aI G tr 101 ((P_X4_waitFor mf pn pt off).2.2)]) := by
  refine k_body (cc := cX4_waitFor) (nL := 3) (ret := (some .int)) (by decide) rfl (Nat.le_of_ble_eq_true rfl) ?_
  intro p e s m args below meth c A cx hP hD hS ls hl
  obtain ⟨hx, hb, hml, hown, hts, hr, hlocks, hK, hA⟩ := id cx
  obtain ⟨H, hH⟩ : ∃ H, H = s.heap := ⟨_, rfl⟩
  obtain ⟨locs, hL⟩ : ∃ locs : List Loc, locs = [] := ⟨_, rfl⟩
  obtain ⟨tgt, hq⟩ : ∃ tgt, (P_X4_waitFor mf pn pt off) = tgt := ⟨_, rfl⟩
  have hS : va_S A s.heap H locs := by rw [hH, hL]; exact hS
  rw [← hH] at hP
  have hl : lv_has ls 3 [(0, .ref m0), (1, .int off)] := hl
  have key : ∀ (H : Heap) (locs : List Loc), va_P G.1 vwCl [oMo m0 te re no tr di ke ik mf, aI G no 101 pn, aI G tr 101 pt] H → va_D A [oMo m0 te re no tr di ke ik mf, aI G no 101 pn, aI G tr 101 pt] → va_S A s.heap H locs → W p l e rm_X4_waitFor s m args below meth c H locs 0 0 (Q_X4_waitFor G m0 te re no tr di ke ik pn tgt below args s A) (F0 m 0 ls []) := by
    clear hP hD hS hH hL
    intro H locs hP hD hS
    unfold P_X4_waitFor at hq
    refine lv_aload_n hx hb dX4_waitFor_0 rfl (lv_at hl 0 rfl) ?_
    refine lv_iload_n hx hb dX4_waitFor_1 rfl (lv_at hl 1 rfl) ?_
    refine lv_i2l hx hb dX4_waitFor_2 rfl ?_
    refine k_ldc2 (v := (-50)) cx (by decide +kernel) dX4_waitFor_3 ?_
    refine k_ldc2 (v := 300) cx (by decide +kernel) dX4_waitFor_6 ?_
    have hC := c_X4_in l G ((off).toInt64) (-50) 300
    refine k_i (ws' := [oMo m0 te re no tr di ke ik mf, aI G no 101 pn, aI G tr 101 pt]) (as := []) cx hP hD hS [] rfl (kr_S (n := 3) (As := [.long (off).toInt64, .long (-50), .long 300]) cx hC gX4_waitFor_X4_in rfl rfl rfl (by decide +kernel) ⟨Nat.le_of_ble_eq_true rfl, Nat.le_of_ble_eq_true rfl⟩ hP hD [] rfl rfl rfl rfl hl (Nat.le_of_ble_eq_true rfl) dX4_waitFor_9 ⟨Nat.le_refl _, Nat.le_refl _⟩) ⟨rfl, rfl⟩ rfl (fun H locs hP hD hS => ?_)
    refine lv_if_eq (tgt := 19) hx hb dX4_waitFor_12 (by decide) (fun c_12 => ?_) (fun c_12 => ?_)
    · replace hq := (if_pos c_12).symm.trans hq
      refine lv_iconst (v := 1) hx hb dX4_waitFor_19 (by decide) ?_
      have hC := c_X4_refused l G m0 te re no tr di ke ik mf 1
      rw [ref_1] at hC
      refine k_i (r := 1) (ws' := [oMo m0 te re no tr di ke ik (upd mf 0 1), aI G no 101 pn, aI G tr 101 pt]) (as := [m0]) cx hP hD hS [0] rfl (kr_V (n := 1) (As := [.int 1]) (ci := 4) cx hC gX4_waitFor_X4_refused rfl rfl rfl (by decide +kernel) ⟨Nat.le_of_ble_eq_true rfl, Nat.le_of_ble_eq_true rfl⟩ rfl rfl rfl hP hD [0] rfl rfl rfl rfl hl (Nat.le_of_ble_eq_true rfl) dX4_waitFor_20 ⟨Nat.le_refl _, Nat.le_refl _⟩) ⟨rfl, rfl⟩ rfl (fun H locs hP hD hS => ?_)
      refine lv_if_eq (tgt := 28) hx hb dX4_waitFor_23 (by decide) (fun cz => absurd cz (by decide)) (fun _ => ?_)
      refine lv_iconst (v := 0) hx hb dX4_waitFor_26 (by decide) ?_
      subst hq
      exact k_iret cx hP hS dX4_waitFor_27
    · replace hq := (if_neg c_12).symm.trans hq
      refine lv_iconst (v := 0) hx hb dX4_waitFor_15 (by decide) ?_
      refine lv_goto (tgt := 20) hx hb dX4_waitFor_16 (by decide) ?_
      have hC := c_X4_refused l G m0 te re no tr di ke ik mf 0
      rw [ref_0] at hC
      refine k_i (r := 0) (ws' := [oMo m0 te re no tr di ke ik (upd mf 0 0), aI G no 101 pn, aI G tr 101 pt]) (as := [m0]) cx hP hD hS [0] rfl (kr_V (n := 1) (As := [.int 0]) (ci := 4) cx hC gX4_waitFor_X4_refused rfl rfl rfl (by decide +kernel) ⟨Nat.le_of_ble_eq_true rfl, Nat.le_of_ble_eq_true rfl⟩ rfl rfl rfl hP hD [0] rfl rfl rfl rfl hl (Nat.le_of_ble_eq_true rfl) dX4_waitFor_20 ⟨Nat.le_refl _, Nat.le_refl _⟩) ⟨rfl, rfl⟩ rfl (fun H locs hP hD hS => ?_)
      refine lv_if_eq (tgt := 28) hx hb dX4_waitFor_23 (by decide) (fun _ => ?_) (fun cz => absurd (by decide) cz)
      refine lv_aload_n hx hb dX4_waitFor_28 rfl (lv_at hl 0 rfl) ?_
      refine k_get (v := .ref no) (T := TX4) (C := RX4) (N := 11) cx hi_X4_waitFor_4 hP 0 rfl rfl 5 (by decide) (by decide +kernel) rfl dX4_waitFor_29 ?_
      refine lv_iconst (v := 0) hx hb dX4_waitFor_32 (by decide) ?_
      refine lv_aload_n hx hb dX4_waitFor_33 rfl (lv_at hl 0 rfl) ?_
      refine k_get (v := .ref tr) (T := TX4) (C := RX4) (N := 11) cx hi_X4_waitFor_4 hP 0 rfl rfl 6 (by decide) (by decide +kernel) rfl dX4_waitFor_34 ?_
      refine lv_iconst (v := 0) hx hb dX4_waitFor_37 (by decide) ?_
      have hC := c_X4_copyPage l G no tr 101 101 pn pt 0 0 (by first | exact cp0 | assumption) (by first | exact cp0 | assumption)
      generalize hu38 : P_X4_copyPage 101 101 pn pt 0 0 = u38 at hC hq
      refine k_v (ws' := [oMo m0 te re no tr di ke ik (upd mf 0 0), aI G no 101 pn, aI G tr 101 u38]) (as := [no, tr]) cx hP hD hS [1, 2] rfl (kr_S (n := 4) (As := [.ref no, .int 0, .ref tr, .int 0]) cx hC gX4_waitFor_X4_copyPage rfl rfl rfl (by decide +kernel) ⟨Nat.le_of_ble_eq_true rfl, Nat.le_of_ble_eq_true rfl⟩ hP hD [1, 2] rfl rfl rfl rfl hl (Nat.le_of_ble_eq_true rfl) dX4_waitFor_38 ⟨Nat.le_refl _, Nat.le_refl _⟩) ⟨rfl, rfl⟩ rfl (fun H locs hP hD hS => ?_)
      refine lv_iconst (v := 0) hx hb dX4_waitFor_41 (by decide) ?_
      refine lv_istore_n (lv' := [(2, .int 0), (0, .ref m0), (1, .int off)]) hx hb dX4_waitFor_42 rfl hl (by decide) rfl (fun ls hl => ?_)
      exact b_X4_waitFor_43 cx m0 te re no tr di ke ik pn off  tgt ((201 - (0 : Int32).toInt).toNat + 1) 0 (upd mf 0 0) u38  (Nat.lt_succ_self _) hq H locs hP hD hS _ (lv_sub hl [1, 2, 0] rfl)
  subst hL
  subst hH
  subst hq
  exact key _ _ hP hD hS

/-! X4_save -/
theorem hi_X4_save_4 : ∀ w ∈ u_ws RX4 TX4 11, w ∈ wsX4_save := by decide +kernel
abbrev rm_X4_save : Room := { frames := 1, cells := 0, slots := 0, locals := 25 }
abbrev Q_X4_save (G : gG) (m0 : Nat) (te : Nat) (re : Nat) (no : Nat) (tr : Nat) (di : Nat) (ke : Nat) (ik : Nat)  (pn : Nat → Int32) (tgt : Int32 × (Nat → Int32) × (Nat → Int32) × (Nat → Int32)) (below : List Frame) (args : Array Value) (s : State) (A : Nat → Prop) : State → Prop := MQ below (qI G tgt.1 [oMo m0 te re no tr di ke ik tgt.2.1, aI G no 101 pn, aI G ke 202 tgt.2.2.1, aZ G ik 2 tgt.2.2.2] A) args s 0 0 A
def P_X4_save (mf : Nat → Int32) (pn : Nat → Int32) (kk : Nat → Int32) (ki : Nat → Int32) (sl : Int32) : Int32 × (Nat → Int32) × (Nat → Int32) × (Nat → Int32) := (if (P_X4_in ((sl).toInt64) 0 1) = 0 then (0, (upd mf 0 1), kk, ki) else (let u44 := P_X4_copyPage 101 202 pn kk 0 (101 * sl); ((pn 8), (upd mf 0 0), u44, (upd ki sl.toNatClampNeg 1))))
set_option maxHeartbeats 4000000 in
set_option maxRecDepth 100000 in
theorem c_X4_save (l : Launch) (G : gG) (m0 : Nat) (te : Nat) (re : Nat) (no : Nat) (tr : Nat) (di : Nat) (ke : Nat) (ik : Nat) (mf : Nat → Int32) (pn : Nat → Int32) (kk : Nat → Int32) (ki : Nat → Int32) (sl : Int32)  : kM l G yX4_save wsX4_save rm_X4_save [.ref m0, .int sl] [oMo m0 te re no tr di ke ik mf, aI G no 101 pn, aI G ke 202 kk, aZ G ik 2 ki] (qI G ((P_X4_save mf pn kk ki sl).1) [oMo m0 te re no tr di ke ik ((P_X4_save mf pn kk ki sl).2.1), aI G no 101 pn, aI G ke 202 ((P_X4_save mf pn kk ki sl).2.2.1), aZ G ik 2 ((P_X4_save mf pn kk ki sl).2.2.2)]) := by
  refine k_body (cc := cX4_save) (nL := 2) (ret := (some .int)) (by decide) rfl (Nat.le_of_ble_eq_true rfl) ?_
  intro p e s m args below meth c A cx hP hD hS ls hl
  obtain ⟨hx, hb, hml, hown, hts, hr, hlocks, hK, hA⟩ := id cx
  obtain ⟨H, hH⟩ : ∃ H, H = s.heap := ⟨_, rfl⟩
  obtain ⟨locs, hL⟩ : ∃ locs : List Loc, locs = [] := ⟨_, rfl⟩
  obtain ⟨tgt, hq⟩ : ∃ tgt, (P_X4_save mf pn kk ki sl) = tgt := ⟨_, rfl⟩
  have hS : va_S A s.heap H locs := by rw [hH, hL]; exact hS
  rw [← hH] at hP
  have hl : lv_has ls 2 [(0, .ref m0), (1, .int sl)] := hl
  have key : ∀ (H : Heap) (locs : List Loc), va_P G.1 vwCl [oMo m0 te re no tr di ke ik mf, aI G no 101 pn, aI G ke 202 kk, aZ G ik 2 ki] H → va_D A [oMo m0 te re no tr di ke ik mf, aI G no 101 pn, aI G ke 202 kk, aZ G ik 2 ki] → va_S A s.heap H locs → W p l e rm_X4_save s m args below meth c H locs 0 0 (Q_X4_save G m0 te re no tr di ke ik pn tgt below args s A) (F0 m 0 ls []) := by
    clear hP hD hS hH hL
    intro H locs hP hD hS
    unfold P_X4_save at hq
    refine lv_aload_n hx hb dX4_save_0 rfl (lv_at hl 0 rfl) ?_
    refine lv_iload_n hx hb dX4_save_1 rfl (lv_at hl 1 rfl) ?_
    refine lv_i2l hx hb dX4_save_2 rfl ?_
    refine lv_lconst (v := 0) hx hb dX4_save_3 (by decide) ?_
    refine lv_lconst (v := 1) hx hb dX4_save_4 (by decide) ?_
    have hC := c_X4_in l G ((sl).toInt64) 0 1
    refine k_i (ws' := [oMo m0 te re no tr di ke ik mf, aI G no 101 pn, aI G ke 202 kk, aZ G ik 2 ki]) (as := []) cx hP hD hS [] rfl (kr_S (n := 3) (As := [.long (sl).toInt64, .long 0, .long 1]) cx hC gX4_save_X4_in rfl rfl rfl (by decide +kernel) ⟨Nat.le_of_ble_eq_true rfl, Nat.le_of_ble_eq_true rfl⟩ hP hD [] rfl rfl rfl rfl hl (Nat.le_of_ble_eq_true rfl) dX4_save_5 ⟨Nat.le_refl _, Nat.le_refl _⟩) ⟨rfl, rfl⟩ rfl (fun H locs hP hD hS => ?_)
    refine lv_if_eq (tgt := 15) hx hb dX4_save_8 (by decide) (fun c_8 => ?_) (fun c_8 => ?_)
    · replace hq := (if_pos c_8).symm.trans hq
      refine lv_iconst (v := 1) hx hb dX4_save_15 (by decide) ?_
      have hC := c_X4_refused l G m0 te re no tr di ke ik mf 1
      rw [ref_1] at hC
      refine k_i (r := 1) (ws' := [oMo m0 te re no tr di ke ik (upd mf 0 1), aI G no 101 pn, aI G ke 202 kk, aZ G ik 2 ki]) (as := [m0]) cx hP hD hS [0] rfl (kr_V (n := 1) (As := [.int 1]) (ci := 4) cx hC gX4_save_X4_refused rfl rfl rfl (by decide +kernel) ⟨Nat.le_of_ble_eq_true rfl, Nat.le_of_ble_eq_true rfl⟩ rfl rfl rfl hP hD [0] rfl rfl rfl rfl hl (Nat.le_of_ble_eq_true rfl) dX4_save_16 ⟨Nat.le_refl _, Nat.le_refl _⟩) ⟨rfl, rfl⟩ rfl (fun H locs hP hD hS => ?_)
      refine lv_if_eq (tgt := 24) hx hb dX4_save_19 (by decide) (fun cz => absurd cz (by decide)) (fun _ => ?_)
      refine lv_iconst (v := 0) hx hb dX4_save_22 (by decide) ?_
      subst hq
      exact k_iret cx hP hS dX4_save_23
    · replace hq := (if_neg c_8).symm.trans hq
      refine lv_iconst (v := 0) hx hb dX4_save_11 (by decide) ?_
      refine lv_goto (tgt := 16) hx hb dX4_save_12 (by decide) ?_
      have hC := c_X4_refused l G m0 te re no tr di ke ik mf 0
      rw [ref_0] at hC
      refine k_i (r := 0) (ws' := [oMo m0 te re no tr di ke ik (upd mf 0 0), aI G no 101 pn, aI G ke 202 kk, aZ G ik 2 ki]) (as := [m0]) cx hP hD hS [0] rfl (kr_V (n := 1) (As := [.int 0]) (ci := 4) cx hC gX4_save_X4_refused rfl rfl rfl (by decide +kernel) ⟨Nat.le_of_ble_eq_true rfl, Nat.le_of_ble_eq_true rfl⟩ rfl rfl rfl hP hD [0] rfl rfl rfl rfl hl (Nat.le_of_ble_eq_true rfl) dX4_save_16 ⟨Nat.le_refl _, Nat.le_refl _⟩) ⟨rfl, rfl⟩ rfl (fun H locs hP hD hS => ?_)
      refine lv_if_eq (tgt := 24) hx hb dX4_save_19 (by decide) (fun _ => ?_) (fun cz => absurd (by decide) cz)
      refine lv_aload_n hx hb dX4_save_24 rfl (lv_at hl 0 rfl) ?_
      refine k_get (v := .ref ik) (T := TX4) (C := RX4) (N := 11) cx hi_X4_save_4 hP 0 rfl rfl 10 (by decide) (by decide +kernel) rfl dX4_save_25 ?_
      refine lv_iload_n hx hb dX4_save_28 rfl (lv_at hl 1 rfl) ?_
      refine lv_iconst (v := 1) hx hb dX4_save_29 (by decide) ?_
      refine k_zast (ws' := [oMo m0 te re no tr di ke ik (upd mf 0 0), aI G no 101 pn, aI G ke 202 kk, aZ G ik 2 (upd ki sl.toNatClampNeg 1)]) (j := sl.toNatClampNeg) (z := 1) cx hP hD hS 3 rfl rfl (ix_sl c_8) rfl rfl dX4_save_30 (fun H locs hP hD hS => ?_)
      refine lv_aload_n hx hb dX4_save_31 rfl (lv_at hl 0 rfl) ?_
      refine k_get (v := .ref no) (T := TX4) (C := RX4) (N := 11) cx hi_X4_save_4 hP 0 rfl rfl 5 (by decide) (by decide +kernel) rfl dX4_save_32 ?_
      refine lv_iconst (v := 0) hx hb dX4_save_35 (by decide) ?_
      refine lv_aload_n hx hb dX4_save_36 rfl (lv_at hl 0 rfl) ?_
      refine k_get (v := .ref ke) (T := TX4) (C := RX4) (N := 11) cx hi_X4_save_4 hP 0 rfl rfl 9 (by decide) (by decide +kernel) rfl dX4_save_37 ?_
      refine lv_bipush (v := 101) hx hb dX4_save_40 (by decide) ?_
      refine lv_iload_n hx hb dX4_save_42 rfl (lv_at hl 1 rfl) ?_
      refine lv_imul hx hb dX4_save_43 ?_
      have hC := c_X4_copyPage l G no ke 101 202 pn kk 0 (101 * sl) (by first | exact cp0 | assumption) (cp_s c_8)
      generalize hu44 : P_X4_copyPage 101 202 pn kk 0 (101 * sl) = u44 at hC hq
      refine k_v (ws' := [oMo m0 te re no tr di ke ik (upd mf 0 0), aI G no 101 pn, aI G ke 202 u44, aZ G ik 2 (upd ki sl.toNatClampNeg 1)]) (as := [no, ke]) cx hP hD hS [1, 2] rfl (kr_S (n := 4) (As := [.ref no, .int 0, .ref ke, .int (101 * sl)]) cx hC gX4_save_X4_copyPage rfl rfl rfl (by decide +kernel) ⟨Nat.le_of_ble_eq_true rfl, Nat.le_of_ble_eq_true rfl⟩ hP hD [1, 2] rfl rfl rfl rfl hl (Nat.le_of_ble_eq_true rfl) dX4_save_44 ⟨Nat.le_refl _, Nat.le_refl _⟩) ⟨rfl, rfl⟩ rfl (fun H locs hP hD hS => ?_)
      refine lv_aload_n hx hb dX4_save_47 rfl (lv_at hl 0 rfl) ?_
      refine k_get (v := .ref no) (T := TX4) (C := RX4) (N := 11) cx hi_X4_save_4 hP 0 rfl rfl 5 (by decide) (by decide +kernel) rfl dX4_save_48 ?_
      refine lv_bipush (v := 8) hx hb dX4_save_51 (by decide) ?_
      refine k_iald (j := 8) cx hP 1 rfl (by decide) (by unfold vp_in; decide) dX4_save_53 ?_
      subst hq
      exact k_iret cx hP hS dX4_save_54
  subst hL
  subst hH
  subst hq
  exact key _ _ hP hD hS

/-! X4_restore -/
theorem hi_X4_restore_4 : ∀ w ∈ u_ws RX4 TX4 11, w ∈ wsX4_restore := by decide +kernel
abbrev rm_X4_restore : Room := { frames := 1, cells := 0, slots := 0, locals := 25 }
abbrev Q_X4_restore (G : gG) (m0 : Nat) (te : Nat) (re : Nat) (no : Nat) (tr : Nat) (di : Nat) (ke : Nat) (ik : Nat)  (kk : Nat → Int32) (ki : Nat → Int32) (tgt : Int32 × (Nat → Int32) × (Nat → Int32)) (below : List Frame) (args : Array Value) (s : State) (A : Nat → Prop) : State → Prop := MQ below (qI G tgt.1 [oMo m0 te re no tr di ke ik tgt.2.1, aI G no 101 tgt.2.2, aI G ke 202 kk, aZ G ik 2 ki] A) args s 0 0 A
def P_X4_restore (mf : Nat → Int32) (pn : Nat → Int32) (kk : Nat → Int32) (ki : Nat → Int32) (sl : Int32) : Int32 × (Nat → Int32) × (Nat → Int32) := (if (P_X4_in ((sl).toInt64) 0 1) = 0 then (0, (upd mf 0 1), pn) else (if (ki sl.toNatClampNeg) = 0 then (0, (upd mf 0 2), pn) else (let u50 := P_X4_copyPage 202 101 kk pn (101 * sl) 0; ((u50 8), (upd (upd mf 0 0) 8 0), u50))))
set_option maxHeartbeats 4000000 in
set_option maxRecDepth 100000 in
theorem c_X4_restore (l : Launch) (G : gG) (m0 : Nat) (te : Nat) (re : Nat) (no : Nat) (tr : Nat) (di : Nat) (ke : Nat) (ik : Nat) (mf : Nat → Int32) (pn : Nat → Int32) (kk : Nat → Int32) (ki : Nat → Int32) (sl : Int32)  : kM l G yX4_restore wsX4_restore rm_X4_restore [.ref m0, .int sl] [oMo m0 te re no tr di ke ik mf, aI G no 101 pn, aI G ke 202 kk, aZ G ik 2 ki] (qI G ((P_X4_restore mf pn kk ki sl).1) [oMo m0 te re no tr di ke ik ((P_X4_restore mf pn kk ki sl).2.1), aI G no 101 ((P_X4_restore mf pn kk ki sl).2.2), aI G ke 202 kk, aZ G ik 2 ki]) := by
  refine k_body (cc := cX4_restore) (nL := 2) (ret := (some .int)) (by decide) rfl (Nat.le_of_ble_eq_true rfl) ?_
  intro p e s m args below meth c A cx hP hD hS ls hl
  obtain ⟨hx, hb, hml, hown, hts, hr, hlocks, hK, hA⟩ := id cx
  obtain ⟨H, hH⟩ : ∃ H, H = s.heap := ⟨_, rfl⟩
  obtain ⟨locs, hL⟩ : ∃ locs : List Loc, locs = [] := ⟨_, rfl⟩
  obtain ⟨tgt, hq⟩ : ∃ tgt, (P_X4_restore mf pn kk ki sl) = tgt := ⟨_, rfl⟩
  have hS : va_S A s.heap H locs := by rw [hH, hL]; exact hS
  rw [← hH] at hP
  have hl : lv_has ls 2 [(0, .ref m0), (1, .int sl)] := hl
  have key : ∀ (H : Heap) (locs : List Loc), va_P G.1 vwCl [oMo m0 te re no tr di ke ik mf, aI G no 101 pn, aI G ke 202 kk, aZ G ik 2 ki] H → va_D A [oMo m0 te re no tr di ke ik mf, aI G no 101 pn, aI G ke 202 kk, aZ G ik 2 ki] → va_S A s.heap H locs → W p l e rm_X4_restore s m args below meth c H locs 0 0 (Q_X4_restore G m0 te re no tr di ke ik kk ki tgt below args s A) (F0 m 0 ls []) := by
    clear hP hD hS hH hL
    intro H locs hP hD hS
    unfold P_X4_restore at hq
    refine lv_aload_n hx hb dX4_restore_0 rfl (lv_at hl 0 rfl) ?_
    refine lv_iload_n hx hb dX4_restore_1 rfl (lv_at hl 1 rfl) ?_
    refine lv_i2l hx hb dX4_restore_2 rfl ?_
    refine lv_lconst (v := 0) hx hb dX4_restore_3 (by decide) ?_
    refine lv_lconst (v := 1) hx hb dX4_restore_4 (by decide) ?_
    have hC := c_X4_in l G ((sl).toInt64) 0 1
    refine k_i (ws' := [oMo m0 te re no tr di ke ik mf, aI G no 101 pn, aI G ke 202 kk, aZ G ik 2 ki]) (as := []) cx hP hD hS [] rfl (kr_S (n := 3) (As := [.long (sl).toInt64, .long 0, .long 1]) cx hC gX4_restore_X4_in rfl rfl rfl (by decide +kernel) ⟨Nat.le_of_ble_eq_true rfl, Nat.le_of_ble_eq_true rfl⟩ hP hD [] rfl rfl rfl rfl hl (Nat.le_of_ble_eq_true rfl) dX4_restore_5 ⟨Nat.le_refl _, Nat.le_refl _⟩) ⟨rfl, rfl⟩ rfl (fun H locs hP hD hS => ?_)
    refine lv_if_ne (tgt := 15) hx hb dX4_restore_8 (by decide) (fun c_8 => ?_) (fun c_8 => ?_)
    · replace hq := (if_neg c_8).symm.trans hq
      refine lv_aload_n hx hb dX4_restore_15 rfl (lv_at hl 0 rfl) ?_
      refine k_get (v := .ref ik) (T := TX4) (C := RX4) (N := 11) cx hi_X4_restore_4 hP 0 rfl rfl 10 (by decide) (by decide +kernel) rfl dX4_restore_16 ?_
      refine lv_iload_n hx hb dX4_restore_19 rfl (lv_at hl 1 rfl) ?_
      refine k_zald (j := sl.toNatClampNeg) cx hP 3 rfl rfl (ix_sl c_8) dX4_restore_20 ?_
      refine lv_if_ne (tgt := 28) hx hb dX4_restore_21 (by decide) (fun c_21 => ?_) (fun c_21 => ?_)
      · replace hq := (if_neg c_21).symm.trans hq
        refine lv_iconst (v := 0) hx hb dX4_restore_28 (by decide) ?_
        have hC := c_X4_refused l G m0 te re no tr di ke ik mf 0
        rw [ref_0] at hC
        refine k_i (r := 0) (ws' := [oMo m0 te re no tr di ke ik (upd mf 0 0), aI G no 101 pn, aI G ke 202 kk, aZ G ik 2 ki]) (as := [m0]) cx hP hD hS [0] rfl (kr_V (n := 1) (As := [.int 0]) (ci := 4) cx hC gX4_restore_X4_refused rfl rfl rfl (by decide +kernel) ⟨Nat.le_of_ble_eq_true rfl, Nat.le_of_ble_eq_true rfl⟩ rfl rfl rfl hP hD [0] rfl rfl rfl rfl hl (Nat.le_of_ble_eq_true rfl) dX4_restore_29 ⟨Nat.le_refl _, Nat.le_refl _⟩) ⟨rfl, rfl⟩ rfl (fun H locs hP hD hS => ?_)
        refine lv_if_eq (tgt := 37) hx hb dX4_restore_32 (by decide) (fun _ => ?_) (fun cz => absurd (by decide) cz)
        refine lv_aload_n hx hb dX4_restore_37 rfl (lv_at hl 0 rfl) ?_
        refine k_get (v := .ref ke) (T := TX4) (C := RX4) (N := 11) cx hi_X4_restore_4 hP 0 rfl rfl 9 (by decide) (by decide +kernel) rfl dX4_restore_38 ?_
        refine lv_bipush (v := 101) hx hb dX4_restore_41 (by decide) ?_
        refine lv_iload_n hx hb dX4_restore_43 rfl (lv_at hl 1 rfl) ?_
        refine lv_imul hx hb dX4_restore_44 ?_
        refine lv_aload_n hx hb dX4_restore_45 rfl (lv_at hl 0 rfl) ?_
        refine k_get (v := .ref no) (T := TX4) (C := RX4) (N := 11) cx hi_X4_restore_4 hP 0 rfl rfl 5 (by decide) (by decide +kernel) rfl dX4_restore_46 ?_
        refine lv_iconst (v := 0) hx hb dX4_restore_49 (by decide) ?_
        have hC := c_X4_copyPage l G ke no 202 101 kk pn (101 * sl) 0 (cp_s c_8) (by first | exact cp0 | assumption)
        generalize hu50 : P_X4_copyPage 202 101 kk pn (101 * sl) 0 = u50 at hC hq
        refine k_v (ws' := [oMo m0 te re no tr di ke ik (upd mf 0 0), aI G no 101 u50, aI G ke 202 kk, aZ G ik 2 ki]) (as := [ke, no]) cx hP hD hS [2, 1] rfl (kr_S (n := 4) (As := [.ref ke, .int (101 * sl), .ref no, .int 0]) cx hC gX4_restore_X4_copyPage rfl rfl rfl (by decide +kernel) ⟨Nat.le_of_ble_eq_true rfl, Nat.le_of_ble_eq_true rfl⟩ hP hD [2, 1] rfl rfl rfl rfl hl (Nat.le_of_ble_eq_true rfl) dX4_restore_50 ⟨Nat.le_refl _, Nat.le_refl _⟩) ⟨rfl, rfl⟩ rfl (fun H locs hP hD hS => ?_)
        refine lv_aload_n hx hb dX4_restore_53 rfl (lv_at hl 0 rfl) ?_
        refine lv_iconst (v := 0) hx hb dX4_restore_54 (by decide) ?_
        refine k_put (ws' := [oMo m0 te re no tr di ke ik (upd (upd mf 0 0) 8 0), aI G no 101 u50, aI G ke 202 kk, aZ G ik 2 ki]) (ty := .int) (T := TX4) (C := RX4) (N := 11) cx hi_X4_restore_4 tyX4_ok nmX4 hP hD hS 0 rfl rfl 8 (by decide) (by decide +kernel) rfl rfl rfl rfl (Nat.le_of_ble_eq_true rfl) rfl dX4_restore_55 (fun H locs hP hD hS => ?_)
        refine lv_aload_n hx hb dX4_restore_58 rfl (lv_at hl 0 rfl) ?_
        refine k_get (v := .ref no) (T := TX4) (C := RX4) (N := 11) cx hi_X4_restore_4 hP 0 rfl rfl 5 (by decide) (by decide +kernel) rfl dX4_restore_59 ?_
        refine lv_bipush (v := 8) hx hb dX4_restore_62 (by decide) ?_
        refine k_iald (j := 8) cx hP 1 rfl (by decide) (by unfold vp_in; decide) dX4_restore_64 ?_
        subst hq
        exact k_iret cx hP hS dX4_restore_65
      · replace hq := (if_pos c_21).symm.trans hq
        refine lv_iconst (v := 2) hx hb dX4_restore_24 (by decide) ?_
        refine lv_goto (tgt := 29) hx hb dX4_restore_25 (by decide) ?_
        have hC := c_X4_refused l G m0 te re no tr di ke ik mf 2
        rw [ref_2] at hC
        refine k_i (r := 1) (ws' := [oMo m0 te re no tr di ke ik (upd mf 0 2), aI G no 101 pn, aI G ke 202 kk, aZ G ik 2 ki]) (as := [m0]) cx hP hD hS [0] rfl (kr_V (n := 1) (As := [.int 2]) (ci := 4) cx hC gX4_restore_X4_refused rfl rfl rfl (by decide +kernel) ⟨Nat.le_of_ble_eq_true rfl, Nat.le_of_ble_eq_true rfl⟩ rfl rfl rfl hP hD [0] rfl rfl rfl rfl hl (Nat.le_of_ble_eq_true rfl) dX4_restore_29 ⟨Nat.le_refl _, Nat.le_refl _⟩) ⟨rfl, rfl⟩ rfl (fun H locs hP hD hS => ?_)
        refine lv_if_eq (tgt := 37) hx hb dX4_restore_32 (by decide) (fun cz => absurd cz (by decide)) (fun _ => ?_)
        refine lv_iconst (v := 0) hx hb dX4_restore_35 (by decide) ?_
        subst hq
        exact k_iret cx hP hS dX4_restore_36
    · replace hq := (if_pos c_8).symm.trans hq
      refine lv_iconst (v := 1) hx hb dX4_restore_11 (by decide) ?_
      refine lv_goto (tgt := 29) hx hb dX4_restore_12 (by decide) ?_
      have hC := c_X4_refused l G m0 te re no tr di ke ik mf 1
      rw [ref_1] at hC
      refine k_i (r := 1) (ws' := [oMo m0 te re no tr di ke ik (upd mf 0 1), aI G no 101 pn, aI G ke 202 kk, aZ G ik 2 ki]) (as := [m0]) cx hP hD hS [0] rfl (kr_V (n := 1) (As := [.int 1]) (ci := 4) cx hC gX4_restore_X4_refused rfl rfl rfl (by decide +kernel) ⟨Nat.le_of_ble_eq_true rfl, Nat.le_of_ble_eq_true rfl⟩ rfl rfl rfl hP hD [0] rfl rfl rfl rfl hl (Nat.le_of_ble_eq_true rfl) dX4_restore_29 ⟨Nat.le_refl _, Nat.le_refl _⟩) ⟨rfl, rfl⟩ rfl (fun H locs hP hD hS => ?_)
      refine lv_if_eq (tgt := 37) hx hb dX4_restore_32 (by decide) (fun cz => absurd cz (by decide)) (fun _ => ?_)
      refine lv_iconst (v := 0) hx hb dX4_restore_35 (by decide) ?_
      subst hq
      exact k_iret cx hP hS dX4_restore_36
  subst hL
  subst hH
  subst hq
  exact key _ _ hP hD hS

/-! X4_balanced -/
theorem hi_X4_balanced_4 : ∀ w ∈ u_ws RX4 TX4 11, w ∈ wsX4_balanced := by decide +kernel
abbrev rm_X4_balanced : Room := { frames := 7, cells := 0, slots := 0, locals := 157 }
abbrev Q_X4_balanced (G : gG) (m0 : Nat) (te : Nat) (re : Nat) (no : Nat) (tr : Nat) (di : Nat) (ke : Nat) (ik : Nat)  (pn : Nat → Int32) (tgt : Int32 × (Nat → Int32) × (Nat → Int32)) (below : List Frame) (args : Array Value) (s : State) (A : Nat → Prop) : State → Prop := MQ below (qI G tgt.1 [oMo m0 te re no tr di ke ik tgt.2.1, aI G no 101 pn, aI G tr 101 tgt.2.2] A) args s 0 0 A
def P_X4_balanced (mf : Nat → Int32) (pn : Nat → Int32) (pt : Nat → Int32) (what : Int32) : Int32 × (Nat → Int32) × (Nat → Int32) := (if (P_X4_in ((what).toInt64) 0 3) = 0 then (0, (upd mf 0 1), pt) else (let u36 := P_X4_copyPage 101 101 pn pt 0 0; let u51 := P_X4_balanceOn (upd u36 11 0); (if what = 0 then ((u51 2), (upd mf 0 0), u51) else (if what = 1 then (((u51 13) - (pn 13)), (upd mf 0 0), u51) else (if what = 2 then ((u51 7), (upd mf 0 0), u51) else ((u51 11), (upd mf 0 0), u51))))))
set_option maxHeartbeats 4000000 in
set_option maxRecDepth 100000 in
theorem c_X4_balanced (l : Launch) (G : gG) (m0 : Nat) (te : Nat) (re : Nat) (no : Nat) (tr : Nat) (di : Nat) (ke : Nat) (ik : Nat) (mf : Nat → Int32) (pn : Nat → Int32) (pt : Nat → Int32) (what : Int32) (hpv : PV pn) : kM l G yX4_balanced wsX4_balanced rm_X4_balanced [.ref m0, .int what] [oMo m0 te re no tr di ke ik mf, aI G no 101 pn, aI G tr 101 pt] (qI G ((P_X4_balanced mf pn pt what).1) [oMo m0 te re no tr di ke ik ((P_X4_balanced mf pn pt what).2.1), aI G no 101 pn, aI G tr 101 ((P_X4_balanced mf pn pt what).2.2)]) := by
  refine k_body (cc := cX4_balanced) (nL := 2) (ret := (some .int)) (by decide) rfl (Nat.le_of_ble_eq_true rfl) ?_
  intro p e s m args below meth c A cx hP hD hS ls hl
  obtain ⟨hx, hb, hml, hown, hts, hr, hlocks, hK, hA⟩ := id cx
  obtain ⟨H, hH⟩ : ∃ H, H = s.heap := ⟨_, rfl⟩
  obtain ⟨locs, hL⟩ : ∃ locs : List Loc, locs = [] := ⟨_, rfl⟩
  obtain ⟨tgt, hq⟩ : ∃ tgt, (P_X4_balanced mf pn pt what) = tgt := ⟨_, rfl⟩
  have hS : va_S A s.heap H locs := by rw [hH, hL]; exact hS
  rw [← hH] at hP
  have hl : lv_has ls 2 [(0, .ref m0), (1, .int what)] := hl
  have key : ∀ (H : Heap) (locs : List Loc), va_P G.1 vwCl [oMo m0 te re no tr di ke ik mf, aI G no 101 pn, aI G tr 101 pt] H → va_D A [oMo m0 te re no tr di ke ik mf, aI G no 101 pn, aI G tr 101 pt] → va_S A s.heap H locs → W p l e rm_X4_balanced s m args below meth c H locs 0 0 (Q_X4_balanced G m0 te re no tr di ke ik pn tgt below args s A) (F0 m 0 ls []) := by
    clear hP hD hS hH hL
    intro H locs hP hD hS
    unfold P_X4_balanced at hq
    refine lv_aload_n hx hb dX4_balanced_0 rfl (lv_at hl 0 rfl) ?_
    refine lv_iload_n hx hb dX4_balanced_1 rfl (lv_at hl 1 rfl) ?_
    refine lv_i2l hx hb dX4_balanced_2 rfl ?_
    refine lv_lconst (v := 0) hx hb dX4_balanced_3 (by decide) ?_
    refine k_ldc2 (v := 3) cx (by decide +kernel) dX4_balanced_4 ?_
    have hC := c_X4_in l G ((what).toInt64) 0 3
    refine k_i (ws' := [oMo m0 te re no tr di ke ik mf, aI G no 101 pn, aI G tr 101 pt]) (as := []) cx hP hD hS [] rfl (kr_S (n := 3) (As := [.long (what).toInt64, .long 0, .long 3]) cx hC gX4_balanced_X4_in rfl rfl rfl (by decide +kernel) ⟨Nat.le_of_ble_eq_true rfl, Nat.le_of_ble_eq_true rfl⟩ hP hD [] rfl rfl rfl rfl hl (Nat.le_of_ble_eq_true rfl) dX4_balanced_7 ⟨Nat.le_refl _, Nat.le_refl _⟩) ⟨rfl, rfl⟩ rfl (fun H locs hP hD hS => ?_)
    refine lv_if_eq (tgt := 17) hx hb dX4_balanced_10 (by decide) (fun c_10 => ?_) (fun c_10 => ?_)
    · replace hq := (if_pos c_10).symm.trans hq
      refine lv_iconst (v := 1) hx hb dX4_balanced_17 (by decide) ?_
      have hC := c_X4_refused l G m0 te re no tr di ke ik mf 1
      rw [ref_1] at hC
      refine k_i (r := 1) (ws' := [oMo m0 te re no tr di ke ik (upd mf 0 1), aI G no 101 pn, aI G tr 101 pt]) (as := [m0]) cx hP hD hS [0] rfl (kr_V (n := 1) (As := [.int 1]) (ci := 4) cx hC gX4_balanced_X4_refused rfl rfl rfl (by decide +kernel) ⟨Nat.le_of_ble_eq_true rfl, Nat.le_of_ble_eq_true rfl⟩ rfl rfl rfl hP hD [0] rfl rfl rfl rfl hl (Nat.le_of_ble_eq_true rfl) dX4_balanced_18 ⟨Nat.le_refl _, Nat.le_refl _⟩) ⟨rfl, rfl⟩ rfl (fun H locs hP hD hS => ?_)
      refine lv_if_eq (tgt := 26) hx hb dX4_balanced_21 (by decide) (fun cz => absurd cz (by decide)) (fun _ => ?_)
      refine lv_iconst (v := 0) hx hb dX4_balanced_24 (by decide) ?_
      subst hq
      exact k_iret cx hP hS dX4_balanced_25
    · replace hq := (if_neg c_10).symm.trans hq
      refine lv_iconst (v := 0) hx hb dX4_balanced_13 (by decide) ?_
      refine lv_goto (tgt := 18) hx hb dX4_balanced_14 (by decide) ?_
      have hC := c_X4_refused l G m0 te re no tr di ke ik mf 0
      rw [ref_0] at hC
      refine k_i (r := 0) (ws' := [oMo m0 te re no tr di ke ik (upd mf 0 0), aI G no 101 pn, aI G tr 101 pt]) (as := [m0]) cx hP hD hS [0] rfl (kr_V (n := 1) (As := [.int 0]) (ci := 4) cx hC gX4_balanced_X4_refused rfl rfl rfl (by decide +kernel) ⟨Nat.le_of_ble_eq_true rfl, Nat.le_of_ble_eq_true rfl⟩ rfl rfl rfl hP hD [0] rfl rfl rfl rfl hl (Nat.le_of_ble_eq_true rfl) dX4_balanced_18 ⟨Nat.le_refl _, Nat.le_refl _⟩) ⟨rfl, rfl⟩ rfl (fun H locs hP hD hS => ?_)
      refine lv_if_eq (tgt := 26) hx hb dX4_balanced_21 (by decide) (fun _ => ?_) (fun cz => absurd (by decide) cz)
      refine lv_aload_n hx hb dX4_balanced_26 rfl (lv_at hl 0 rfl) ?_
      refine k_get (v := .ref no) (T := TX4) (C := RX4) (N := 11) cx hi_X4_balanced_4 hP 0 rfl rfl 5 (by decide) (by decide +kernel) rfl dX4_balanced_27 ?_
      refine lv_iconst (v := 0) hx hb dX4_balanced_30 (by decide) ?_
      refine lv_aload_n hx hb dX4_balanced_31 rfl (lv_at hl 0 rfl) ?_
      refine k_get (v := .ref tr) (T := TX4) (C := RX4) (N := 11) cx hi_X4_balanced_4 hP 0 rfl rfl 6 (by decide) (by decide +kernel) rfl dX4_balanced_32 ?_
      refine lv_iconst (v := 0) hx hb dX4_balanced_35 (by decide) ?_
      have hC := c_X4_copyPage l G no tr 101 101 pn pt 0 0 (by first | exact cp0 | assumption) (by first | exact cp0 | assumption)
      generalize hu36 : P_X4_copyPage 101 101 pn pt 0 0 = u36 at hC hq
      refine k_v (ws' := [oMo m0 te re no tr di ke ik (upd mf 0 0), aI G no 101 pn, aI G tr 101 u36]) (as := [no, tr]) cx hP hD hS [1, 2] rfl (kr_S (n := 4) (As := [.ref no, .int 0, .ref tr, .int 0]) cx hC gX4_balanced_X4_copyPage rfl rfl rfl (by decide +kernel) ⟨Nat.le_of_ble_eq_true rfl, Nat.le_of_ble_eq_true rfl⟩ hP hD [1, 2] rfl rfl rfl rfl hl (Nat.le_of_ble_eq_true rfl) dX4_balanced_36 ⟨Nat.le_refl _, Nat.le_refl _⟩) ⟨rfl, rfl⟩ rfl (fun H locs hP hD hS => ?_)
      refine lv_aload_n hx hb dX4_balanced_39 rfl (lv_at hl 0 rfl) ?_
      refine k_get (v := .ref tr) (T := TX4) (C := RX4) (N := 11) cx hi_X4_balanced_4 hP 0 rfl rfl 6 (by decide) (by decide +kernel) rfl dX4_balanced_40 ?_
      refine lv_bipush (v := 11) hx hb dX4_balanced_43 (by decide) ?_
      refine lv_iconst (v := 0) hx hb dX4_balanced_45 (by decide) ?_
      refine k_iast (ws' := [oMo m0 te re no tr di ke ik (upd mf 0 0), aI G no 101 pn, aI G tr 101 (upd u36 11 0)]) (j := 11) cx hP hD hS 2 rfl (by decide) (by unfold vp_in; decide) rfl dX4_balanced_46 (fun H locs hP hD hS => ?_)
      refine lv_aload_n hx hb dX4_balanced_47 rfl (lv_at hl 0 rfl) ?_
      refine k_get (v := .ref tr) (T := TX4) (C := RX4) (N := 11) cx hi_X4_balanced_4 hP 0 rfl rfl 6 (by decide) (by decide +kernel) rfl dX4_balanced_48 ?_
      have hC := c_X4_balanceOn l G tr (upd u36 11 0) (pv_up11 (pv_copy hu36 hpv))
      replace hq := k_let hq
      generalize hu51 : P_X4_balanceOn (upd u36 11 0) = u51 at hC hq
      refine k_v (ws' := [oMo m0 te re no tr di ke ik (upd mf 0 0), aI G no 101 pn, aI G tr 101 u51]) (as := [tr]) cx hP hD hS [2] rfl (kr_S (n := 1) (As := [.ref tr]) cx hC gX4_balanced_X4_balanceOn rfl rfl rfl (by decide +kernel) ⟨Nat.le_of_ble_eq_true rfl, Nat.le_of_ble_eq_true rfl⟩ hP hD [2] rfl rfl rfl rfl hl (Nat.le_of_ble_eq_true rfl) dX4_balanced_51 ⟨Nat.le_refl _, Nat.le_refl _⟩) ⟨rfl, rfl⟩ rfl (fun H locs hP hD hS => ?_)
      refine lv_iload_n hx hb dX4_balanced_54 rfl (lv_at hl 1 rfl) ?_
      refine lv_if_ne (tgt := 67) hx hb dX4_balanced_55 (by decide) (fun c_55 => ?_) (fun c_55 => ?_)
      · replace hq := (if_neg c_55).symm.trans hq
        refine lv_iload_n hx hb dX4_balanced_67 rfl (lv_at hl 1 rfl) ?_
        refine lv_iconst (v := 1) hx hb dX4_balanced_68 (by decide) ?_
        refine lv_icmp_ne (tgt := 90) hx hb dX4_balanced_69 (by decide) (fun c_69 => ?_) (fun c_69 => ?_)
        · replace hq := (if_neg c_69).symm.trans hq
          refine lv_iload_n hx hb dX4_balanced_90 rfl (lv_at hl 1 rfl) ?_
          refine lv_iconst (v := 2) hx hb dX4_balanced_91 (by decide) ?_
          refine lv_icmp_ne (tgt := 105) hx hb dX4_balanced_92 (by decide) (fun c_92 => ?_) (fun c_92 => ?_)
          · replace hq := (if_neg c_92).symm.trans hq
            refine lv_aload_n hx hb dX4_balanced_105 rfl (lv_at hl 0 rfl) ?_
            refine k_get (v := .ref tr) (T := TX4) (C := RX4) (N := 11) cx hi_X4_balanced_4 hP 0 rfl rfl 6 (by decide) (by decide +kernel) rfl dX4_balanced_106 ?_
            refine lv_bipush (v := 11) hx hb dX4_balanced_109 (by decide) ?_
            refine k_iald (j := 11) cx hP 2 rfl (by decide) (by unfold vp_in; decide) dX4_balanced_111 ?_
            subst hq
            exact k_iret cx hP hS dX4_balanced_112
          · replace hq := (if_pos c_92).symm.trans hq
            refine lv_aload_n hx hb dX4_balanced_95 rfl (lv_at hl 0 rfl) ?_
            refine k_get (v := .ref tr) (T := TX4) (C := RX4) (N := 11) cx hi_X4_balanced_4 hP 0 rfl rfl 6 (by decide) (by decide +kernel) rfl dX4_balanced_96 ?_
            refine lv_bipush (v := 7) hx hb dX4_balanced_99 (by decide) ?_
            refine k_iald (j := 7) cx hP 2 rfl (by decide) (by unfold vp_in; decide) dX4_balanced_101 ?_
            refine lv_goto (tgt := 112) hx hb dX4_balanced_102 (by decide) ?_
            subst hq
            exact k_iret cx hP hS dX4_balanced_112
        · replace hq := (if_pos c_69).symm.trans hq
          refine lv_aload_n hx hb dX4_balanced_72 rfl (lv_at hl 0 rfl) ?_
          refine k_get (v := .ref tr) (T := TX4) (C := RX4) (N := 11) cx hi_X4_balanced_4 hP 0 rfl rfl 6 (by decide) (by decide +kernel) rfl dX4_balanced_73 ?_
          refine lv_bipush (v := 13) hx hb dX4_balanced_76 (by decide) ?_
          refine k_iald (j := 13) cx hP 2 rfl (by decide) (by unfold vp_in; decide) dX4_balanced_78 ?_
          refine lv_aload_n hx hb dX4_balanced_79 rfl (lv_at hl 0 rfl) ?_
          refine k_get (v := .ref no) (T := TX4) (C := RX4) (N := 11) cx hi_X4_balanced_4 hP 0 rfl rfl 5 (by decide) (by decide +kernel) rfl dX4_balanced_80 ?_
          refine lv_bipush (v := 13) hx hb dX4_balanced_83 (by decide) ?_
          refine k_iald (j := 13) cx hP 1 rfl (by decide) (by unfold vp_in; decide) dX4_balanced_85 ?_
          refine lv_isub hx hb dX4_balanced_86 ?_
          refine lv_goto (tgt := 112) hx hb dX4_balanced_87 (by decide) ?_
          subst hq
          exact k_iret cx hP hS dX4_balanced_112
      · replace hq := (if_pos c_55).symm.trans hq
        refine lv_aload_n hx hb dX4_balanced_58 rfl (lv_at hl 0 rfl) ?_
        refine k_get (v := .ref tr) (T := TX4) (C := RX4) (N := 11) cx hi_X4_balanced_4 hP 0 rfl rfl 6 (by decide) (by decide +kernel) rfl dX4_balanced_59 ?_
        refine lv_iconst (v := 2) hx hb dX4_balanced_62 (by decide) ?_
        refine k_iald (j := 2) cx hP 2 rfl (by decide) (by unfold vp_in; decide) dX4_balanced_63 ?_
        refine lv_goto (tgt := 112) hx hb dX4_balanced_64 (by decide) ?_
        subst hq
        exact k_iret cx hP hS dX4_balanced_112
  subst hL
  subst hH
  subst hq
  exact key _ _ hP hD hS

/-! X4_does -/
theorem hi_X4_does_4 : ∀ w ∈ u_ws RX4 TX4 11, w ∈ wsX4_does := by decide +kernel
abbrev rm_X4_does : Room := { frames := 7, cells := 0, slots := 0, locals := 157 }
abbrev Q_X4_does (G : gG) (m0 : Nat) (te : Nat) (re : Nat) (no : Nat) (tr : Nat) (di : Nat) (ke : Nat) (ik : Nat)  (mf : Nat → Int32) (tgt : Int32 × (Nat → Int32)) (below : List Frame) (args : Array Value) (s : State) (A : Nat → Prop) : State → Prop := MQ below (qI G tgt.1 [oMo m0 te re no tr di ke ik mf, aI G tr 101 tgt.2] A) args s 0 0 A
def P_X4_does_87 (mf : Nat → Int32) (how : Int32) (four : Int32) : Nat → Int32 → Int32 → Int32 → (Nat → Int32) → Int32 × (Nat → Int32)
  | 0, _, _, _, _ => (0, (fun _ => 0))
  | n + 1, v3, v4, v5, pt => (if v4 ≤ v5 then (1, pt) else (if (pt 11) = 1 then (0, pt) else (let j121 := fun (j121_s0 : Int32) => (let u121 := P_X4_pressOn pt j121_s0; (P_X4_does_87 mf how four n v3 v4 (v5 + 1) u121.2)); (if v3 = 1 then (j121 1) else (j121 0)))))
set_option maxHeartbeats 4000000 in
set_option maxRecDepth 100000 in
theorem b_X4_does_87 {p : Program} {l : Launch} {e : Env} {s : State} {m : MethodId} {args : Array Value} {below : List Frame} {meth : Method} {c : Code} {G : gG} {A : Nat → Prop} (cx : Cx p s m args meth c cX4_does 6 yX4_does.cls wsX4_does (some .boolean) G A) (m0 : Nat) (te : Nat) (re : Nat) (no : Nat) (tr : Nat) (di : Nat) (ke : Nat) (ik : Nat) (mf : Nat → Int32) (how : Int32) (four : Int32)   (tgt : Int32 × (Nat → Int32)) : ∀ (n : Nat) (v3 : Int32) (v4 : Int32) (v5 : Int32) (pt : Nat → Int32) (hpt : PV pt) (hm : ((v4).toInt - (v5 : Int32).toInt).toNat < n) (hq : P_X4_does_87  mf how four n v3 v4 v5 pt = tgt) (H : Heap) (locs : List Loc) (hP : va_P G.1 vwCl [oMo m0 te re no tr di ke ik mf, aI G tr 101 pt] H) (hD : va_D A [oMo m0 te re no tr di ke ik mf, aI G tr 101 pt]) (hS : va_S A s.heap H locs) (ls : Array Slot) (hl : lv_has ls 6 [(0, .ref m0), (3, .int v3), (4, .int v4), (5, .int v5)]), W p l e rm_X4_does s m args below meth c H locs 0 0 (Q_X4_does G m0 te re no tr di ke ik mf tgt below args s A) (F0 m 87 ls []) := by
  obtain ⟨hx, hb, hml, hown, hts, hr, hlocks, hK, hA⟩ := id cx
  intro n
  induction n with
  | zero => intros; omega
  | succ n ih =>
    intro v3 v4 v5 pt hpt hm hq H locs hP hD hS ls hl
    unfold P_X4_does_87 at hq
    refine lv_iload hx hb dX4_does_87 (lv_at hl 3 rfl) ?_
    refine lv_iload hx hb dX4_does_89 (lv_at hl 2 rfl) ?_
    refine lv_icmp_ge (tgt := 131) hx hb dX4_does_91 (by decide) (fun c_91 => ?_) (fun c_91 => ?_)
    · replace hq := (if_pos c_91).symm.trans hq
      refine lv_iconst (v := 1) hx hb dX4_does_131 (by decide) ?_
      subst hq
      exact k_zret (v := 1) (w1 := [oMo m0 te re no tr di ke ik mf, aI G tr 101 pt]) cx (rfl) hP hS dX4_does_132
    · replace hq := (if_neg c_91).symm.trans hq
      refine lv_aload_n hx hb dX4_does_94 rfl (lv_at hl 0 rfl) ?_
      refine k_get (v := .ref tr) (T := TX4) (C := RX4) (N := 11) cx hi_X4_does_4 hP 0 rfl rfl 6 (by decide) (by decide +kernel) rfl dX4_does_95 ?_
      refine lv_bipush (v := 11) hx hb dX4_does_98 (by decide) ?_
      refine k_iald (j := 11) cx hP 1 rfl (by decide) (by unfold vp_in; decide) dX4_does_100 ?_
      refine lv_iconst (v := 1) hx hb dX4_does_101 (by decide) ?_
      refine lv_icmp_ne (tgt := 107) hx hb dX4_does_102 (by decide) (fun c_102 => ?_) (fun c_102 => ?_)
      · replace hq := (if_neg c_102).symm.trans hq
        refine lv_aload_n hx hb dX4_does_107 rfl (lv_at hl 0 rfl) ?_
        refine k_get (v := .ref tr) (T := TX4) (C := RX4) (N := 11) cx hi_X4_does_4 hP 0 rfl rfl 6 (by decide) (by decide +kernel) rfl dX4_does_108 ?_
        refine lv_iload_n hx hb dX4_does_111 rfl (lv_at hl 1 rfl) ?_
        refine lv_iconst (v := 1) hx hb dX4_does_112 (by decide) ?_
        have J121 : ∀ (j121_s0 : Int32), (let u121 := P_X4_pressOn pt j121_s0; (P_X4_does_87 mf how four n v3 v4 (v5 + 1) u121.2)) = tgt → ∀ (H : Heap) (locs : List Loc) (ls : Array Slot), va_P G.1 vwCl [oMo m0 te re no tr di ke ik mf, aI G tr 101 pt] H → va_D A [oMo m0 te re no tr di ke ik mf, aI G tr 101 pt] → va_S A s.heap H locs → lv_has ls 6 [(0, .ref m0), (3, .int v3), (4, .int v4), (5, .int v5)] → W p l e rm_X4_does s m args below meth c H locs 0 0 (Q_X4_does G m0 te re no tr di ke ik mf tgt below args s A) (F0 m 121 ls [.int j121_s0, .ref tr]) := by
          intro j121_s0 hq H locs ls hP hD hS hl
          have hC := c_X4_pressOn l G tr pt j121_s0 (hpt)
          generalize hu121 : P_X4_pressOn pt j121_s0 = u121 at hC hq
          refine k_i (ws' := [oMo m0 te re no tr di ke ik mf, aI G tr 101 u121.2]) (as := [tr]) cx hP hD hS [1] rfl (kr_S (n := 2) (As := [.ref tr, .int j121_s0]) cx hC gX4_does_X4_pressOn rfl rfl rfl (by decide +kernel) ⟨Nat.le_of_ble_eq_true rfl, Nat.le_of_ble_eq_true rfl⟩ hP hD [1] rfl rfl rfl rfl hl (Nat.le_of_ble_eq_true rfl) dX4_does_121 ⟨Nat.le_refl _, Nat.le_refl _⟩) ⟨rfl, rfl⟩ rfl (fun H locs hP hD hS => ?_)
          refine lv_pop hx hb dX4_does_124 rfl ?_
          refine lv_iinc (v := (v5 + 1)) (lv' := [(5, .int (v5 + 1)), (0, .ref m0), (3, .int v3), (4, .int v4)]) hx hb dX4_does_125 hl (k := 3) rfl rfl (by decide) rfl (fun ls hl => ?_)
          refine lv_goto (tgt := 87) hx hb dX4_does_128 (by decide) ?_
          exact ih v3 v4 (v5 + 1) u121.2 (pv_press hu121 hpt) (by have hmd := mu_up (by assumption); omega) hq H locs hP hD hS _ (lv_sub hl [1, 2, 3, 0] rfl)
        refine lv_icmp_ne (tgt := 120) hx hb dX4_does_113 (by decide) (fun c_113 => ?_) (fun c_113 => ?_)
        · replace hq := (if_neg c_113).symm.trans hq
          refine lv_iconst (v := 0) hx hb dX4_does_120 (by decide) ?_
          exact J121 0 hq H locs ls hP hD hS (lv_sub hl [0, 1, 2, 3] rfl)
        · replace hq := (if_pos c_113).symm.trans hq
          refine lv_iconst (v := 1) hx hb dX4_does_116 (by decide) ?_
          refine lv_goto (tgt := 121) hx hb dX4_does_117 (by decide) ?_
          exact J121 1 hq H locs ls hP hD hS (lv_sub hl [0, 1, 2, 3] rfl)
      · replace hq := (if_pos c_102).symm.trans hq
        refine lv_iconst (v := 0) hx hb dX4_does_105 (by decide) ?_
        subst hq
        exact k_zret (v := 0) (w1 := [oMo m0 te re no tr di ke ik mf, aI G tr 101 pt]) cx (rfl) hP hS dX4_does_106
def P_X4_does (mf : Nat → Int32) (pt : Nat → Int32) (how : Int32) (four : Int32) : Int32 × (Nat → Int32) := (if how = 1 then (if 1 < (four / 1000) then (0, pt) else (if (P_X4_in (((four - four / 1000 * 1000)).toInt64) 1 99) = 0 then (0, pt) else (P_X4_does_87 mf how four ((((four - four / 1000 * 1000)).toInt - (0 : Int32).toInt).toNat + 1) (four / 1000) (four - four / 1000 * 1000) 0 pt))) else if how = 2 then (if (four / 1000) = 0 then (if (P_X4_in (((four - four / 1000 * 1000)).toInt64) 1 200) = 0 then (0, pt) else (let u158 := P_X4_waitOn pt (four - four / 1000 * 1000); (1, u158))) else (0, pt)) else if how = 3 then (1, (upd pt 2 four)) else if how = 4 then (if (four / 1000) = 2 then (0, pt) else (if 99 < (four - four / 1000 * 1000) then (0, pt) else (if (P_X4_isSetting (four / 1000) (four - four / 1000 * 1000)) = 0 then (0, pt) else (1, (upd pt (four / 1000).toNatClampNeg (four - four / 1000 * 1000)))))) else if how = 5 then (if (four - four / 1000 * 1000) = 0 then (if (P_X4_isUnknown pt (four / 1000)) = 0 then (0, pt) else (1, (upd pt 10 (four / 1000)))) else (0, pt)) else if how = 6 then (if four = 0 then (if (pt 11) = 1 then (0, pt) else (let u254 := P_X4_balanceOn pt; (1, u254))) else (0, pt)) else if how = 7 then (if (pt 2) = four then (1, pt) else (0, pt)) else if how = 8 then (if 2 ≤ (four / 1000) then (0, pt) else (if (pt 12) ≤ 0 then (0, pt) else (let j309 := fun (j309_s0 : Int32) => (if (pt 21) = j309_s0 then (1, pt) else (0, pt)); (if (four / 1000) = 0 then (j309 (four - four / 1000 * 1000)) else (j309 (-(four - four / 1000 * 1000))))))) else if how = 9 then (if 2 ≤ (four / 1000) then (0, pt) else (if 100 ≤ (four - four / 1000 * 1000) then (0, pt) else (let j349 := fun (j349_s0 : Int32) => (if j349_s0 < (P_X4_offsetOf pt) then (0, pt) else (1, pt)); (if (four / 1000) = 0 then (j349 (four - four / 1000 * 1000)) else (j349 (-(four - four / 1000 * 1000))))))) else (0, pt))
set_option maxHeartbeats 4000000 in
set_option maxRecDepth 100000 in
theorem c_X4_does (l : Launch) (G : gG) (m0 : Nat) (te : Nat) (re : Nat) (no : Nat) (tr : Nat) (di : Nat) (ke : Nat) (ik : Nat) (mf : Nat → Int32) (pt : Nat → Int32) (how : Int32) (four : Int32) (hpt : PV pt) : kM l G yX4_does wsX4_does rm_X4_does [.ref m0, .int how, .int four] [oMo m0 te re no tr di ke ik mf, aI G tr 101 pt] (qI G ((P_X4_does mf pt how four).1) [oMo m0 te re no tr di ke ik mf, aI G tr 101 ((P_X4_does mf pt how four).2)]) := by
  refine k_body (cc := cX4_does) (nL := 6) (ret := (some .boolean)) (by decide) rfl (Nat.le_of_ble_eq_true rfl) ?_
  intro p e s m args below meth c A cx hP hD hS ls hl
  obtain ⟨hx, hb, hml, hown, hts, hr, hlocks, hK, hA⟩ := id cx
  obtain ⟨H, hH⟩ : ∃ H, H = s.heap := ⟨_, rfl⟩
  obtain ⟨locs, hL⟩ : ∃ locs : List Loc, locs = [] := ⟨_, rfl⟩
  obtain ⟨tgt, hq⟩ : ∃ tgt, (P_X4_does mf pt how four) = tgt := ⟨_, rfl⟩
  have hS : va_S A s.heap H locs := by rw [hH, hL]; exact hS
  rw [← hH] at hP
  have hl : lv_has ls 6 [(0, .ref m0), (1, .int how), (2, .int four)] := hl
  have key : ∀ (H : Heap) (locs : List Loc), va_P G.1 vwCl [oMo m0 te re no tr di ke ik mf, aI G tr 101 pt] H → va_D A [oMo m0 te re no tr di ke ik mf, aI G tr 101 pt] → va_S A s.heap H locs → W p l e rm_X4_does s m args below meth c H locs 0 0 (Q_X4_does G m0 te re no tr di ke ik mf tgt below args s A) (F0 m 0 ls []) := by
    clear hP hD hS hH hL
    intro H locs hP hD hS
    unfold P_X4_does at hq
    refine lv_iload_n hx hb dX4_does_0 rfl (lv_at hl 2 rfl) ?_
    refine lv_sipush (v := 1000) hx hb dX4_does_1 (by decide) ?_
    refine lv_idiv hx hb dX4_does_4 (by decide) ?_
    refine lv_istore_n (lv' := [(3, .int (four / 1000)), (0, .ref m0), (1, .int how), (2, .int four)]) hx hb dX4_does_5 rfl hl (by decide) rfl (fun ls hl => ?_)
    refine lv_iload_n hx hb dX4_does_6 rfl (lv_at hl 3 rfl) ?_
    refine lv_sipush (v := 1000) hx hb dX4_does_7 (by decide) ?_
    refine lv_irem hx hb dX4_does_10 (by decide) ?_
    refine lv_istore (lv' := [(4, .int (four - four / 1000 * 1000)), (3, .int (four / 1000)), (0, .ref m0), (1, .int how), (2, .int four)]) hx hb dX4_does_11 hl (by decide) rfl (fun ls hl => ?_)
    refine lv_iload_n hx hb dX4_does_13 rfl (lv_at hl 3 rfl) ?_
    by_cases c_14_1 : how = 1
    · replace hq := (if_pos c_14_1).symm.trans hq
      refine lv_tableIn (tgt := 64) (off := 50) hx hb dX4_does_14 (sw_lo c_14_1 (by decide)) (sw_hi c_14_1 (by decide)) (sw_at c_14_1 (by decide)) (by decide) ?_
      refine lv_iload_n hx hb dX4_does_64 rfl (lv_at hl 1 rfl) ?_
      refine lv_iconst (v := 1) hx hb dX4_does_65 (by decide) ?_
      refine lv_icmp_gt (tgt := 82) hx hb dX4_does_66 (by decide) (fun c_66 => ?_) (fun c_66 => ?_)
      · replace hq := (if_pos c_66).symm.trans hq
        refine lv_iconst (v := 0) hx hb dX4_does_82 (by decide) ?_
        subst hq
        exact k_zret (v := 0) (w1 := [oMo m0 te re no tr di ke ik mf, aI G tr 101 pt]) cx (rfl) hP hS dX4_does_83
      · replace hq := (if_neg c_66).symm.trans hq
        refine lv_iload hx hb dX4_does_69 (lv_at hl 0 rfl) ?_
        refine lv_i2l hx hb dX4_does_71 rfl ?_
        refine lv_lconst (v := 1) hx hb dX4_does_72 (by decide) ?_
        refine k_ldc2 (v := 99) cx (by decide +kernel) dX4_does_73 ?_
        have hC := c_X4_in l G (((four - four / 1000 * 1000)).toInt64) 1 99
        refine k_i (ws' := [oMo m0 te re no tr di ke ik mf, aI G tr 101 pt]) (as := []) cx hP hD hS [] rfl (kr_S (n := 3) (As := [.long ((four - four / 1000 * 1000)).toInt64, .long 1, .long 99]) cx hC gX4_does_X4_in rfl rfl rfl (by decide +kernel) ⟨Nat.le_of_ble_eq_true rfl, Nat.le_of_ble_eq_true rfl⟩ hP hD [] rfl rfl rfl rfl hl (Nat.le_of_ble_eq_true rfl) dX4_does_76 ⟨Nat.le_refl _, Nat.le_refl _⟩) ⟨rfl, rfl⟩ rfl (fun H locs hP hD hS => ?_)
        refine lv_if_ne (tgt := 84) hx hb dX4_does_79 (by decide) (fun c_79 => ?_) (fun c_79 => ?_)
        · replace hq := (if_neg c_79).symm.trans hq
          refine lv_iconst (v := 0) hx hb dX4_does_84 (by decide) ?_
          refine lv_istore (lv' := [(5, .int 0), (4, .int (four - four / 1000 * 1000)), (3, .int (four / 1000)), (0, .ref m0), (1, .int how), (2, .int four)]) hx hb dX4_does_85 hl (by decide) rfl (fun ls hl => ?_)
          exact b_X4_does_87 cx m0 te re no tr di ke ik mf how four  tgt ((((four - four / 1000 * 1000)).toInt - (0 : Int32).toInt).toNat + 1) (four / 1000) (four - four / 1000 * 1000) 0 pt (hpt) (Nat.lt_succ_self _) hq H locs hP hD hS _ (lv_sub hl [3, 2, 1, 0] rfl)
        · replace hq := (if_pos c_79).symm.trans hq
          refine lv_iconst (v := 0) hx hb dX4_does_82 (by decide) ?_
          subst hq
          exact k_zret (v := 0) (w1 := [oMo m0 te re no tr di ke ik mf, aI G tr 101 pt]) cx (rfl) hP hS dX4_does_83
    replace hq := (if_neg c_14_1).symm.trans hq
    by_cases c_14_2 : how = 2
    · replace hq := (if_pos c_14_2).symm.trans hq
      refine lv_tableIn (tgt := 133) (off := 119) hx hb dX4_does_14 (sw_lo c_14_2 (by decide)) (sw_hi c_14_2 (by decide)) (sw_at c_14_2 (by decide)) (by decide) ?_
      refine lv_iload_n hx hb dX4_does_133 rfl (lv_at hl 1 rfl) ?_
      refine lv_if_ne (tgt := 150) hx hb dX4_does_134 (by decide) (fun c_134 => ?_) (fun c_134 => ?_)
      · replace hq := (if_neg c_134).symm.trans hq
        refine lv_iconst (v := 0) hx hb dX4_does_150 (by decide) ?_
        subst hq
        exact k_zret (v := 0) (w1 := [oMo m0 te re no tr di ke ik mf, aI G tr 101 pt]) cx (rfl) hP hS dX4_does_151
      · replace hq := (if_pos c_134).symm.trans hq
        refine lv_iload hx hb dX4_does_137 (lv_at hl 0 rfl) ?_
        refine lv_i2l hx hb dX4_does_139 rfl ?_
        refine lv_lconst (v := 1) hx hb dX4_does_140 (by decide) ?_
        refine k_ldc2 (v := 200) cx (by decide +kernel) dX4_does_141 ?_
        have hC := c_X4_in l G (((four - four / 1000 * 1000)).toInt64) 1 200
        refine k_i (ws' := [oMo m0 te re no tr di ke ik mf, aI G tr 101 pt]) (as := []) cx hP hD hS [] rfl (kr_S (n := 3) (As := [.long ((four - four / 1000 * 1000)).toInt64, .long 1, .long 200]) cx hC gX4_does_X4_in rfl rfl rfl (by decide +kernel) ⟨Nat.le_of_ble_eq_true rfl, Nat.le_of_ble_eq_true rfl⟩ hP hD [] rfl rfl rfl rfl hl (Nat.le_of_ble_eq_true rfl) dX4_does_144 ⟨Nat.le_refl _, Nat.le_refl _⟩) ⟨rfl, rfl⟩ rfl (fun H locs hP hD hS => ?_)
        refine lv_if_ne (tgt := 152) hx hb dX4_does_147 (by decide) (fun c_147 => ?_) (fun c_147 => ?_)
        · replace hq := (if_neg c_147).symm.trans hq
          refine lv_aload_n hx hb dX4_does_152 rfl (lv_at hl 2 rfl) ?_
          refine k_get (v := .ref tr) (T := TX4) (C := RX4) (N := 11) cx hi_X4_does_4 hP 0 rfl rfl 6 (by decide) (by decide +kernel) rfl dX4_does_153 ?_
          refine lv_iload hx hb dX4_does_156 (lv_at hl 0 rfl) ?_
          have hC := c_X4_waitOn l G tr pt (four - four / 1000 * 1000)
          generalize hu158 : P_X4_waitOn pt (four - four / 1000 * 1000) = u158 at hC hq
          refine k_v (ws' := [oMo m0 te re no tr di ke ik mf, aI G tr 101 u158]) (as := [tr]) cx hP hD hS [1] rfl (kr_S (n := 2) (As := [.ref tr, .int (four - four / 1000 * 1000)]) cx hC gX4_does_X4_waitOn rfl rfl rfl (by decide +kernel) ⟨Nat.le_of_ble_eq_true rfl, Nat.le_of_ble_eq_true rfl⟩ hP hD [1] rfl rfl rfl rfl hl (Nat.le_of_ble_eq_true rfl) dX4_does_158 ⟨Nat.le_refl _, Nat.le_refl _⟩) ⟨rfl, rfl⟩ rfl (fun H locs hP hD hS => ?_)
          refine lv_iconst (v := 1) hx hb dX4_does_161 (by decide) ?_
          subst hq
          exact k_zret (v := 1) (w1 := [oMo m0 te re no tr di ke ik mf, aI G tr 101 u158]) cx (rfl) hP hS dX4_does_162
        · replace hq := (if_pos c_147).symm.trans hq
          refine lv_iconst (v := 0) hx hb dX4_does_150 (by decide) ?_
          subst hq
          exact k_zret (v := 0) (w1 := [oMo m0 te re no tr di ke ik mf, aI G tr 101 pt]) cx (rfl) hP hS dX4_does_151
    replace hq := (if_neg c_14_2).symm.trans hq
    by_cases c_14_3 : how = 3
    · replace hq := (if_pos c_14_3).symm.trans hq
      refine lv_tableIn (tgt := 163) (off := 149) hx hb dX4_does_14 (sw_lo c_14_3 (by decide)) (sw_hi c_14_3 (by decide)) (sw_at c_14_3 (by decide)) (by decide) ?_
      refine lv_aload_n hx hb dX4_does_163 rfl (lv_at hl 2 rfl) ?_
      refine k_get (v := .ref tr) (T := TX4) (C := RX4) (N := 11) cx hi_X4_does_4 hP 0 rfl rfl 6 (by decide) (by decide +kernel) rfl dX4_does_164 ?_
      refine lv_iconst (v := 2) hx hb dX4_does_167 (by decide) ?_
      refine lv_iload_n hx hb dX4_does_168 rfl (lv_at hl 4 rfl) ?_
      refine k_iast (ws' := [oMo m0 te re no tr di ke ik mf, aI G tr 101 (upd pt 2 four)]) (j := 2) cx hP hD hS 1 rfl (by decide) (by unfold vp_in; decide) rfl dX4_does_169 (fun H locs hP hD hS => ?_)
      refine lv_iconst (v := 1) hx hb dX4_does_170 (by decide) ?_
      subst hq
      exact k_zret (v := 1) (w1 := [oMo m0 te re no tr di ke ik mf, aI G tr 101 (upd pt 2 four)]) cx (rfl) hP hS dX4_does_171
    replace hq := (if_neg c_14_3).symm.trans hq
    by_cases c_14_4 : how = 4
    · replace hq := (if_pos c_14_4).symm.trans hq
      refine lv_tableIn (tgt := 172) (off := 158) hx hb dX4_does_14 (sw_lo c_14_4 (by decide)) (sw_hi c_14_4 (by decide)) (sw_at c_14_4 (by decide)) (by decide) ?_
      refine lv_iload_n hx hb dX4_does_172 rfl (lv_at hl 1 rfl) ?_
      refine lv_iconst (v := 2) hx hb dX4_does_173 (by decide) ?_
      refine lv_icmp_eq (tgt := 193) hx hb dX4_does_174 (by decide) (fun c_174 => ?_) (fun c_174 => ?_)
      · replace hq := (if_pos c_174).symm.trans hq
        refine lv_iconst (v := 0) hx hb dX4_does_193 (by decide) ?_
        subst hq
        exact k_zret (v := 0) (w1 := [oMo m0 te re no tr di ke ik mf, aI G tr 101 pt]) cx (rfl) hP hS dX4_does_194
      · replace hq := (if_neg c_174).symm.trans hq
        refine lv_iload hx hb dX4_does_177 (lv_at hl 0 rfl) ?_
        refine lv_bipush (v := 99) hx hb dX4_does_179 (by decide) ?_
        refine lv_icmp_gt (tgt := 193) hx hb dX4_does_181 (by decide) (fun c_181 => ?_) (fun c_181 => ?_)
        · replace hq := (if_pos c_181).symm.trans hq
          refine lv_iconst (v := 0) hx hb dX4_does_193 (by decide) ?_
          subst hq
          exact k_zret (v := 0) (w1 := [oMo m0 te re no tr di ke ik mf, aI G tr 101 pt]) cx (rfl) hP hS dX4_does_194
        · replace hq := (if_neg c_181).symm.trans hq
          refine lv_iload_n hx hb dX4_does_184 rfl (lv_at hl 1 rfl) ?_
          refine lv_iload hx hb dX4_does_185 (lv_at hl 0 rfl) ?_
          have hC := c_X4_isSetting l G (four / 1000) (four - four / 1000 * 1000)
          refine k_i (ws' := [oMo m0 te re no tr di ke ik mf, aI G tr 101 pt]) (as := []) cx hP hD hS [] rfl (kr_S (n := 2) (As := [.int (four / 1000), .int (four - four / 1000 * 1000)]) cx hC gX4_does_X4_isSetting rfl rfl rfl (by decide +kernel) ⟨Nat.le_of_ble_eq_true rfl, Nat.le_of_ble_eq_true rfl⟩ hP hD [] rfl rfl rfl rfl hl (Nat.le_of_ble_eq_true rfl) dX4_does_187 ⟨Nat.le_refl _, Nat.le_refl _⟩) ⟨rfl, rfl⟩ rfl (fun H locs hP hD hS => ?_)
          refine lv_if_ne (tgt := 195) hx hb dX4_does_190 (by decide) (fun c_190 => ?_) (fun c_190 => ?_)
          · replace hq := (if_neg c_190).symm.trans hq
            refine lv_aload_n hx hb dX4_does_195 rfl (lv_at hl 2 rfl) ?_
            refine k_get (v := .ref tr) (T := TX4) (C := RX4) (N := 11) cx hi_X4_does_4 hP 0 rfl rfl 6 (by decide) (by decide +kernel) rfl dX4_does_196 ?_
            refine lv_iload_n hx hb dX4_does_199 rfl (lv_at hl 1 rfl) ?_
            refine lv_iload hx hb dX4_does_200 (lv_at hl 0 rfl) ?_
            refine k_iast (ws' := [oMo m0 te re no tr di ke ik mf, aI G tr 101 (upd pt (four / 1000).toNatClampNeg (four - four / 1000 * 1000))]) (j := (four / 1000).toNatClampNeg) cx hP hD hS 1 rfl rfl (ix_set c_190) rfl dX4_does_202 (fun H locs hP hD hS => ?_)
            refine lv_iconst (v := 1) hx hb dX4_does_203 (by decide) ?_
            subst hq
            exact k_zret (v := 1) (w1 := [oMo m0 te re no tr di ke ik mf, aI G tr 101 (upd pt (four / 1000).toNatClampNeg (four - four / 1000 * 1000))]) cx (rfl) hP hS dX4_does_204
          · replace hq := (if_pos c_190).symm.trans hq
            refine lv_iconst (v := 0) hx hb dX4_does_193 (by decide) ?_
            subst hq
            exact k_zret (v := 0) (w1 := [oMo m0 te re no tr di ke ik mf, aI G tr 101 pt]) cx (rfl) hP hS dX4_does_194
    replace hq := (if_neg c_14_4).symm.trans hq
    by_cases c_14_5 : how = 5
    · replace hq := (if_pos c_14_5).symm.trans hq
      refine lv_tableIn (tgt := 205) (off := 191) hx hb dX4_does_14 (sw_lo c_14_5 (by decide)) (sw_hi c_14_5 (by decide)) (sw_at c_14_5 (by decide)) (by decide) ?_
      refine lv_iload hx hb dX4_does_205 (lv_at hl 0 rfl) ?_
      refine lv_if_ne (tgt := 221) hx hb dX4_does_207 (by decide) (fun c_207 => ?_) (fun c_207 => ?_)
      · replace hq := (if_neg c_207).symm.trans hq
        refine lv_iconst (v := 0) hx hb dX4_does_221 (by decide) ?_
        subst hq
        exact k_zret (v := 0) (w1 := [oMo m0 te re no tr di ke ik mf, aI G tr 101 pt]) cx (rfl) hP hS dX4_does_222
      · replace hq := (if_pos c_207).symm.trans hq
        refine lv_aload_n hx hb dX4_does_210 rfl (lv_at hl 2 rfl) ?_
        refine k_get (v := .ref tr) (T := TX4) (C := RX4) (N := 11) cx hi_X4_does_4 hP 0 rfl rfl 6 (by decide) (by decide +kernel) rfl dX4_does_211 ?_
        refine lv_iload_n hx hb dX4_does_214 rfl (lv_at hl 1 rfl) ?_
        have hC := c_X4_isUnknown l G tr pt (four / 1000)
        refine k_i (ws' := [oMo m0 te re no tr di ke ik mf, aI G tr 101 pt]) (as := [tr]) cx hP hD hS [1] rfl (kr_S (n := 2) (As := [.ref tr, .int (four / 1000)]) cx hC gX4_does_X4_isUnknown rfl rfl rfl (by decide +kernel) ⟨Nat.le_of_ble_eq_true rfl, Nat.le_of_ble_eq_true rfl⟩ hP hD [1] rfl rfl rfl rfl hl (Nat.le_of_ble_eq_true rfl) dX4_does_215 ⟨Nat.le_refl _, Nat.le_refl _⟩) ⟨rfl, rfl⟩ rfl (fun H locs hP hD hS => ?_)
        refine lv_if_ne (tgt := 223) hx hb dX4_does_218 (by decide) (fun c_218 => ?_) (fun c_218 => ?_)
        · replace hq := (if_neg c_218).symm.trans hq
          refine lv_aload_n hx hb dX4_does_223 rfl (lv_at hl 2 rfl) ?_
          refine k_get (v := .ref tr) (T := TX4) (C := RX4) (N := 11) cx hi_X4_does_4 hP 0 rfl rfl 6 (by decide) (by decide +kernel) rfl dX4_does_224 ?_
          refine lv_bipush (v := 10) hx hb dX4_does_227 (by decide) ?_
          refine lv_iload_n hx hb dX4_does_229 rfl (lv_at hl 1 rfl) ?_
          refine k_iast (ws' := [oMo m0 te re no tr di ke ik mf, aI G tr 101 (upd pt 10 (four / 1000))]) (j := 10) cx hP hD hS 1 rfl (by decide) (by unfold vp_in; decide) rfl dX4_does_230 (fun H locs hP hD hS => ?_)
          refine lv_iconst (v := 1) hx hb dX4_does_231 (by decide) ?_
          subst hq
          exact k_zret (v := 1) (w1 := [oMo m0 te re no tr di ke ik mf, aI G tr 101 (upd pt 10 (four / 1000))]) cx (rfl) hP hS dX4_does_232
        · replace hq := (if_pos c_218).symm.trans hq
          refine lv_iconst (v := 0) hx hb dX4_does_221 (by decide) ?_
          subst hq
          exact k_zret (v := 0) (w1 := [oMo m0 te re no tr di ke ik mf, aI G tr 101 pt]) cx (rfl) hP hS dX4_does_222
    replace hq := (if_neg c_14_5).symm.trans hq
    by_cases c_14_6 : how = 6
    · replace hq := (if_pos c_14_6).symm.trans hq
      refine lv_tableIn (tgt := 233) (off := 219) hx hb dX4_does_14 (sw_lo c_14_6 (by decide)) (sw_hi c_14_6 (by decide)) (sw_at c_14_6 (by decide)) (by decide) ?_
      refine lv_iload_n hx hb dX4_does_233 rfl (lv_at hl 4 rfl) ?_
      refine lv_if_ne (tgt := 248) hx hb dX4_does_234 (by decide) (fun c_234 => ?_) (fun c_234 => ?_)
      · replace hq := (if_neg c_234).symm.trans hq
        refine lv_iconst (v := 0) hx hb dX4_does_248 (by decide) ?_
        subst hq
        exact k_zret (v := 0) (w1 := [oMo m0 te re no tr di ke ik mf, aI G tr 101 pt]) cx (rfl) hP hS dX4_does_249
      · replace hq := (if_pos c_234).symm.trans hq
        refine lv_aload_n hx hb dX4_does_237 rfl (lv_at hl 2 rfl) ?_
        refine k_get (v := .ref tr) (T := TX4) (C := RX4) (N := 11) cx hi_X4_does_4 hP 0 rfl rfl 6 (by decide) (by decide +kernel) rfl dX4_does_238 ?_
        refine lv_bipush (v := 11) hx hb dX4_does_241 (by decide) ?_
        refine k_iald (j := 11) cx hP 1 rfl (by decide) (by unfold vp_in; decide) dX4_does_243 ?_
        refine lv_iconst (v := 1) hx hb dX4_does_244 (by decide) ?_
        refine lv_icmp_ne (tgt := 250) hx hb dX4_does_245 (by decide) (fun c_245 => ?_) (fun c_245 => ?_)
        · replace hq := (if_neg c_245).symm.trans hq
          refine lv_aload_n hx hb dX4_does_250 rfl (lv_at hl 2 rfl) ?_
          refine k_get (v := .ref tr) (T := TX4) (C := RX4) (N := 11) cx hi_X4_does_4 hP 0 rfl rfl 6 (by decide) (by decide +kernel) rfl dX4_does_251 ?_
          have hC := c_X4_balanceOn l G tr pt (hpt)
          generalize hu254 : P_X4_balanceOn pt = u254 at hC hq
          refine k_v (ws' := [oMo m0 te re no tr di ke ik mf, aI G tr 101 u254]) (as := [tr]) cx hP hD hS [1] rfl (kr_S (n := 1) (As := [.ref tr]) cx hC gX4_does_X4_balanceOn rfl rfl rfl (by decide +kernel) ⟨Nat.le_of_ble_eq_true rfl, Nat.le_of_ble_eq_true rfl⟩ hP hD [1] rfl rfl rfl rfl hl (Nat.le_of_ble_eq_true rfl) dX4_does_254 ⟨Nat.le_refl _, Nat.le_refl _⟩) ⟨rfl, rfl⟩ rfl (fun H locs hP hD hS => ?_)
          refine lv_iconst (v := 1) hx hb dX4_does_257 (by decide) ?_
          subst hq
          exact k_zret (v := 1) (w1 := [oMo m0 te re no tr di ke ik mf, aI G tr 101 u254]) cx (rfl) hP hS dX4_does_258
        · replace hq := (if_pos c_245).symm.trans hq
          refine lv_iconst (v := 0) hx hb dX4_does_248 (by decide) ?_
          subst hq
          exact k_zret (v := 0) (w1 := [oMo m0 te re no tr di ke ik mf, aI G tr 101 pt]) cx (rfl) hP hS dX4_does_249
    replace hq := (if_neg c_14_6).symm.trans hq
    by_cases c_14_7 : how = 7
    · replace hq := (if_pos c_14_7).symm.trans hq
      refine lv_tableIn (tgt := 259) (off := 245) hx hb dX4_does_14 (sw_lo c_14_7 (by decide)) (sw_hi c_14_7 (by decide)) (sw_at c_14_7 (by decide)) (by decide) ?_
      refine lv_aload_n hx hb dX4_does_259 rfl (lv_at hl 2 rfl) ?_
      refine k_get (v := .ref tr) (T := TX4) (C := RX4) (N := 11) cx hi_X4_does_4 hP 0 rfl rfl 6 (by decide) (by decide +kernel) rfl dX4_does_260 ?_
      refine lv_iconst (v := 2) hx hb dX4_does_263 (by decide) ?_
      refine k_iald (j := 2) cx hP 1 rfl (by decide) (by unfold vp_in; decide) dX4_does_264 ?_
      refine lv_iload_n hx hb dX4_does_265 rfl (lv_at hl 4 rfl) ?_
      refine lv_icmp_ne (tgt := 273) hx hb dX4_does_266 (by decide) (fun c_266 => ?_) (fun c_266 => ?_)
      · replace hq := (if_neg c_266).symm.trans hq
        refine lv_iconst (v := 0) hx hb dX4_does_273 (by decide) ?_
        subst hq
        exact k_zret (v := 0) (w1 := [oMo m0 te re no tr di ke ik mf, aI G tr 101 pt]) cx (rfl) hP hS dX4_does_274
      · replace hq := (if_pos c_266).symm.trans hq
        refine lv_iconst (v := 1) hx hb dX4_does_269 (by decide) ?_
        refine lv_goto (tgt := 274) hx hb dX4_does_270 (by decide) ?_
        subst hq
        exact k_zret (v := 1) (w1 := [oMo m0 te re no tr di ke ik mf, aI G tr 101 pt]) cx (rfl) hP hS dX4_does_274
    replace hq := (if_neg c_14_7).symm.trans hq
    by_cases c_14_8 : how = 8
    · replace hq := (if_pos c_14_8).symm.trans hq
      refine lv_tableIn (tgt := 275) (off := 261) hx hb dX4_does_14 (sw_lo c_14_8 (by decide)) (sw_hi c_14_8 (by decide)) (sw_at c_14_8 (by decide)) (by decide) ?_
      refine lv_iload_n hx hb dX4_does_275 rfl (lv_at hl 1 rfl) ?_
      refine lv_iconst (v := 2) hx hb dX4_does_276 (by decide) ?_
      refine lv_icmp_ge (tgt := 316) hx hb dX4_does_277 (by decide) (fun c_277 => ?_) (fun c_277 => ?_)
      · replace hq := (if_pos c_277).symm.trans hq
        refine lv_iconst (v := 0) hx hb dX4_does_316 (by decide) ?_
        subst hq
        exact k_zret (v := 0) (w1 := [oMo m0 te re no tr di ke ik mf, aI G tr 101 pt]) cx (rfl) hP hS dX4_does_317
      · replace hq := (if_neg c_277).symm.trans hq
        refine lv_aload_n hx hb dX4_does_280 rfl (lv_at hl 2 rfl) ?_
        refine k_get (v := .ref tr) (T := TX4) (C := RX4) (N := 11) cx hi_X4_does_4 hP 0 rfl rfl 6 (by decide) (by decide +kernel) rfl dX4_does_281 ?_
        refine lv_bipush (v := 12) hx hb dX4_does_284 (by decide) ?_
        refine k_iald (j := 12) cx hP 1 rfl (by decide) (by unfold vp_in; decide) dX4_does_286 ?_
        refine lv_if_le (tgt := 316) hx hb dX4_does_287 (by decide) (fun c_287 => ?_) (fun c_287 => ?_)
        · replace hq := (if_pos c_287).symm.trans hq
          refine lv_iconst (v := 0) hx hb dX4_does_316 (by decide) ?_
          subst hq
          exact k_zret (v := 0) (w1 := [oMo m0 te re no tr di ke ik mf, aI G tr 101 pt]) cx (rfl) hP hS dX4_does_317
        · replace hq := (if_neg c_287).symm.trans hq
          refine lv_aload_n hx hb dX4_does_290 rfl (lv_at hl 2 rfl) ?_
          refine k_get (v := .ref tr) (T := TX4) (C := RX4) (N := 11) cx hi_X4_does_4 hP 0 rfl rfl 6 (by decide) (by decide +kernel) rfl dX4_does_291 ?_
          refine lv_bipush (v := 21) hx hb dX4_does_294 (by decide) ?_
          refine k_iald (j := 21) cx hP 1 rfl (by decide) (by unfold vp_in; decide) dX4_does_296 ?_
          refine lv_iload_n hx hb dX4_does_297 rfl (lv_at hl 1 rfl) ?_
          have J309 : ∀ (j309_s0 : Int32), (if (pt 21) = j309_s0 then (1, pt) else (0, pt)) = tgt → ∀ (H : Heap) (locs : List Loc) (ls : Array Slot), va_P G.1 vwCl [oMo m0 te re no tr di ke ik mf, aI G tr 101 pt] H → va_D A [oMo m0 te re no tr di ke ik mf, aI G tr 101 pt] → va_S A s.heap H locs → lv_has ls 6 [(0, .ref m0)] → W p l e rm_X4_does s m args below meth c H locs 0 0 (Q_X4_does G m0 te re no tr di ke ik mf tgt below args s A) (F0 m 309 ls [.int j309_s0, .int (pt 21)]) := by
            intro j309_s0 hq H locs ls hP hD hS hl
            refine lv_icmp_ne (tgt := 316) hx hb dX4_does_309 (by decide) (fun c_309 => ?_) (fun c_309 => ?_)
            · replace hq := (if_neg c_309).symm.trans hq
              refine lv_iconst (v := 0) hx hb dX4_does_316 (by decide) ?_
              subst hq
              exact k_zret (v := 0) (w1 := [oMo m0 te re no tr di ke ik mf, aI G tr 101 pt]) cx (rfl) hP hS dX4_does_317
            · replace hq := (if_pos c_309).symm.trans hq
              refine lv_iconst (v := 1) hx hb dX4_does_312 (by decide) ?_
              refine lv_goto (tgt := 317) hx hb dX4_does_313 (by decide) ?_
              subst hq
              exact k_zret (v := 1) (w1 := [oMo m0 te re no tr di ke ik mf, aI G tr 101 pt]) cx (rfl) hP hS dX4_does_317
          refine lv_if_ne (tgt := 306) hx hb dX4_does_298 (by decide) (fun c_298 => ?_) (fun c_298 => ?_)
          · replace hq := (if_neg c_298).symm.trans hq
            refine lv_iload hx hb dX4_does_306 (lv_at hl 0 rfl) ?_
            refine lv_ineg hx hb dX4_does_308 ?_
            exact J309 (-(four - four / 1000 * 1000)) hq H locs ls hP hD hS (lv_sub hl [2] rfl)
          · replace hq := (if_pos c_298).symm.trans hq
            refine lv_iload hx hb dX4_does_301 (lv_at hl 0 rfl) ?_
            refine lv_goto (tgt := 309) hx hb dX4_does_303 (by decide) ?_
            exact J309 (four - four / 1000 * 1000) hq H locs ls hP hD hS (lv_sub hl [2] rfl)
    replace hq := (if_neg c_14_8).symm.trans hq
    by_cases c_14_9 : how = 9
    · replace hq := (if_pos c_14_9).symm.trans hq
      refine lv_tableIn (tgt := 318) (off := 304) hx hb dX4_does_14 (sw_lo c_14_9 (by decide)) (sw_hi c_14_9 (by decide)) (sw_at c_14_9 (by decide)) (by decide) ?_
      refine lv_iload_n hx hb dX4_does_318 rfl (lv_at hl 1 rfl) ?_
      refine lv_iconst (v := 2) hx hb dX4_does_319 (by decide) ?_
      refine lv_icmp_ge (tgt := 356) hx hb dX4_does_320 (by decide) (fun c_320 => ?_) (fun c_320 => ?_)
      · replace hq := (if_pos c_320).symm.trans hq
        refine lv_iconst (v := 0) hx hb dX4_does_356 (by decide) ?_
        subst hq
        exact k_zret (v := 0) (w1 := [oMo m0 te re no tr di ke ik mf, aI G tr 101 pt]) cx (rfl) hP hS dX4_does_357
      · replace hq := (if_neg c_320).symm.trans hq
        refine lv_iload hx hb dX4_does_323 (lv_at hl 0 rfl) ?_
        refine lv_bipush (v := 100) hx hb dX4_does_325 (by decide) ?_
        refine lv_icmp_ge (tgt := 356) hx hb dX4_does_327 (by decide) (fun c_327 => ?_) (fun c_327 => ?_)
        · replace hq := (if_pos c_327).symm.trans hq
          refine lv_iconst (v := 0) hx hb dX4_does_356 (by decide) ?_
          subst hq
          exact k_zret (v := 0) (w1 := [oMo m0 te re no tr di ke ik mf, aI G tr 101 pt]) cx (rfl) hP hS dX4_does_357
        · replace hq := (if_neg c_327).symm.trans hq
          refine lv_aload_n hx hb dX4_does_330 rfl (lv_at hl 2 rfl) ?_
          refine k_get (v := .ref tr) (T := TX4) (C := RX4) (N := 11) cx hi_X4_does_4 hP 0 rfl rfl 6 (by decide) (by decide +kernel) rfl dX4_does_331 ?_
          have hC := c_X4_offsetOf l G tr pt
          refine k_i (ws' := [oMo m0 te re no tr di ke ik mf, aI G tr 101 pt]) (as := [tr]) cx hP hD hS [1] rfl (kr_S (n := 1) (As := [.ref tr]) cx hC gX4_does_X4_offsetOf rfl rfl rfl (by decide +kernel) ⟨Nat.le_of_ble_eq_true rfl, Nat.le_of_ble_eq_true rfl⟩ hP hD [1] rfl rfl rfl rfl hl (Nat.le_of_ble_eq_true rfl) dX4_does_334 ⟨Nat.le_refl _, Nat.le_refl _⟩) ⟨rfl, rfl⟩ rfl (fun H locs hP hD hS => ?_)
          refine lv_iload_n hx hb dX4_does_337 rfl (lv_at hl 1 rfl) ?_
          have J349 : ∀ (j349_s0 : Int32), (if j349_s0 < (P_X4_offsetOf pt) then (0, pt) else (1, pt)) = tgt → ∀ (H : Heap) (locs : List Loc) (ls : Array Slot), va_P G.1 vwCl [oMo m0 te re no tr di ke ik mf, aI G tr 101 pt] H → va_D A [oMo m0 te re no tr di ke ik mf, aI G tr 101 pt] → va_S A s.heap H locs → lv_has ls 6 [(0, .ref m0)] → W p l e rm_X4_does s m args below meth c H locs 0 0 (Q_X4_does G m0 te re no tr di ke ik mf tgt below args s A) (F0 m 349 ls [.int j349_s0, .int (P_X4_offsetOf pt)]) := by
            intro j349_s0 hq H locs ls hP hD hS hl
            refine lv_icmp_gt (tgt := 356) hx hb dX4_does_349 (by decide) (fun c_349 => ?_) (fun c_349 => ?_)
            · replace hq := (if_pos c_349).symm.trans hq
              refine lv_iconst (v := 0) hx hb dX4_does_356 (by decide) ?_
              subst hq
              exact k_zret (v := 0) (w1 := [oMo m0 te re no tr di ke ik mf, aI G tr 101 pt]) cx (rfl) hP hS dX4_does_357
            · replace hq := (if_neg c_349).symm.trans hq
              refine lv_iconst (v := 1) hx hb dX4_does_352 (by decide) ?_
              refine lv_goto (tgt := 357) hx hb dX4_does_353 (by decide) ?_
              subst hq
              exact k_zret (v := 1) (w1 := [oMo m0 te re no tr di ke ik mf, aI G tr 101 pt]) cx (rfl) hP hS dX4_does_357
          refine lv_if_ne (tgt := 346) hx hb dX4_does_338 (by decide) (fun c_338 => ?_) (fun c_338 => ?_)
          · replace hq := (if_neg c_338).symm.trans hq
            refine lv_iload hx hb dX4_does_346 (lv_at hl 0 rfl) ?_
            refine lv_ineg hx hb dX4_does_348 ?_
            exact J349 (-(four - four / 1000 * 1000)) hq H locs ls hP hD hS (lv_sub hl [2] rfl)
          · replace hq := (if_pos c_338).symm.trans hq
            refine lv_iload hx hb dX4_does_341 (lv_at hl 0 rfl) ?_
            refine lv_goto (tgt := 349) hx hb dX4_does_343 (by decide) ?_
            exact J349 (four - four / 1000 * 1000) hq H locs ls hP hD hS (lv_sub hl [2] rfl)
    replace hq := (if_neg c_14_9).symm.trans hq
    have e1 := lv_neT (a := 1) c_14_1 (by decide)
    have e2 := lv_neT (a := 2) c_14_2 (by decide)
    have e3 := lv_neT (a := 3) c_14_3 (by decide)
    have e4 := lv_neT (a := 4) c_14_4 (by decide)
    have e5 := lv_neT (a := 5) c_14_5 (by decide)
    have e6 := lv_neT (a := 6) c_14_6 (by decide)
    have e7 := lv_neT (a := 7) c_14_7 (by decide)
    have e8 := lv_neT (a := 8) c_14_8 (by decide)
    have e9 := lv_neT (a := 9) c_14_9 (by decide)
    refine lv_tableOut (tgt := 358) hx hb dX4_does_14 (by omega) (by decide) ?_
    refine lv_iconst (v := 0) hx hb dX4_does_358 (by decide) ?_
    subst hq
    exact k_zret (v := 0) (w1 := [oMo m0 te re no tr di ke ik mf, aI G tr 101 pt]) cx (rfl) hP hS dX4_does_359
  subst hL
  subst hH
  subst hq
  exact key _ _ hP hD hS
