/-! X4_in -/
abbrev rm_X4_in : Room := { frames := 0, cells := 0, slots := 0, locals := 0 }
abbrev Q_X4_in (G : gG)    (tgt : Int32) (below : List Frame) (args : Array Value) (s : State) (A : Nat → Prop) : State → Prop := MQ below (qI G tgt [] A) args s 0 0 A
def P_X4_in (v : Int64) (lo : Int64) (hi : Int64) : Int32 := (if (lg_cmp v lo) < 0 then 0 else (if 0 < (lg_cmp v hi) then 0 else 1))
set_option maxHeartbeats 4000000 in
set_option maxRecDepth 100000 in
theorem c_X4_in (l : Launch) (G : gG)  (v : Int64) (lo : Int64) (hi : Int64)  : kM l G yX4_in wsX4_in rm_X4_in [.long v, .long lo, .long hi] [] (qI G ((P_X4_in v lo hi)) []) := by
  refine k_body (cc := cX4_in) (nL := 6) (ret := (some .boolean)) (by decide) rfl (Nat.le_of_ble_eq_true rfl) ?_
  intro p e s m args below meth c A cx hP hD hS ls hl
  obtain ⟨hx, hb, hml, hown, hts, hr, hlocks, hK, hA⟩ := id cx
  obtain ⟨H, hH⟩ : ∃ H, H = s.heap := ⟨_, rfl⟩
  obtain ⟨locs, hL⟩ : ∃ locs : List Loc, locs = [] := ⟨_, rfl⟩
  obtain ⟨tgt, hq⟩ : ∃ tgt, (P_X4_in v lo hi) = tgt := ⟨_, rfl⟩
  have hS : va_S A s.heap H locs := by rw [hH, hL]; exact hS
  rw [← hH] at hP
  have hl : lv_has ls 6 [(0, .long v), (2, .long lo), (4, .long hi)] := hl
  have key : ∀ (H : Heap) (locs : List Loc), va_P G.1 vwCl [] H → va_D A [] → va_S A s.heap H locs → W p l e rm_X4_in s m args below meth c H locs 0 0 (Q_X4_in G  tgt below args s A) (F0 m 0 ls []) := by
    clear hP hD hS hH hL
    intro H locs hP hD hS
    unfold P_X4_in at hq
    refine lv_lload_n hx hb dX4_in_0 rfl (lv_at hl 0 rfl) ?_
    refine lv_lload_n hx hb dX4_in_1 rfl (lv_at hl 1 rfl) ?_
    refine W.lcmp hx hb dX4_in_2 ?_
    refine lv_if_lt (tgt := 17) hx hb dX4_in_3 (by decide) (fun c_3 => ?_) (fun c_3 => ?_)
    · replace hq := (if_pos c_3).symm.trans hq
      refine lv_iconst (v := 0) hx hb dX4_in_17 (by decide) ?_
      subst hq
      exact k_zret (v := 0) (w1 := []) cx (rfl) hP hS dX4_in_18
    · replace hq := (if_neg c_3).symm.trans hq
      refine lv_lload_n hx hb dX4_in_6 rfl (lv_at hl 0 rfl) ?_
      refine lv_lload hx hb dX4_in_7 (lv_at hl 2 rfl) ?_
      refine W.lcmp hx hb dX4_in_9 ?_
      refine lv_if_gt (tgt := 17) hx hb dX4_in_10 (by decide) (fun c_10 => ?_) (fun c_10 => ?_)
      · replace hq := (if_pos c_10).symm.trans hq
        refine lv_iconst (v := 0) hx hb dX4_in_17 (by decide) ?_
        subst hq
        exact k_zret (v := 0) (w1 := []) cx (rfl) hP hS dX4_in_18
      · replace hq := (if_neg c_10).symm.trans hq
        refine lv_iconst (v := 1) hx hb dX4_in_13 (by decide) ?_
        refine lv_goto (tgt := 18) hx hb dX4_in_14 (by decide) ?_
        subst hq
        exact k_zret (v := 1) (w1 := []) cx (rfl) hP hS dX4_in_18
  subst hL
  subst hH
  subst hq
  exact key _ _ hP hD hS
theorem zb_X4_in (v : Int64) (lo : Int64) (hi : Int64) : P_X4_in v lo hi = 0 ∨ P_X4_in v lo hi = 1 := by
  unfold P_X4_in
  repeat' first | with_reducible refine zif ?_ ?_ | with_reducible exact Or.inl rfl | with_reducible exact Or.inr rfl 

/-! X4_isSetting -/
abbrev rm_X4_isSetting : Room := { frames := 1, cells := 0, slots := 0, locals := 25 }
abbrev Q_X4_isSetting (G : gG)    (tgt : Int32) (below : List Frame) (args : Array Value) (s : State) (A : Nat → Prop) : State → Prop := MQ below (qI G tgt [] A) args s 0 0 A
def P_X4_isSetting (what : Int32) (v : Int32) : Int32 := (if what = 0 then (P_X4_in ((v).toInt64) 0 3) else if what = 1 then (P_X4_in ((v).toInt64) 0 3) else if what = 2 then (P_X4_in ((v).toInt64) 0 9999) else if what = 3 then (P_X4_in ((v).toInt64) 1 99) else if what = 4 then (P_X4_in ((v).toInt64) 0 3) else if what = 5 then (P_X4_in ((v).toInt64) (-50) 50) else (if what = 6 then (if (P_X4_in ((v).toInt64) 0 20) = 0 then 0 else 1) else 0))
set_option maxHeartbeats 4000000 in
set_option maxRecDepth 100000 in
theorem c_X4_isSetting (l : Launch) (G : gG)  (what : Int32) (v : Int32)  : kM l G yX4_isSetting wsX4_isSetting rm_X4_isSetting [.int what, .int v] [] (qI G ((P_X4_isSetting what v)) []) := by
  refine k_body (cc := cX4_isSetting) (nL := 2) (ret := (some .boolean)) (by decide) rfl (Nat.le_of_ble_eq_true rfl) ?_
  intro p e s m args below meth c A cx hP hD hS ls hl
  obtain ⟨hx, hb, hml, hown, hts, hr, hlocks, hK, hA⟩ := id cx
  obtain ⟨H, hH⟩ : ∃ H, H = s.heap := ⟨_, rfl⟩
  obtain ⟨locs, hL⟩ : ∃ locs : List Loc, locs = [] := ⟨_, rfl⟩
  obtain ⟨tgt, hq⟩ : ∃ tgt, (P_X4_isSetting what v) = tgt := ⟨_, rfl⟩
  have hS : va_S A s.heap H locs := by rw [hH, hL]; exact hS
  rw [← hH] at hP
  have hl : lv_has ls 2 [(0, .int what), (1, .int v)] := hl
  have key : ∀ (H : Heap) (locs : List Loc), va_P G.1 vwCl [] H → va_D A [] → va_S A s.heap H locs → W p l e rm_X4_isSetting s m args below meth c H locs 0 0 (Q_X4_isSetting G  tgt below args s A) (F0 m 0 ls []) := by
    clear hP hD hS hH hL
    intro H locs hP hD hS
    unfold P_X4_isSetting at hq
    refine lv_iload_n hx hb dX4_isSetting_0 rfl (lv_at hl 0 rfl) ?_
    by_cases c_1_0 : what = 0
    · replace hq := (if_pos c_1_0).symm.trans hq
      refine lv_tableIn (tgt := 40) (off := 39) hx hb dX4_isSetting_1 (sw_lo c_1_0 (by decide)) (sw_hi c_1_0 (by decide)) (sw_at c_1_0 (by decide)) (by decide) ?_
      refine lv_iload_n hx hb dX4_isSetting_40 rfl (lv_at hl 1 rfl) ?_
      refine lv_i2l hx hb dX4_isSetting_41 rfl ?_
      refine lv_lconst (v := 0) hx hb dX4_isSetting_42 (by decide) ?_
      refine k_ldc2 (v := 3) cx (by decide +kernel) dX4_isSetting_43 ?_
      have hC := c_X4_in l G ((v).toInt64) 0 3
      refine k_i (ws' := []) (as := []) cx hP hD hS [] rfl (kr_S (n := 3) (As := [.long (v).toInt64, .long 0, .long 3]) cx hC gX4_isSetting_X4_in rfl rfl rfl (by decide +kernel) ⟨Nat.le_of_ble_eq_true rfl, Nat.le_of_ble_eq_true rfl⟩ hP hD [] rfl rfl rfl rfl hl (Nat.le_of_ble_eq_true rfl) dX4_isSetting_46 ⟨Nat.le_refl _, Nat.le_refl _⟩) ⟨rfl, rfl⟩ rfl (fun H locs hP hD hS => ?_)
      subst hq
      exact k_zret (v := (P_X4_in ((v).toInt64) 0 3)) (w1 := []) cx (by first | with_reducible exact nz (zb_X4_in _ _ _) | exact rfl) hP hS dX4_isSetting_49
    replace hq := (if_neg c_1_0).symm.trans hq
    by_cases c_1_1 : what = 1
    · replace hq := (if_pos c_1_1).symm.trans hq
      refine lv_tableIn (tgt := 40) (off := 39) hx hb dX4_isSetting_1 (sw_lo c_1_1 (by decide)) (sw_hi c_1_1 (by decide)) (sw_at c_1_1 (by decide)) (by decide) ?_
      refine lv_iload_n hx hb dX4_isSetting_40 rfl (lv_at hl 1 rfl) ?_
      refine lv_i2l hx hb dX4_isSetting_41 rfl ?_
      refine lv_lconst (v := 0) hx hb dX4_isSetting_42 (by decide) ?_
      refine k_ldc2 (v := 3) cx (by decide +kernel) dX4_isSetting_43 ?_
      have hC := c_X4_in l G ((v).toInt64) 0 3
      refine k_i (ws' := []) (as := []) cx hP hD hS [] rfl (kr_S (n := 3) (As := [.long (v).toInt64, .long 0, .long 3]) cx hC gX4_isSetting_X4_in rfl rfl rfl (by decide +kernel) ⟨Nat.le_of_ble_eq_true rfl, Nat.le_of_ble_eq_true rfl⟩ hP hD [] rfl rfl rfl rfl hl (Nat.le_of_ble_eq_true rfl) dX4_isSetting_46 ⟨Nat.le_refl _, Nat.le_refl _⟩) ⟨rfl, rfl⟩ rfl (fun H locs hP hD hS => ?_)
      subst hq
      exact k_zret (v := (P_X4_in ((v).toInt64) 0 3)) (w1 := []) cx (by first | with_reducible exact nz (zb_X4_in _ _ _) | exact rfl) hP hS dX4_isSetting_49
    replace hq := (if_neg c_1_1).symm.trans hq
    by_cases c_1_2 : what = 2
    · replace hq := (if_pos c_1_2).symm.trans hq
      refine lv_tableIn (tgt := 50) (off := 49) hx hb dX4_isSetting_1 (sw_lo c_1_2 (by decide)) (sw_hi c_1_2 (by decide)) (sw_at c_1_2 (by decide)) (by decide) ?_
      refine lv_iload_n hx hb dX4_isSetting_50 rfl (lv_at hl 1 rfl) ?_
      refine lv_i2l hx hb dX4_isSetting_51 rfl ?_
      refine lv_lconst (v := 0) hx hb dX4_isSetting_52 (by decide) ?_
      refine k_ldc2 (v := 9999) cx (by decide +kernel) dX4_isSetting_53 ?_
      have hC := c_X4_in l G ((v).toInt64) 0 9999
      refine k_i (ws' := []) (as := []) cx hP hD hS [] rfl (kr_S (n := 3) (As := [.long (v).toInt64, .long 0, .long 9999]) cx hC gX4_isSetting_X4_in rfl rfl rfl (by decide +kernel) ⟨Nat.le_of_ble_eq_true rfl, Nat.le_of_ble_eq_true rfl⟩ hP hD [] rfl rfl rfl rfl hl (Nat.le_of_ble_eq_true rfl) dX4_isSetting_56 ⟨Nat.le_refl _, Nat.le_refl _⟩) ⟨rfl, rfl⟩ rfl (fun H locs hP hD hS => ?_)
      subst hq
      exact k_zret (v := (P_X4_in ((v).toInt64) 0 9999)) (w1 := []) cx (by first | with_reducible exact nz (zb_X4_in _ _ _) | exact rfl) hP hS dX4_isSetting_59
    replace hq := (if_neg c_1_2).symm.trans hq
    by_cases c_1_3 : what = 3
    · replace hq := (if_pos c_1_3).symm.trans hq
      refine lv_tableIn (tgt := 60) (off := 59) hx hb dX4_isSetting_1 (sw_lo c_1_3 (by decide)) (sw_hi c_1_3 (by decide)) (sw_at c_1_3 (by decide)) (by decide) ?_
      refine lv_iload_n hx hb dX4_isSetting_60 rfl (lv_at hl 1 rfl) ?_
      refine lv_i2l hx hb dX4_isSetting_61 rfl ?_
      refine lv_lconst (v := 1) hx hb dX4_isSetting_62 (by decide) ?_
      refine k_ldc2 (v := 99) cx (by decide +kernel) dX4_isSetting_63 ?_
      have hC := c_X4_in l G ((v).toInt64) 1 99
      refine k_i (ws' := []) (as := []) cx hP hD hS [] rfl (kr_S (n := 3) (As := [.long (v).toInt64, .long 1, .long 99]) cx hC gX4_isSetting_X4_in rfl rfl rfl (by decide +kernel) ⟨Nat.le_of_ble_eq_true rfl, Nat.le_of_ble_eq_true rfl⟩ hP hD [] rfl rfl rfl rfl hl (Nat.le_of_ble_eq_true rfl) dX4_isSetting_66 ⟨Nat.le_refl _, Nat.le_refl _⟩) ⟨rfl, rfl⟩ rfl (fun H locs hP hD hS => ?_)
      subst hq
      exact k_zret (v := (P_X4_in ((v).toInt64) 1 99)) (w1 := []) cx (by first | with_reducible exact nz (zb_X4_in _ _ _) | exact rfl) hP hS dX4_isSetting_69
    replace hq := (if_neg c_1_3).symm.trans hq
    by_cases c_1_4 : what = 4
    · replace hq := (if_pos c_1_4).symm.trans hq
      refine lv_tableIn (tgt := 40) (off := 39) hx hb dX4_isSetting_1 (sw_lo c_1_4 (by decide)) (sw_hi c_1_4 (by decide)) (sw_at c_1_4 (by decide)) (by decide) ?_
      refine lv_iload_n hx hb dX4_isSetting_40 rfl (lv_at hl 1 rfl) ?_
      refine lv_i2l hx hb dX4_isSetting_41 rfl ?_
      refine lv_lconst (v := 0) hx hb dX4_isSetting_42 (by decide) ?_
      refine k_ldc2 (v := 3) cx (by decide +kernel) dX4_isSetting_43 ?_
      have hC := c_X4_in l G ((v).toInt64) 0 3
      refine k_i (ws' := []) (as := []) cx hP hD hS [] rfl (kr_S (n := 3) (As := [.long (v).toInt64, .long 0, .long 3]) cx hC gX4_isSetting_X4_in rfl rfl rfl (by decide +kernel) ⟨Nat.le_of_ble_eq_true rfl, Nat.le_of_ble_eq_true rfl⟩ hP hD [] rfl rfl rfl rfl hl (Nat.le_of_ble_eq_true rfl) dX4_isSetting_46 ⟨Nat.le_refl _, Nat.le_refl _⟩) ⟨rfl, rfl⟩ rfl (fun H locs hP hD hS => ?_)
      subst hq
      exact k_zret (v := (P_X4_in ((v).toInt64) 0 3)) (w1 := []) cx (by first | with_reducible exact nz (zb_X4_in _ _ _) | exact rfl) hP hS dX4_isSetting_49
    replace hq := (if_neg c_1_4).symm.trans hq
    by_cases c_1_5 : what = 5
    · replace hq := (if_pos c_1_5).symm.trans hq
      refine lv_tableIn (tgt := 70) (off := 69) hx hb dX4_isSetting_1 (sw_lo c_1_5 (by decide)) (sw_hi c_1_5 (by decide)) (sw_at c_1_5 (by decide)) (by decide) ?_
      refine lv_iload_n hx hb dX4_isSetting_70 rfl (lv_at hl 1 rfl) ?_
      refine lv_i2l hx hb dX4_isSetting_71 rfl ?_
      refine k_ldc2 (v := (-50)) cx (by decide +kernel) dX4_isSetting_72 ?_
      refine k_ldc2 (v := 50) cx (by decide +kernel) dX4_isSetting_75 ?_
      have hC := c_X4_in l G ((v).toInt64) (-50) 50
      refine k_i (ws' := []) (as := []) cx hP hD hS [] rfl (kr_S (n := 3) (As := [.long (v).toInt64, .long (-50), .long 50]) cx hC gX4_isSetting_X4_in rfl rfl rfl (by decide +kernel) ⟨Nat.le_of_ble_eq_true rfl, Nat.le_of_ble_eq_true rfl⟩ hP hD [] rfl rfl rfl rfl hl (Nat.le_of_ble_eq_true rfl) dX4_isSetting_78 ⟨Nat.le_refl _, Nat.le_refl _⟩) ⟨rfl, rfl⟩ rfl (fun H locs hP hD hS => ?_)
      subst hq
      exact k_zret (v := (P_X4_in ((v).toInt64) (-50) 50)) (w1 := []) cx (by first | with_reducible exact nz (zb_X4_in _ _ _) | exact rfl) hP hS dX4_isSetting_81
    replace hq := (if_neg c_1_5).symm.trans hq
    have e0 := lv_neT (a := 0) c_1_0 (by decide)
    have e1 := lv_neT (a := 1) c_1_1 (by decide)
    have e2 := lv_neT (a := 2) c_1_2 (by decide)
    have e3 := lv_neT (a := 3) c_1_3 (by decide)
    have e4 := lv_neT (a := 4) c_1_4 (by decide)
    have e5 := lv_neT (a := 5) c_1_5 (by decide)
    refine lv_tableOut (tgt := 82) hx hb dX4_isSetting_1 (by omega) (by decide) ?_
    refine lv_iload_n hx hb dX4_isSetting_82 rfl (lv_at hl 0 rfl) ?_
    refine lv_bipush (v := 6) hx hb dX4_isSetting_83 (by decide) ?_
    refine lv_icmp_ne (tgt := 104) hx hb dX4_isSetting_85 (by decide) (fun c_85 => ?_) (fun c_85 => ?_)
    · replace hq := (if_neg c_85).symm.trans hq
      refine lv_iconst (v := 0) hx hb dX4_isSetting_104 (by decide) ?_
      subst hq
      exact k_zret (v := 0) (w1 := []) cx (by first | with_reducible exact nz (zb_X4_in _ _ _) | exact rfl) hP hS dX4_isSetting_105
    · replace hq := (if_pos c_85).symm.trans hq
      refine lv_iload_n hx hb dX4_isSetting_88 rfl (lv_at hl 1 rfl) ?_
      refine lv_i2l hx hb dX4_isSetting_89 rfl ?_
      refine lv_lconst (v := 0) hx hb dX4_isSetting_90 (by decide) ?_
      refine k_ldc2 (v := 20) cx (by decide +kernel) dX4_isSetting_91 ?_
      have hC := c_X4_in l G ((v).toInt64) 0 20
      refine k_i (ws' := []) (as := []) cx hP hD hS [] rfl (kr_S (n := 3) (As := [.long (v).toInt64, .long 0, .long 20]) cx hC gX4_isSetting_X4_in rfl rfl rfl (by decide +kernel) ⟨Nat.le_of_ble_eq_true rfl, Nat.le_of_ble_eq_true rfl⟩ hP hD [] rfl rfl rfl rfl hl (Nat.le_of_ble_eq_true rfl) dX4_isSetting_94 ⟨Nat.le_refl _, Nat.le_refl _⟩) ⟨rfl, rfl⟩ rfl (fun H locs hP hD hS => ?_)
      refine lv_if_eq (tgt := 104) hx hb dX4_isSetting_97 (by decide) (fun c_97 => ?_) (fun c_97 => ?_)
      · replace hq := (if_pos c_97).symm.trans hq
        refine lv_iconst (v := 0) hx hb dX4_isSetting_104 (by decide) ?_
        subst hq
        exact k_zret (v := 0) (w1 := []) cx (by first | with_reducible exact nz (zb_X4_in _ _ _) | exact rfl) hP hS dX4_isSetting_105
      · replace hq := (if_neg c_97).symm.trans hq
        refine lv_iconst (v := 1) hx hb dX4_isSetting_100 (by decide) ?_
        refine lv_goto (tgt := 105) hx hb dX4_isSetting_101 (by decide) ?_
        subst hq
        exact k_zret (v := 1) (w1 := []) cx (by first | with_reducible exact nz (zb_X4_in _ _ _) | exact rfl) hP hS dX4_isSetting_105
  subst hL
  subst hH
  subst hq
  exact key _ _ hP hD hS
theorem zb_X4_isSetting (what : Int32) (v : Int32) : P_X4_isSetting what v = 0 ∨ P_X4_isSetting what v = 1 := by
  unfold P_X4_isSetting
  repeat' first | with_reducible refine zif ?_ ?_ | with_reducible exact Or.inl rfl | with_reducible exact Or.inr rfl | with_reducible exact zb_X4_in _ _ _

/-! X4_ten -/
abbrev rm_X4_ten : Room := { frames := 0, cells := 0, slots := 0, locals := 0 }
abbrev Q_X4_ten (G : gG)    (tgt : Int32) (below : List Frame) (args : Array Value) (s : State) (A : Nat → Prop) : State → Prop := MQ below (qI G tgt [] A) args s 0 0 A
def P_X4_ten (ix : Int32) : Int32 := (if ix = 0 then 1 else (if ix = 1 then 10 else (if ix = 2 then 100 else 1000)))
set_option maxHeartbeats 4000000 in
set_option maxRecDepth 100000 in
theorem c_X4_ten (l : Launch) (G : gG)  (ix : Int32)  : kM l G yX4_ten wsX4_ten rm_X4_ten [.int ix] [] (qI G ((P_X4_ten ix)) []) := by
  refine k_body (cc := cX4_ten) (nL := 1) (ret := (some .int)) (by decide) rfl (Nat.le_of_ble_eq_true rfl) ?_
  intro p e s m args below meth c A cx hP hD hS ls hl
  obtain ⟨hx, hb, hml, hown, hts, hr, hlocks, hK, hA⟩ := id cx
  obtain ⟨H, hH⟩ : ∃ H, H = s.heap := ⟨_, rfl⟩
  obtain ⟨locs, hL⟩ : ∃ locs : List Loc, locs = [] := ⟨_, rfl⟩
  obtain ⟨tgt, hq⟩ : ∃ tgt, (P_X4_ten ix) = tgt := ⟨_, rfl⟩
  have hS : va_S A s.heap H locs := by rw [hH, hL]; exact hS
  rw [← hH] at hP
  have hl : lv_has ls 1 [(0, .int ix)] := hl
  have key : ∀ (H : Heap) (locs : List Loc), va_P G.1 vwCl [] H → va_D A [] → va_S A s.heap H locs → W p l e rm_X4_ten s m args below meth c H locs 0 0 (Q_X4_ten G  tgt below args s A) (F0 m 0 ls []) := by
    clear hP hD hS hH hL
    intro H locs hP hD hS
    unfold P_X4_ten at hq
    refine lv_iload_n hx hb dX4_ten_0 rfl (lv_at hl 0 rfl) ?_
    refine lv_if_ne (tgt := 8) hx hb dX4_ten_1 (by decide) (fun c_1 => ?_) (fun c_1 => ?_)
    · replace hq := (if_neg c_1).symm.trans hq
      refine lv_iload_n hx hb dX4_ten_8 rfl (lv_at hl 0 rfl) ?_
      refine lv_iconst (v := 1) hx hb dX4_ten_9 (by decide) ?_
      refine lv_icmp_ne (tgt := 18) hx hb dX4_ten_10 (by decide) (fun c_10 => ?_) (fun c_10 => ?_)
      · replace hq := (if_neg c_10).symm.trans hq
        refine lv_iload_n hx hb dX4_ten_18 rfl (lv_at hl 0 rfl) ?_
        refine lv_iconst (v := 2) hx hb dX4_ten_19 (by decide) ?_
        refine lv_icmp_ne (tgt := 28) hx hb dX4_ten_20 (by decide) (fun c_20 => ?_) (fun c_20 => ?_)
        · replace hq := (if_neg c_20).symm.trans hq
          refine lv_sipush (v := 1000) hx hb dX4_ten_28 (by decide) ?_
          subst hq
          exact k_iret cx hP hS dX4_ten_31
        · replace hq := (if_pos c_20).symm.trans hq
          refine lv_bipush (v := 100) hx hb dX4_ten_23 (by decide) ?_
          refine lv_goto (tgt := 31) hx hb dX4_ten_25 (by decide) ?_
          subst hq
          exact k_iret cx hP hS dX4_ten_31
      · replace hq := (if_pos c_10).symm.trans hq
        refine lv_bipush (v := 10) hx hb dX4_ten_13 (by decide) ?_
        refine lv_goto (tgt := 31) hx hb dX4_ten_15 (by decide) ?_
        subst hq
        exact k_iret cx hP hS dX4_ten_31
    · replace hq := (if_pos c_1).symm.trans hq
      refine lv_iconst (v := 1) hx hb dX4_ten_4 (by decide) ?_
      refine lv_goto (tgt := 31) hx hb dX4_ten_5 (by decide) ?_
      subst hq
      exact k_iret cx hP hS dX4_ten_31
  subst hL
  subst hH
  subst hq
  exact key _ _ hP hD hS

/-! X4_size -/
abbrev rm_X4_size : Room := { frames := 0, cells := 0, slots := 0, locals := 0 }
abbrev Q_X4_size (G : gG)    (tgt : Int32) (below : List Frame) (args : Array Value) (s : State) (A : Nat → Prop) : State → Prop := MQ below (qI G tgt [] A) args s 0 0 A
def P_X4_size (v : Int32) : Int32 := (if 0 ≤ v then v else (-v))
set_option maxHeartbeats 4000000 in
set_option maxRecDepth 100000 in
theorem c_X4_size (l : Launch) (G : gG)  (v : Int32)  : kM l G yX4_size wsX4_size rm_X4_size [.int v] [] (qI G ((P_X4_size v)) []) := by
  refine k_body (cc := cX4_size) (nL := 1) (ret := (some .int)) (by decide) rfl (Nat.le_of_ble_eq_true rfl) ?_
  intro p e s m args below meth c A cx hP hD hS ls hl
  obtain ⟨hx, hb, hml, hown, hts, hr, hlocks, hK, hA⟩ := id cx
  obtain ⟨H, hH⟩ : ∃ H, H = s.heap := ⟨_, rfl⟩
  obtain ⟨locs, hL⟩ : ∃ locs : List Loc, locs = [] := ⟨_, rfl⟩
  obtain ⟨tgt, hq⟩ : ∃ tgt, (P_X4_size v) = tgt := ⟨_, rfl⟩
  have hS : va_S A s.heap H locs := by rw [hH, hL]; exact hS
  rw [← hH] at hP
  have hl : lv_has ls 1 [(0, .int v)] := hl
  have key : ∀ (H : Heap) (locs : List Loc), va_P G.1 vwCl [] H → va_D A [] → va_S A s.heap H locs → W p l e rm_X4_size s m args below meth c H locs 0 0 (Q_X4_size G  tgt below args s A) (F0 m 0 ls []) := by
    clear hP hD hS hH hL
    intro H locs hP hD hS
    unfold P_X4_size at hq
    refine lv_iload_n hx hb dX4_size_0 rfl (lv_at hl 0 rfl) ?_
    refine lv_if_ge (tgt := 9) hx hb dX4_size_1 (by decide) (fun c_1 => ?_) (fun c_1 => ?_)
    · replace hq := (if_pos c_1).symm.trans hq
      refine lv_iload_n hx hb dX4_size_9 rfl (lv_at hl 0 rfl) ?_
      subst hq
      exact k_iret cx hP hS dX4_size_10
    · replace hq := (if_neg c_1).symm.trans hq
      refine lv_iload_n hx hb dX4_size_4 rfl (lv_at hl 0 rfl) ?_
      refine lv_ineg hx hb dX4_size_5 ?_
      refine lv_goto (tgt := 10) hx hb dX4_size_6 (by decide) ?_
      subst hq
      exact k_iret cx hP hS dX4_size_10
  subst hL
  subst hH
  subst hq
  exact key _ _ hP hD hS

/-! X4_refused -/
theorem hi_X4_refused_4 : ∀ w ∈ u_ws RX4 TX4 11, w ∈ wsX4_refused := by decide +kernel
abbrev rm_X4_refused : Room := { frames := 0, cells := 0, slots := 0, locals := 0 }
abbrev Q_X4_refused (G : gG) (m0 : Nat) (te : Nat) (re : Nat) (no : Nat) (tr : Nat) (di : Nat) (ke : Nat) (ik : Nat)   (tgt : Int32 × (Nat → Int32)) (below : List Frame) (args : Array Value) (s : State) (A : Nat → Prop) : State → Prop := MQ below (qI G tgt.1 [oMo m0 te re no tr di ke ik tgt.2] A) args s 0 0 A
def P_X4_refused (mf : Nat → Int32) (which : Int32) : Int32 × (Nat → Int32) := (if which ≤ 0 then (0, (upd mf 0 which)) else (1, (upd mf 0 which)))
set_option maxHeartbeats 4000000 in
set_option maxRecDepth 100000 in
theorem c_X4_refused (l : Launch) (G : gG) (m0 : Nat) (te : Nat) (re : Nat) (no : Nat) (tr : Nat) (di : Nat) (ke : Nat) (ik : Nat) (mf : Nat → Int32) (which : Int32)  : kM l G yX4_refused wsX4_refused rm_X4_refused [.ref m0, .int which] [oMo m0 te re no tr di ke ik mf] (qI G ((P_X4_refused mf which).1) [oMo m0 te re no tr di ke ik ((P_X4_refused mf which).2)]) := by
  refine k_body (cc := cX4_refused) (nL := 2) (ret := (some .boolean)) (by decide) rfl (Nat.le_of_ble_eq_true rfl) ?_
  intro p e s m args below meth c A cx hP hD hS ls hl
  obtain ⟨hx, hb, hml, hown, hts, hr, hlocks, hK, hA⟩ := id cx
  obtain ⟨H, hH⟩ : ∃ H, H = s.heap := ⟨_, rfl⟩
  obtain ⟨locs, hL⟩ : ∃ locs : List Loc, locs = [] := ⟨_, rfl⟩
  obtain ⟨tgt, hq⟩ : ∃ tgt, (P_X4_refused mf which) = tgt := ⟨_, rfl⟩
  have hS : va_S A s.heap H locs := by rw [hH, hL]; exact hS
  rw [← hH] at hP
  have hl : lv_has ls 2 [(0, .ref m0), (1, .int which)] := hl
  have key : ∀ (H : Heap) (locs : List Loc), va_P G.1 vwCl [oMo m0 te re no tr di ke ik mf] H → va_D A [oMo m0 te re no tr di ke ik mf] → va_S A s.heap H locs → W p l e rm_X4_refused s m args below meth c H locs 0 0 (Q_X4_refused G m0 te re no tr di ke ik tgt below args s A) (F0 m 0 ls []) := by
    clear hP hD hS hH hL
    intro H locs hP hD hS
    unfold P_X4_refused at hq
    refine lv_aload_n hx hb dX4_refused_0 rfl (lv_at hl 0 rfl) ?_
    refine lv_iload_n hx hb dX4_refused_1 rfl (lv_at hl 1 rfl) ?_
    refine k_put (ws' := [oMo m0 te re no tr di ke ik (upd mf 0 which)]) (ty := .int) (T := TX4) (C := RX4) (N := 11) cx hi_X4_refused_4 tyX4_ok nmX4 hP hD hS 0 rfl rfl 0 (by decide) (by decide +kernel) rfl rfl rfl rfl (Nat.le_of_ble_eq_true rfl) rfl dX4_refused_2 (fun H locs hP hD hS => ?_)
    refine lv_iload_n hx hb dX4_refused_5 rfl (lv_at hl 1 rfl) ?_
    refine lv_if_le (tgt := 13) hx hb dX4_refused_6 (by decide) (fun c_6 => ?_) (fun c_6 => ?_)
    · replace hq := (if_pos c_6).symm.trans hq
      refine lv_iconst (v := 0) hx hb dX4_refused_13 (by decide) ?_
      subst hq
      exact k_zret (v := 0) (w1 := [oMo m0 te re no tr di ke ik (upd mf 0 which)]) cx (rfl) hP hS dX4_refused_14
    · replace hq := (if_neg c_6).symm.trans hq
      refine lv_iconst (v := 1) hx hb dX4_refused_9 (by decide) ?_
      refine lv_goto (tgt := 14) hx hb dX4_refused_10 (by decide) ?_
      subst hq
      exact k_zret (v := 1) (w1 := [oMo m0 te re no tr di ke ik (upd mf 0 which)]) cx (rfl) hP hS dX4_refused_14
  subst hL
  subst hH
  subst hq
  exact key _ _ hP hD hS

/-! X4_thrown -/
theorem hi_X4_thrown_4 : ∀ w ∈ u_ws RX4 TX4 11, w ∈ wsX4_thrown := by decide +kernel
abbrev rm_X4_thrown : Room := { frames := 0, cells := 0, slots := 0, locals := 0 }
abbrev Q_X4_thrown (G : gG) (m0 : Nat) (te : Nat) (re : Nat) (no : Nat) (tr : Nat) (di : Nat) (ke : Nat) (ik : Nat)  (mf : Nat → Int32) (tgt : Int32) (below : List Frame) (args : Array Value) (s : State) (A : Nat → Prop) : State → Prop := MQ below (qI G tgt [oMo m0 te re no tr di ke ik mf] A) args s 0 0 A
def P_X4_thrown (mf : Nat → Int32) : Int32 := (mf 0)
set_option maxHeartbeats 4000000 in
set_option maxRecDepth 100000 in
theorem c_X4_thrown (l : Launch) (G : gG) (m0 : Nat) (te : Nat) (re : Nat) (no : Nat) (tr : Nat) (di : Nat) (ke : Nat) (ik : Nat) (mf : Nat → Int32)  : kM l G yX4_thrown wsX4_thrown rm_X4_thrown [.ref m0] [oMo m0 te re no tr di ke ik mf] (qI G ((P_X4_thrown mf)) [oMo m0 te re no tr di ke ik mf]) := by
  refine k_body (cc := cX4_thrown) (nL := 1) (ret := (some .int)) (by decide) rfl (Nat.le_of_ble_eq_true rfl) ?_
  intro p e s m args below meth c A cx hP hD hS ls hl
  obtain ⟨hx, hb, hml, hown, hts, hr, hlocks, hK, hA⟩ := id cx
  obtain ⟨H, hH⟩ : ∃ H, H = s.heap := ⟨_, rfl⟩
  obtain ⟨locs, hL⟩ : ∃ locs : List Loc, locs = [] := ⟨_, rfl⟩
  obtain ⟨tgt, hq⟩ : ∃ tgt, (P_X4_thrown mf) = tgt := ⟨_, rfl⟩
  have hS : va_S A s.heap H locs := by rw [hH, hL]; exact hS
  rw [← hH] at hP
  have hl : lv_has ls 1 [(0, .ref m0)] := hl
  have key : ∀ (H : Heap) (locs : List Loc), va_P G.1 vwCl [oMo m0 te re no tr di ke ik mf] H → va_D A [oMo m0 te re no tr di ke ik mf] → va_S A s.heap H locs → W p l e rm_X4_thrown s m args below meth c H locs 0 0 (Q_X4_thrown G m0 te re no tr di ke ik mf tgt below args s A) (F0 m 0 ls []) := by
    clear hP hD hS hH hL
    intro H locs hP hD hS
    unfold P_X4_thrown at hq
    refine lv_aload_n hx hb dX4_thrown_0 rfl (lv_at hl 0 rfl) ?_
    refine k_get (v := .int (mf 0)) (T := TX4) (C := RX4) (N := 11) cx hi_X4_thrown_4 hP 0 rfl rfl 0 (by decide) (by decide +kernel) rfl dX4_thrown_1 ?_
    subst hq
    exact k_iret cx hP hS dX4_thrown_4
  subst hL
  subst hH
  subst hq
  exact key _ _ hP hD hS

/-! X4_copyPage -/
abbrev rm_X4_copyPage : Room := { frames := 0, cells := 0, slots := 0, locals := 0 }
abbrev Q_X4_copyPage (G : gG) (fr : Nat) (to : Nat) (n1 : Nat) (n2 : Nat) (pf : Nat → Int32) (tgt : (Nat → Int32)) (below : List Frame) (args : Array Value) (s : State) (A : Nat → Prop) : State → Prop := MQ below (qV G [aI G fr n1 pf, aI G to n2 tgt] A) args s 0 0 A
def P_X4_copyPage_3 (n1 : Nat) (n2 : Nat) (pf : Nat → Int32) (fa : Int32) (ta : Int32) : Nat → Int32 → (Nat → Int32) → (Nat → Int32)
  | 0, _, _ => (fun _ => 0)
  | n + 1, v4, pt => (if 101 ≤ v4 then pt else (P_X4_copyPage_3 n1 n2 pf fa ta n (v4 + 1) (upd pt (ta + v4).toNatClampNeg (pf (fa + v4).toNatClampNeg))))
set_option maxHeartbeats 4000000 in
set_option maxRecDepth 100000 in
theorem b_X4_copyPage_3 {p : Program} {l : Launch} {e : Env} {s : State} {m : MethodId} {args : Array Value} {below : List Frame} {meth : Method} {c : Code} {G : gG} {A : Nat → Prop} (cx : Cx p s m args meth c cX4_copyPage 5 yX4_copyPage.cls wsX4_copyPage none G A) (fr : Nat) (to : Nat) (n1 : Nat) (n2 : Nat) (pf : Nat → Int32) (fa : Int32) (ta : Int32) (hf : CP n1 fa) (ht : CP n2 ta)  (tgt : (Nat → Int32)) : ∀ (n : Nat) (v4 : Int32) (pt : Nat → Int32) (h0 : ¬ v4 < 0) (hm : (((101 : Int32)).toInt - (v4 : Int32).toInt).toNat < n) (hq : P_X4_copyPage_3  n1 n2 pf fa ta n v4 pt = tgt) (H : Heap) (locs : List Loc) (hP : va_P G.1 vwCl [aI G fr n1 pf, aI G to n2 pt] H) (hD : va_D A [aI G fr n1 pf, aI G to n2 pt]) (hS : va_S A s.heap H locs) (ls : Array Slot) (hl : lv_has ls 5 [(0, .ref fr), (1, .int fa), (2, .ref to), (3, .int ta), (4, .int v4)]), W p l e rm_X4_copyPage s m args below meth c H locs 0 0 (Q_X4_copyPage G fr to n1 n2 pf tgt below args s A) (F0 m 3 ls []) := by
  obtain ⟨hx, hb, hml, hown, hts, hr, hlocks, hK, hA⟩ := id cx
  intro n
  induction n with
  | zero => intros; omega
  | succ n ih =>
    intro v4 pt h0 hm hq H locs hP hD hS ls hl
    unfold P_X4_copyPage_3 at hq
    refine lv_iload hx hb dX4_copyPage_3 (lv_at hl 4 rfl) ?_
    refine lv_bipush (v := 101) hx hb dX4_copyPage_5 (by decide) ?_
    refine lv_icmp_ge (tgt := 28) hx hb dX4_copyPage_7 (by decide) (fun c_7 => ?_) (fun c_7 => ?_)
    · replace hq := (if_pos c_7).symm.trans hq
      subst hq
      exact k_vret cx hP hS dX4_copyPage_28
    · replace hq := (if_neg c_7).symm.trans hq
      refine lv_aload_n hx hb dX4_copyPage_10 rfl (lv_at hl 2 rfl) ?_
      refine lv_iload_n hx hb dX4_copyPage_11 rfl (lv_at hl 3 rfl) ?_
      refine lv_iload hx hb dX4_copyPage_12 (lv_at hl 4 rfl) ?_
      refine lv_iadd hx hb dX4_copyPage_14 ?_
      refine lv_aload_n hx hb dX4_copyPage_15 rfl (lv_at hl 0 rfl) ?_
      refine lv_iload_n hx hb dX4_copyPage_16 rfl (lv_at hl 1 rfl) ?_
      refine lv_iload hx hb dX4_copyPage_17 (lv_at hl 4 rfl) ?_
      refine lv_iadd hx hb dX4_copyPage_19 ?_
      refine k_iald (j := (fa + v4).toNatClampNeg) cx hP 0 rfl rfl (cp_ix hf h0 (by assumption)) dX4_copyPage_20 ?_
      refine k_iast (ws' := [aI G fr n1 pf, aI G to n2 (upd pt (ta + v4).toNatClampNeg (pf (fa + v4).toNatClampNeg))]) (j := (ta + v4).toNatClampNeg) cx hP hD hS 1 rfl rfl (cp_ix ht h0 (by assumption)) rfl dX4_copyPage_21 (fun H locs hP hD hS => ?_)
      refine lv_iinc (v := (v4 + 1)) (lv' := [(4, .int (v4 + 1)), (0, .ref fr), (1, .int fa), (2, .ref to), (3, .int ta)]) hx hb dX4_copyPage_22 hl (k := 4) rfl rfl (by decide) rfl (fun ls hl => ?_)
      refine lv_goto (tgt := 3) hx hb dX4_copyPage_25 (by decide) ?_
      exact ih (v4 + 1) (upd pt (ta + v4).toNatClampNeg (pf (fa + v4).toNatClampNeg)) (nn_inc h0 (N := (101 : Int32)) (by assumption)) (by have hmd := mu_up (N := (101 : Int32)) (by assumption); omega) hq H locs hP hD hS _ (lv_sub hl [1, 2, 3, 4, 0] rfl)
def P_X4_copyPage (n1 : Nat) (n2 : Nat) (pf : Nat → Int32) (pt : Nat → Int32) (fa : Int32) (ta : Int32) : (Nat → Int32) := (P_X4_copyPage_3 n1 n2 pf fa ta ((((101 : Int32)).toInt - (0 : Int32).toInt).toNat + 1) 0 pt)
set_option maxHeartbeats 4000000 in
set_option maxRecDepth 100000 in
theorem c_X4_copyPage (l : Launch) (G : gG) (fr : Nat) (to : Nat) (n1 : Nat) (n2 : Nat) (pf : Nat → Int32) (pt : Nat → Int32) (fa : Int32) (ta : Int32) (hf : CP n1 fa) (ht : CP n2 ta) : kM l G yX4_copyPage wsX4_copyPage rm_X4_copyPage [.ref fr, .int fa, .ref to, .int ta] [aI G fr n1 pf, aI G to n2 pt] (qV G [aI G fr n1 pf, aI G to n2 (P_X4_copyPage n1 n2 pf pt fa ta)]) := by
  refine k_body (cc := cX4_copyPage) (nL := 5) (ret := none) (by decide) rfl (Nat.le_of_ble_eq_true rfl) ?_
  intro p e s m args below meth c A cx hP hD hS ls hl
  obtain ⟨hx, hb, hml, hown, hts, hr, hlocks, hK, hA⟩ := id cx
  obtain ⟨H, hH⟩ : ∃ H, H = s.heap := ⟨_, rfl⟩
  obtain ⟨locs, hL⟩ : ∃ locs : List Loc, locs = [] := ⟨_, rfl⟩
  obtain ⟨tgt, hq⟩ : ∃ tgt, (P_X4_copyPage n1 n2 pf pt fa ta) = tgt := ⟨_, rfl⟩
  have hS : va_S A s.heap H locs := by rw [hH, hL]; exact hS
  rw [← hH] at hP
  have hl : lv_has ls 5 [(0, .ref fr), (1, .int fa), (2, .ref to), (3, .int ta)] := hl
  have key : ∀ (H : Heap) (locs : List Loc), va_P G.1 vwCl [aI G fr n1 pf, aI G to n2 pt] H → va_D A [aI G fr n1 pf, aI G to n2 pt] → va_S A s.heap H locs → W p l e rm_X4_copyPage s m args below meth c H locs 0 0 (Q_X4_copyPage G fr to n1 n2 pf tgt below args s A) (F0 m 0 ls []) := by
    clear hP hD hS hH hL
    intro H locs hP hD hS
    unfold P_X4_copyPage at hq
    refine lv_iconst (v := 0) hx hb dX4_copyPage_0 (by decide) ?_
    refine lv_istore (lv' := [(4, .int 0), (0, .ref fr), (1, .int fa), (2, .ref to), (3, .int ta)]) hx hb dX4_copyPage_1 hl (by decide) rfl (fun ls hl => ?_)
    exact b_X4_copyPage_3 cx fr to n1 n2 pf fa ta hf ht tgt ((((101 : Int32)).toInt - (0 : Int32).toInt).toNat + 1) 0 pt (by decide) (Nat.lt_succ_self _) hq H locs hP hD hS _ (lv_sub hl [1, 2, 3, 4, 0] rfl)
  subst hL
  subst hH
  subst hq
  exact key _ _ hP hD hS

/-! X4_missing -/
abbrev rm_X4_missing : Room := { frames := 1, cells := 0, slots := 0, locals := 20 }
abbrev Q_X4_missing (G : gG) (ra : Nat)  (pg : Nat → Int32) (tgt : Int32) (below : List Frame) (args : Array Value) (s : State) (A : Nat → Prop) : State → Prop := MQ below (qI G tgt [aI G ra 101 pg] A) args s 0 0 A
def P_X4_missing (pg : Nat → Int32) (oh : Int32) (bx : Int32) : Int32 := (((P_X4_ten (pg 1)) * oh) - ((P_X4_ten (pg 0)) * bx))
set_option maxHeartbeats 4000000 in
set_option maxRecDepth 100000 in
theorem c_X4_missing (l : Launch) (G : gG) (ra : Nat) (pg : Nat → Int32) (oh : Int32) (bx : Int32)  : kM l G yX4_missing wsX4_missing rm_X4_missing [.ref ra, .int oh, .int bx] [aI G ra 101 pg] (qI G ((P_X4_missing pg oh bx)) [aI G ra 101 pg]) := by
  refine k_body (cc := cX4_missing) (nL := 3) (ret := (some .int)) (by decide) rfl (Nat.le_of_ble_eq_true rfl) ?_
  intro p e s m args below meth c A cx hP hD hS ls hl
  obtain ⟨hx, hb, hml, hown, hts, hr, hlocks, hK, hA⟩ := id cx
  obtain ⟨H, hH⟩ : ∃ H, H = s.heap := ⟨_, rfl⟩
  obtain ⟨locs, hL⟩ : ∃ locs : List Loc, locs = [] := ⟨_, rfl⟩
  obtain ⟨tgt, hq⟩ : ∃ tgt, (P_X4_missing pg oh bx) = tgt := ⟨_, rfl⟩
  have hS : va_S A s.heap H locs := by rw [hH, hL]; exact hS
  rw [← hH] at hP
  have hl : lv_has ls 3 [(0, .ref ra), (1, .int oh), (2, .int bx)] := hl
  have key : ∀ (H : Heap) (locs : List Loc), va_P G.1 vwCl [aI G ra 101 pg] H → va_D A [aI G ra 101 pg] → va_S A s.heap H locs → W p l e rm_X4_missing s m args below meth c H locs 0 0 (Q_X4_missing G ra pg tgt below args s A) (F0 m 0 ls []) := by
    clear hP hD hS hH hL
    intro H locs hP hD hS
    unfold P_X4_missing at hq
    refine lv_aload_n hx hb dX4_missing_0 rfl (lv_at hl 0 rfl) ?_
    refine lv_iconst (v := 1) hx hb dX4_missing_1 (by decide) ?_
    refine k_iald (j := 1) cx hP 0 rfl (by decide) (by unfold vp_in; decide) dX4_missing_2 ?_
    have hC := c_X4_ten l G (pg 1)
    refine k_i (ws' := [aI G ra 101 pg]) (as := []) cx hP hD hS [] rfl (kr_S (n := 1) (As := [.int (pg 1)]) cx hC gX4_missing_X4_ten rfl rfl rfl (by decide +kernel) ⟨Nat.le_of_ble_eq_true rfl, Nat.le_of_ble_eq_true rfl⟩ hP hD [] rfl rfl rfl rfl hl (Nat.le_of_ble_eq_true rfl) dX4_missing_3 ⟨Nat.le_refl _, Nat.le_refl _⟩) ⟨rfl, rfl⟩ rfl (fun H locs hP hD hS => ?_)
    refine lv_iload_n hx hb dX4_missing_6 rfl (lv_at hl 1 rfl) ?_
    refine lv_imul hx hb dX4_missing_7 ?_
    refine lv_aload_n hx hb dX4_missing_8 rfl (lv_at hl 0 rfl) ?_
    refine lv_iconst (v := 0) hx hb dX4_missing_9 (by decide) ?_
    refine k_iald (j := 0) cx hP 0 rfl (by decide) (by unfold vp_in; decide) dX4_missing_10 ?_
    have hC := c_X4_ten l G (pg 0)
    refine k_i (ws' := [aI G ra 101 pg]) (as := []) cx hP hD hS [] rfl (kr_S (n := 1) (As := [.int (pg 0)]) cx hC gX4_missing_X4_ten rfl rfl rfl (by decide +kernel) ⟨Nat.le_of_ble_eq_true rfl, Nat.le_of_ble_eq_true rfl⟩ hP hD [] rfl rfl rfl rfl hl (Nat.le_of_ble_eq_true rfl) dX4_missing_11 ⟨Nat.le_refl _, Nat.le_refl _⟩) ⟨rfl, rfl⟩ rfl (fun H locs hP hD hS => ?_)
    refine lv_iload_n hx hb dX4_missing_14 rfl (lv_at hl 2 rfl) ?_
    refine lv_imul hx hb dX4_missing_15 ?_
    refine lv_isub hx hb dX4_missing_16 ?_
    subst hq
    exact k_iret cx hP hS dX4_missing_17
  subst hL
  subst hH
  subst hq
  exact key _ _ hP hD hS

/-! X4_divisor -/
abbrev rm_X4_divisor : Room := { frames := 1, cells := 0, slots := 0, locals := 20 }
abbrev Q_X4_divisor (G : gG) (ra : Nat)  (pg : Nat → Int32) (tgt : Int32) (below : List Frame) (args : Array Value) (s : State) (A : Nat → Prop) : State → Prop := MQ below (qI G tgt [aI G ra 101 pg] A) args s 0 0 A
def P_X4_divisor (pg : Nat → Int32) (oh : Int32) (bx : Int32) : Int32 := (((P_X4_ten (pg 0)) + (P_X4_ten (pg 1))) * (oh + bx))
set_option maxHeartbeats 4000000 in
set_option maxRecDepth 100000 in
theorem c_X4_divisor (l : Launch) (G : gG) (ra : Nat) (pg : Nat → Int32) (oh : Int32) (bx : Int32)  : kM l G yX4_divisor wsX4_divisor rm_X4_divisor [.ref ra, .int oh, .int bx] [aI G ra 101 pg] (qI G ((P_X4_divisor pg oh bx)) [aI G ra 101 pg]) := by
  refine k_body (cc := cX4_divisor) (nL := 3) (ret := (some .int)) (by decide) rfl (Nat.le_of_ble_eq_true rfl) ?_
  intro p e s m args below meth c A cx hP hD hS ls hl
  obtain ⟨hx, hb, hml, hown, hts, hr, hlocks, hK, hA⟩ := id cx
  obtain ⟨H, hH⟩ : ∃ H, H = s.heap := ⟨_, rfl⟩
  obtain ⟨locs, hL⟩ : ∃ locs : List Loc, locs = [] := ⟨_, rfl⟩
  obtain ⟨tgt, hq⟩ : ∃ tgt, (P_X4_divisor pg oh bx) = tgt := ⟨_, rfl⟩
  have hS : va_S A s.heap H locs := by rw [hH, hL]; exact hS
  rw [← hH] at hP
  have hl : lv_has ls 3 [(0, .ref ra), (1, .int oh), (2, .int bx)] := hl
  have key : ∀ (H : Heap) (locs : List Loc), va_P G.1 vwCl [aI G ra 101 pg] H → va_D A [aI G ra 101 pg] → va_S A s.heap H locs → W p l e rm_X4_divisor s m args below meth c H locs 0 0 (Q_X4_divisor G ra pg tgt below args s A) (F0 m 0 ls []) := by
    clear hP hD hS hH hL
    intro H locs hP hD hS
    unfold P_X4_divisor at hq
    refine lv_aload_n hx hb dX4_divisor_0 rfl (lv_at hl 0 rfl) ?_
    refine lv_iconst (v := 0) hx hb dX4_divisor_1 (by decide) ?_
    refine k_iald (j := 0) cx hP 0 rfl (by decide) (by unfold vp_in; decide) dX4_divisor_2 ?_
    have hC := c_X4_ten l G (pg 0)
    refine k_i (ws' := [aI G ra 101 pg]) (as := []) cx hP hD hS [] rfl (kr_S (n := 1) (As := [.int (pg 0)]) cx hC gX4_divisor_X4_ten rfl rfl rfl (by decide +kernel) ⟨Nat.le_of_ble_eq_true rfl, Nat.le_of_ble_eq_true rfl⟩ hP hD [] rfl rfl rfl rfl hl (Nat.le_of_ble_eq_true rfl) dX4_divisor_3 ⟨Nat.le_refl _, Nat.le_refl _⟩) ⟨rfl, rfl⟩ rfl (fun H locs hP hD hS => ?_)
    refine lv_aload_n hx hb dX4_divisor_6 rfl (lv_at hl 0 rfl) ?_
    refine lv_iconst (v := 1) hx hb dX4_divisor_7 (by decide) ?_
    refine k_iald (j := 1) cx hP 0 rfl (by decide) (by unfold vp_in; decide) dX4_divisor_8 ?_
    have hC := c_X4_ten l G (pg 1)
    refine k_i (ws' := [aI G ra 101 pg]) (as := []) cx hP hD hS [] rfl (kr_S (n := 1) (As := [.int (pg 1)]) cx hC gX4_divisor_X4_ten rfl rfl rfl (by decide +kernel) ⟨Nat.le_of_ble_eq_true rfl, Nat.le_of_ble_eq_true rfl⟩ hP hD [] rfl rfl rfl rfl hl (Nat.le_of_ble_eq_true rfl) dX4_divisor_9 ⟨Nat.le_refl _, Nat.le_refl _⟩) ⟨rfl, rfl⟩ rfl (fun H locs hP hD hS => ?_)
    refine lv_iadd hx hb dX4_divisor_12 ?_
    refine lv_iload_n hx hb dX4_divisor_13 rfl (lv_at hl 1 rfl) ?_
    refine lv_iload_n hx hb dX4_divisor_14 rfl (lv_at hl 2 rfl) ?_
    refine lv_iadd hx hb dX4_divisor_15 ?_
    refine lv_imul hx hb dX4_divisor_16 ?_
    subst hq
    exact k_iret cx hP hS dX4_divisor_17
  subst hL
  subst hH
  subst hq
  exact key _ _ hP hD hS

/-! X4_unknown -/
abbrev rm_X4_unknown : Room := { frames := 0, cells := 0, slots := 0, locals := 0 }
abbrev Q_X4_unknown (G : gG) (ra : Nat)  (pg : Nat → Int32) (tgt : Int32) (below : List Frame) (args : Array Value) (s : State) (A : Nat → Prop) : State → Prop := MQ below (qI G tgt [aI G ra 101 pg] A) args s 0 0 A
def P_X4_unknown (pg : Nat → Int32) : Int32 := (pg (15 + (pg 10)).toNatClampNeg)
set_option maxHeartbeats 4000000 in
set_option maxRecDepth 100000 in
theorem c_X4_unknown (l : Launch) (G : gG) (ra : Nat) (pg : Nat → Int32) (hpv : PV pg) : kM l G yX4_unknown wsX4_unknown rm_X4_unknown [.ref ra] [aI G ra 101 pg] (qI G ((P_X4_unknown pg)) [aI G ra 101 pg]) := by
  refine k_body (cc := cX4_unknown) (nL := 1) (ret := (some .int)) (by decide) rfl (Nat.le_of_ble_eq_true rfl) ?_
  intro p e s m args below meth c A cx hP hD hS ls hl
  obtain ⟨hx, hb, hml, hown, hts, hr, hlocks, hK, hA⟩ := id cx
  obtain ⟨H, hH⟩ : ∃ H, H = s.heap := ⟨_, rfl⟩
  obtain ⟨locs, hL⟩ : ∃ locs : List Loc, locs = [] := ⟨_, rfl⟩
  obtain ⟨tgt, hq⟩ : ∃ tgt, (P_X4_unknown pg) = tgt := ⟨_, rfl⟩
  have hS : va_S A s.heap H locs := by rw [hH, hL]; exact hS
  rw [← hH] at hP
  have hl : lv_has ls 1 [(0, .ref ra)] := hl
  have key : ∀ (H : Heap) (locs : List Loc), va_P G.1 vwCl [aI G ra 101 pg] H → va_D A [aI G ra 101 pg] → va_S A s.heap H locs → W p l e rm_X4_unknown s m args below meth c H locs 0 0 (Q_X4_unknown G ra pg tgt below args s A) (F0 m 0 ls []) := by
    clear hP hD hS hH hL
    intro H locs hP hD hS
    unfold P_X4_unknown at hq
    refine lv_aload_n hx hb dX4_unknown_0 rfl (lv_at hl 0 rfl) ?_
    refine lv_bipush (v := 15) hx hb dX4_unknown_1 (by decide) ?_
    refine lv_aload_n hx hb dX4_unknown_3 rfl (lv_at hl 0 rfl) ?_
    refine lv_bipush (v := 10) hx hb dX4_unknown_4 (by decide) ?_
    refine k_iald (j := 10) cx hP 0 rfl (by decide) (by unfold vp_in; decide) dX4_unknown_6 ?_
    refine lv_iadd hx hb dX4_unknown_7 ?_
    refine k_iald (j := (15 + (pg 10)).toNatClampNeg) cx hP 0 rfl rfl (pv_x hpv) dX4_unknown_8 ?_
    subst hq
    exact k_iret cx hP hS dX4_unknown_9
  subst hL
  subst hH
  subst hq
  exact key _ _ hP hD hS
