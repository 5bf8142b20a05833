/-! X4_eat -/
theorem hi_X4_eat_4 : ∀ w ∈ u_ws RX4 TX4 11, w ∈ wsX4_eat := by decide +kernel
abbrev rm_X4_eat : Room := { frames := 0, cells := 0, slots := 0, locals := 0 }
abbrev Q_X4_eat (G : gG) (m0 : Nat) (te : Nat) (re : Nat) (no : Nat) (tr : Nat) (di : Nat) (ke : Nat) (ik : Nat)  (tt : Nat → Int32) (tgt : Int32 × (Nat → Int32)) (below : List Frame) (args : Array Value) (s : State) (A : Nat → Prop) : State → Prop := MQ below (qI G tgt.1 [oMo m0 te re no tr di ke ik tgt.2, aI G te 60 tt] A) args s 0 0 A
def P_X4_eat (mf : Nat → Int32) (tt : Nat → Int32) (ch : Int32) : Int32 × (Nat → Int32) := (if (mf 2) ≤ (mf 3) then (0, (upd mf 3 ((mf 3) + 0))) else (if (tt (mf 3).toNatClampNeg) = ch then (1, (upd mf 3 ((mf 3) + 1))) else (0, (upd mf 3 ((mf 3) + 0)))))
set_option maxHeartbeats 4000000 in
set_option maxRecDepth 100000 in
theorem c_X4_eat (l : Launch) (G : gG) (m0 : Nat) (te : Nat) (re : Nat) (no : Nat) (tr : Nat) (di : Nat) (ke : Nat) (ik : Nat) (mf : Nat → Int32) (tt : Nat → Int32) (ch : Int32) (hws : WS mf) : kM l G yX4_eat wsX4_eat rm_X4_eat [.ref m0, .int ch] [oMo m0 te re no tr di ke ik mf, aI G te 60 tt] (qI G ((P_X4_eat mf tt ch).1) [oMo m0 te re no tr di ke ik ((P_X4_eat mf tt ch).2), aI G te 60 tt]) := by
  refine k_body (cc := cX4_eat) (nL := 3) (ret := (some .boolean)) (by decide) rfl (Nat.le_of_ble_eq_true rfl) ?_
  intro p e s m args below meth c A cx hP hD hS ls hl
  obtain ⟨hx, hb, hml, hown, hts, hr, hlocks, hK, hA⟩ := id cx
  obtain ⟨H, hH⟩ : ∃ H, H = s.heap := ⟨_, rfl⟩
  obtain ⟨locs, hL⟩ : ∃ locs : List Loc, locs = [] := ⟨_, rfl⟩
  obtain ⟨tgt, hq⟩ : ∃ tgt, (P_X4_eat mf tt ch) = tgt := ⟨_, rfl⟩
  have hS : va_S A s.heap H locs := by rw [hH, hL]; exact hS
  rw [← hH] at hP
  have hl : lv_has ls 3 [(0, .ref m0), (1, .int ch)] := hl
  have key : ∀ (H : Heap) (locs : List Loc), va_P G.1 vwCl [oMo m0 te re no tr di ke ik mf, aI G te 60 tt] H → va_D A [oMo m0 te re no tr di ke ik mf, aI G te 60 tt] → va_S A s.heap H locs → W p l e rm_X4_eat s m args below meth c H locs 0 0 (Q_X4_eat G m0 te re no tr di ke ik tt tgt below args s A) (F0 m 0 ls []) := by
    clear hP hD hS hH hL
    intro H locs hP hD hS
    unfold P_X4_eat at hq
    refine lv_aload_n hx hb dX4_eat_0 rfl (lv_at hl 0 rfl) ?_
    refine k_get (v := .int (mf 3)) (T := TX4) (C := RX4) (N := 11) cx hi_X4_eat_4 hP 0 rfl rfl 3 (by decide) (by decide +kernel) rfl dX4_eat_1 ?_
    refine lv_aload_n hx hb dX4_eat_4 rfl (lv_at hl 0 rfl) ?_
    refine k_get (v := .int (mf 2)) (T := TX4) (C := RX4) (N := 11) cx hi_X4_eat_4 hP 0 rfl rfl 2 (by decide) (by decide +kernel) rfl dX4_eat_5 ?_
    refine lv_icmp_ge (tgt := 28) hx hb dX4_eat_8 (by decide) (fun c_8 => ?_) (fun c_8 => ?_)
    · replace hq := (if_pos c_8).symm.trans hq
      refine lv_iconst (v := 0) hx hb dX4_eat_28 (by decide) ?_
      refine lv_istore_n (lv' := [(2, .int 0), (0, .ref m0), (1, .int ch)]) hx hb dX4_eat_29 rfl hl (by decide) rfl (fun ls hl => ?_)
      refine lv_aload_n hx hb dX4_eat_30 rfl (lv_at hl 1 rfl) ?_
      refine lv_dup hx hb dX4_eat_31 rfl ?_
      refine k_get (v := .int (mf 3)) (T := TX4) (C := RX4) (N := 11) cx hi_X4_eat_4 hP 0 rfl rfl 3 (by decide) (by decide +kernel) rfl dX4_eat_32 ?_
      refine lv_iload_n hx hb dX4_eat_35 rfl (lv_at hl 0 rfl) ?_
      refine lv_if_eq (tgt := 43) hx hb dX4_eat_36 (by decide) (fun _ => ?_) (fun cz => absurd (by decide) cz)
      refine lv_iconst (v := 0) hx hb dX4_eat_43 (by decide) ?_
      refine lv_iadd hx hb dX4_eat_44 ?_
      refine k_put (ws' := [oMo m0 te re no tr di ke ik (upd mf 3 ((mf 3) + 0)), aI G te 60 tt]) (ty := .int) (T := TX4) (C := RX4) (N := 11) cx hi_X4_eat_4 tyX4_ok nmX4 hP hD hS 0 rfl rfl 3 (by decide) (by decide +kernel) rfl rfl rfl rfl (Nat.le_of_ble_eq_true rfl) rfl dX4_eat_45 (fun H locs hP hD hS => ?_)
      refine lv_iload_n hx hb dX4_eat_48 rfl (lv_at hl 0 rfl) ?_
      subst hq
      exact k_zret (v := 0) (w1 := [oMo m0 te re no tr di ke ik (upd mf 3 ((mf 3) + 0)), aI G te 60 tt]) cx (rfl) hP hS dX4_eat_49
    · replace hq := (if_neg c_8).symm.trans hq
      refine lv_aload_n hx hb dX4_eat_11 rfl (lv_at hl 0 rfl) ?_
      refine k_get (v := .ref te) (T := TX4) (C := RX4) (N := 11) cx hi_X4_eat_4 hP 0 rfl rfl 1 (by decide) (by decide +kernel) rfl dX4_eat_12 ?_
      refine lv_aload_n hx hb dX4_eat_15 rfl (lv_at hl 0 rfl) ?_
      refine k_get (v := .int (mf 3)) (T := TX4) (C := RX4) (N := 11) cx hi_X4_eat_4 hP 0 rfl rfl 3 (by decide) (by decide +kernel) rfl dX4_eat_16 ?_
      refine k_iald (j := (mf 3).toNatClampNeg) cx hP 1 rfl rfl (ix_tx hws (by assumption)) dX4_eat_19 ?_
      refine lv_iload_n hx hb dX4_eat_20 rfl (lv_at hl 1 rfl) ?_
      refine lv_icmp_ne (tgt := 28) hx hb dX4_eat_21 (by decide) (fun c_21 => ?_) (fun c_21 => ?_)
      · replace hq := (if_neg c_21).symm.trans hq
        refine lv_iconst (v := 0) hx hb dX4_eat_28 (by decide) ?_
        refine lv_istore_n (lv' := [(2, .int 0), (0, .ref m0), (1, .int ch)]) hx hb dX4_eat_29 rfl hl (by decide) rfl (fun ls hl => ?_)
        refine lv_aload_n hx hb dX4_eat_30 rfl (lv_at hl 1 rfl) ?_
        refine lv_dup hx hb dX4_eat_31 rfl ?_
        refine k_get (v := .int (mf 3)) (T := TX4) (C := RX4) (N := 11) cx hi_X4_eat_4 hP 0 rfl rfl 3 (by decide) (by decide +kernel) rfl dX4_eat_32 ?_
        refine lv_iload_n hx hb dX4_eat_35 rfl (lv_at hl 0 rfl) ?_
        refine lv_if_eq (tgt := 43) hx hb dX4_eat_36 (by decide) (fun _ => ?_) (fun cz => absurd (by decide) cz)
        refine lv_iconst (v := 0) hx hb dX4_eat_43 (by decide) ?_
        refine lv_iadd hx hb dX4_eat_44 ?_
        refine k_put (ws' := [oMo m0 te re no tr di ke ik (upd mf 3 ((mf 3) + 0)), aI G te 60 tt]) (ty := .int) (T := TX4) (C := RX4) (N := 11) cx hi_X4_eat_4 tyX4_ok nmX4 hP hD hS 0 rfl rfl 3 (by decide) (by decide +kernel) rfl rfl rfl rfl (Nat.le_of_ble_eq_true rfl) rfl dX4_eat_45 (fun H locs hP hD hS => ?_)
        refine lv_iload_n hx hb dX4_eat_48 rfl (lv_at hl 0 rfl) ?_
        subst hq
        exact k_zret (v := 0) (w1 := [oMo m0 te re no tr di ke ik (upd mf 3 ((mf 3) + 0)), aI G te 60 tt]) cx (rfl) hP hS dX4_eat_49
      · replace hq := (if_pos c_21).symm.trans hq
        refine lv_iconst (v := 1) hx hb dX4_eat_24 (by decide) ?_
        refine lv_goto (tgt := 29) hx hb dX4_eat_25 (by decide) ?_
        refine lv_istore_n (lv' := [(2, .int 1), (0, .ref m0), (1, .int ch)]) hx hb dX4_eat_29 rfl hl (by decide) rfl (fun ls hl => ?_)
        refine lv_aload_n hx hb dX4_eat_30 rfl (lv_at hl 1 rfl) ?_
        refine lv_dup hx hb dX4_eat_31 rfl ?_
        refine k_get (v := .int (mf 3)) (T := TX4) (C := RX4) (N := 11) cx hi_X4_eat_4 hP 0 rfl rfl 3 (by decide) (by decide +kernel) rfl dX4_eat_32 ?_
        refine lv_iload_n hx hb dX4_eat_35 rfl (lv_at hl 0 rfl) ?_
        refine lv_if_eq (tgt := 43) hx hb dX4_eat_36 (by decide) (fun cz => absurd cz (by decide)) (fun _ => ?_)
        refine lv_iconst (v := 1) hx hb dX4_eat_39 (by decide) ?_
        refine lv_goto (tgt := 44) hx hb dX4_eat_40 (by decide) ?_
        refine lv_iadd hx hb dX4_eat_44 ?_
        refine k_put (ws' := [oMo m0 te re no tr di ke ik (upd mf 3 ((mf 3) + 1)), aI G te 60 tt]) (ty := .int) (T := TX4) (C := RX4) (N := 11) cx hi_X4_eat_4 tyX4_ok nmX4 hP hD hS 0 rfl rfl 3 (by decide) (by decide +kernel) rfl rfl rfl rfl (Nat.le_of_ble_eq_true rfl) rfl dX4_eat_45 (fun H locs hP hD hS => ?_)
        refine lv_iload_n hx hb dX4_eat_48 rfl (lv_at hl 0 rfl) ?_
        subst hq
        exact k_zret (v := 1) (w1 := [oMo m0 te re no tr di ke ik (upd mf 3 ((mf 3) + 1)), aI G te 60 tt]) cx (rfl) hP hS dX4_eat_49
  subst hL
  subst hH
  subst hq
  exact key _ _ hP hD hS

/-! X4_number -/
theorem hi_X4_number_4 : ∀ w ∈ u_ws RX4 TX4 11, w ∈ wsX4_number := by decide +kernel
abbrev rm_X4_number : Room := { frames := 1, cells := 0, slots := 0, locals := 25 }
abbrev Q_X4_number (G : gG) (m0 : Nat) (te : Nat) (re : Nat) (no : Nat) (tr : Nat) (di : Nat) (ke : Nat) (ik : Nat)  (tt : Nat → Int32) (tgt : Int32 × (Nat → Int32)) (below : List Frame) (args : Array Value) (s : State) (A : Nat → Prop) : State → Prop := MQ below (qI G tgt.1 [oMo m0 te re no tr di ke ik tgt.2, aI G te 60 tt] A) args s 0 0 A
def P_X4_number_28 (tt : Nat → Int32) (dg : Int32) (lo : Int32) (hi : Int32) : Nat → Int32 → Int32 → (Nat → Int32) → Int32 × (Nat → Int32)
  | 0, _, _, _ => (0, (fun _ => 0))
  | n + 1, v4, v5, mf => (if v4 ≤ 0 then (v5, mf) else (if (mf 2) ≤ (mf 3) then (if (P_X4_in (-9999) 0 9) = 0 then ((-9999), mf) else (if hi < (v5 + ((-9999) * v4)) then ((-9999), mf) else (if lo ≤ (((v5 + ((-9999) * v4)) + v4) - 1) then (P_X4_number_28 tt dg lo hi n (v4 / 10) (v5 + ((-9999) * v4)) (upd mf 3 ((mf 3) + 1))) else ((-9999), mf)))) else (if (P_X4_in ((((tt (mf 3).toNatClampNeg) - 48)).toInt64) 0 9) = 0 then ((-9999), mf) else (if hi < (v5 + (((tt (mf 3).toNatClampNeg) - 48) * v4)) then ((-9999), mf) else (if lo ≤ (((v5 + (((tt (mf 3).toNatClampNeg) - 48) * v4)) + v4) - 1) then (P_X4_number_28 tt dg lo hi n (v4 / 10) (v5 + (((tt (mf 3).toNatClampNeg) - 48) * v4)) (upd mf 3 ((mf 3) + 1))) else ((-9999), mf))))))
set_option maxHeartbeats 4000000 in
set_option maxRecDepth 100000 in
theorem b_X4_number_28 {p : Program} {l : Launch} {e : Env} {s : State} {m : MethodId} {args : Array Value} {below : List Frame} {meth : Method} {c : Code} {G : gG} {A : Nat → Prop} (cx : Cx p s m args meth c cX4_number 8 yX4_number.cls wsX4_number (some .int) G A) (m0 : Nat) (te : Nat) (re : Nat) (no : Nat) (tr : Nat) (di : Nat) (ke : Nat) (ik : Nat) (tt : Nat → Int32) (dg : Int32) (lo : Int32) (hi : Int32)   (tgt : Int32 × (Nat → Int32)) : ∀ (n : Nat) (v4 : Int32) (v5 : Int32) (mf : Nat → Int32) (hws : WS mf) (hm : (v4 : Int32).toInt.toNat < n) (hq : P_X4_number_28  tt dg lo hi n v4 v5 mf = tgt) (H : Heap) (locs : List Loc) (hP : va_P G.1 vwCl [oMo m0 te re no tr di ke ik mf, aI G te 60 tt] H) (hD : va_D A [oMo m0 te re no tr di ke ik mf, aI G te 60 tt]) (hS : va_S A s.heap H locs) (ls : Array Slot) (hl : lv_has ls 8 [(0, .ref m0), (2, .int lo), (3, .int hi), (4, .int v4), (5, .int v5)]), W p l e rm_X4_number s m args below meth c H locs 0 0 (Q_X4_number G m0 te re no tr di ke ik tt tgt below args s A) (F0 m 28 ls []) := by
  obtain ⟨hx, hb, hml, hown, hts, hr, hlocks, hK, hA⟩ := id cx
  intro n
  induction n with
  | zero => intros; omega
  | succ n ih =>
    intro v4 v5 mf hws hm hq H locs hP hD hS ls hl
    unfold P_X4_number_28 at hq
    refine lv_iload hx hb dX4_number_28 (lv_at hl 3 rfl) ?_
    refine lv_if_le (tgt := 132) hx hb dX4_number_30 (by decide) (fun c_30 => ?_) (fun c_30 => ?_)
    · replace hq := (if_pos c_30).symm.trans hq
      refine lv_iload hx hb dX4_number_132 (lv_at hl 4 rfl) ?_
      subst hq
      exact k_iret cx hP hS dX4_number_134
    · replace hq := (if_neg c_30).symm.trans hq
      refine lv_aload_n hx hb dX4_number_33 rfl (lv_at hl 0 rfl) ?_
      refine k_get (v := .int (mf 3)) (T := TX4) (C := RX4) (N := 11) cx hi_X4_number_4 hP 0 rfl rfl 3 (by decide) (by decide +kernel) rfl dX4_number_34 ?_
      refine lv_aload_n hx hb dX4_number_37 rfl (lv_at hl 0 rfl) ?_
      refine k_get (v := .int (mf 2)) (T := TX4) (C := RX4) (N := 11) cx hi_X4_number_4 hP 0 rfl rfl 2 (by decide) (by decide +kernel) rfl dX4_number_38 ?_
      refine lv_icmp_ge (tgt := 59) hx hb dX4_number_41 (by decide) (fun c_41 => ?_) (fun c_41 => ?_)
      · replace hq := (if_pos c_41).symm.trans hq
        refine lv_sipush (v := (-9999)) hx hb dX4_number_59 (by decide) ?_
        refine lv_istore (lv' := [(6, .int (-9999)), (0, .ref m0), (2, .int lo), (3, .int hi), (4, .int v4), (5, .int v5)]) hx hb dX4_number_62 hl (by decide) rfl (fun ls hl => ?_)
        refine lv_iload hx hb dX4_number_64 (lv_at hl 5 rfl) ?_
        refine lv_iload hx hb dX4_number_66 (lv_at hl 0 rfl) ?_
        refine lv_iload hx hb dX4_number_68 (lv_at hl 4 rfl) ?_
        refine lv_imul hx hb dX4_number_70 ?_
        refine lv_iadd hx hb dX4_number_71 ?_
        refine lv_istore (lv' := [(7, .int (v5 + ((-9999) * v4))), (6, .int (-9999)), (0, .ref m0), (2, .int lo), (3, .int hi), (4, .int v4), (5, .int v5)]) hx hb dX4_number_72 hl (by decide) rfl (fun ls hl => ?_)
        refine lv_iload hx hb dX4_number_74 (lv_at hl 1 rfl) ?_
        refine lv_i2l (v := (-9999)) hx hb dX4_number_76 (by decide) ?_
        refine lv_lconst (v := 0) hx hb dX4_number_77 (by decide) ?_
        refine k_ldc2 (v := 9) cx (by decide +kernel) dX4_number_78 ?_
        have hC := c_X4_in l G (-9999) 0 9
        refine k_i (ws' := [oMo m0 te re no tr di ke ik mf, aI G te 60 tt]) (as := []) cx hP hD hS [] rfl (kr_S (n := 3) (As := [.long (-9999), .long 0, .long 9]) cx hC gX4_number_X4_in rfl rfl rfl (by decide +kernel) ⟨Nat.le_of_ble_eq_true rfl, Nat.le_of_ble_eq_true rfl⟩ hP hD [] rfl rfl rfl rfl hl (Nat.le_of_ble_eq_true rfl) dX4_number_81 ⟨Nat.le_refl _, Nat.le_refl _⟩) ⟨rfl, rfl⟩ rfl (fun H locs hP hD hS => ?_)
        refine lv_if_eq (tgt := 104) hx hb dX4_number_84 (by decide) (fun c_84 => ?_) (fun c_84 => ?_)
        · replace hq := (if_pos c_84).symm.trans hq
          refine lv_sipush (v := (-9999)) hx hb dX4_number_104 (by decide) ?_
          subst hq
          exact k_iret cx hP hS dX4_number_107
        · replace hq := (if_neg c_84).symm.trans hq
          refine lv_iload hx hb dX4_number_87 (lv_at hl 0 rfl) ?_
          refine lv_iload_n hx hb dX4_number_89 rfl (lv_at hl 4 rfl) ?_
          refine lv_icmp_gt (tgt := 104) hx hb dX4_number_90 (by decide) (fun c_90 => ?_) (fun c_90 => ?_)
          · replace hq := (if_pos c_90).symm.trans hq
            refine lv_sipush (v := (-9999)) hx hb dX4_number_104 (by decide) ?_
            subst hq
            exact k_iret cx hP hS dX4_number_107
          · replace hq := (if_neg c_90).symm.trans hq
            refine lv_iload hx hb dX4_number_93 (lv_at hl 0 rfl) ?_
            refine lv_iload hx hb dX4_number_95 (lv_at hl 5 rfl) ?_
            refine lv_iadd hx hb dX4_number_97 ?_
            refine lv_iconst (v := 1) hx hb dX4_number_98 (by decide) ?_
            refine lv_isub hx hb dX4_number_99 ?_
            refine lv_iload_n hx hb dX4_number_100 rfl (lv_at hl 3 rfl) ?_
            refine lv_icmp_ge (tgt := 108) hx hb dX4_number_101 (by decide) (fun c_101 => ?_) (fun c_101 => ?_)
            · replace hq := (if_pos c_101).symm.trans hq
              refine lv_iload hx hb dX4_number_108 (lv_at hl 0 rfl) ?_
              refine lv_istore (lv' := [(5, .int (v5 + ((-9999) * v4))), (7, .int (v5 + ((-9999) * v4))), (6, .int (-9999)), (0, .ref m0), (2, .int lo), (3, .int hi), (4, .int v4)]) hx hb dX4_number_110 hl (by decide) rfl (fun ls hl => ?_)
              refine lv_iload hx hb dX4_number_112 (lv_at hl 6 rfl) ?_
              refine lv_bipush (v := 10) hx hb dX4_number_114 (by decide) ?_
              refine lv_idiv hx hb dX4_number_116 (by decide) ?_
              refine lv_istore (lv' := [(4, .int (v4 / 10)), (5, .int (v5 + ((-9999) * v4))), (7, .int (v5 + ((-9999) * v4))), (6, .int (-9999)), (0, .ref m0), (2, .int lo), (3, .int hi)]) hx hb dX4_number_117 hl (by decide) rfl (fun ls hl => ?_)
              refine lv_aload_n hx hb dX4_number_119 rfl (lv_at hl 4 rfl) ?_
              refine lv_dup hx hb dX4_number_120 rfl ?_
              refine k_get (v := .int (mf 3)) (T := TX4) (C := RX4) (N := 11) cx hi_X4_number_4 hP 0 rfl rfl 3 (by decide) (by decide +kernel) rfl dX4_number_121 ?_
              refine lv_iconst (v := 1) hx hb dX4_number_124 (by decide) ?_
              refine lv_iadd hx hb dX4_number_125 ?_
              refine k_put (ws' := [oMo m0 te re no tr di ke ik (upd mf 3 ((mf 3) + 1)), aI G te 60 tt]) (ty := .int) (T := TX4) (C := RX4) (N := 11) cx hi_X4_number_4 tyX4_ok nmX4 hP hD hS 0 rfl rfl 3 (by decide) (by decide +kernel) rfl rfl rfl rfl (Nat.le_of_ble_eq_true rfl) rfl dX4_number_126 (fun H locs hP hD hS => ?_)
              refine lv_goto (tgt := 28) hx hb dX4_number_129 (by decide) ?_
              exact ih (v4 / 10) (v5 + ((-9999) * v4)) (upd mf 3 ((mf 3) + 1)) (by first | exact ws_inc hws c_41 | exact absurd (by decide +kernel) c_84) (by have hmd := mu_10p (by assumption); omega) hq H locs hP hD hS _ (lv_sub hl [4, 5, 6, 0, 1] rfl)
            · replace hq := (if_neg c_101).symm.trans hq
              refine lv_sipush (v := (-9999)) hx hb dX4_number_104 (by decide) ?_
              subst hq
              exact k_iret cx hP hS dX4_number_107
      · replace hq := (if_neg c_41).symm.trans hq
        refine lv_aload_n hx hb dX4_number_44 rfl (lv_at hl 0 rfl) ?_
        refine k_get (v := .ref te) (T := TX4) (C := RX4) (N := 11) cx hi_X4_number_4 hP 0 rfl rfl 1 (by decide) (by decide +kernel) rfl dX4_number_45 ?_
        refine lv_aload_n hx hb dX4_number_48 rfl (lv_at hl 0 rfl) ?_
        refine k_get (v := .int (mf 3)) (T := TX4) (C := RX4) (N := 11) cx hi_X4_number_4 hP 0 rfl rfl 3 (by decide) (by decide +kernel) rfl dX4_number_49 ?_
        refine k_iald (j := (mf 3).toNatClampNeg) cx hP 1 rfl rfl (ix_tx hws (by assumption)) dX4_number_52 ?_
        refine lv_bipush (v := 48) hx hb dX4_number_53 (by decide) ?_
        refine lv_isub hx hb dX4_number_55 ?_
        refine lv_goto (tgt := 62) hx hb dX4_number_56 (by decide) ?_
        refine lv_istore (lv' := [(6, .int ((tt (mf 3).toNatClampNeg) - 48)), (0, .ref m0), (2, .int lo), (3, .int hi), (4, .int v4), (5, .int v5)]) hx hb dX4_number_62 hl (by decide) rfl (fun ls hl => ?_)
        refine lv_iload hx hb dX4_number_64 (lv_at hl 5 rfl) ?_
        refine lv_iload hx hb dX4_number_66 (lv_at hl 0 rfl) ?_
        refine lv_iload hx hb dX4_number_68 (lv_at hl 4 rfl) ?_
        refine lv_imul hx hb dX4_number_70 ?_
        refine lv_iadd hx hb dX4_number_71 ?_
        refine lv_istore (lv' := [(7, .int (v5 + (((tt (mf 3).toNatClampNeg) - 48) * v4))), (6, .int ((tt (mf 3).toNatClampNeg) - 48)), (0, .ref m0), (2, .int lo), (3, .int hi), (4, .int v4), (5, .int v5)]) hx hb dX4_number_72 hl (by decide) rfl (fun ls hl => ?_)
        refine lv_iload hx hb dX4_number_74 (lv_at hl 1 rfl) ?_
        refine lv_i2l hx hb dX4_number_76 rfl ?_
        refine lv_lconst (v := 0) hx hb dX4_number_77 (by decide) ?_
        refine k_ldc2 (v := 9) cx (by decide +kernel) dX4_number_78 ?_
        have hC := c_X4_in l G ((((tt (mf 3).toNatClampNeg) - 48)).toInt64) 0 9
        refine k_i (ws' := [oMo m0 te re no tr di ke ik mf, aI G te 60 tt]) (as := []) cx hP hD hS [] rfl (kr_S (n := 3) (As := [.long (((tt (mf 3).toNatClampNeg) - 48)).toInt64, .long 0, .long 9]) cx hC gX4_number_X4_in rfl rfl rfl (by decide +kernel) ⟨Nat.le_of_ble_eq_true rfl, Nat.le_of_ble_eq_true rfl⟩ hP hD [] rfl rfl rfl rfl hl (Nat.le_of_ble_eq_true rfl) dX4_number_81 ⟨Nat.le_refl _, Nat.le_refl _⟩) ⟨rfl, rfl⟩ rfl (fun H locs hP hD hS => ?_)
        refine lv_if_eq (tgt := 104) hx hb dX4_number_84 (by decide) (fun c_84 => ?_) (fun c_84 => ?_)
        · replace hq := (if_pos c_84).symm.trans hq
          refine lv_sipush (v := (-9999)) hx hb dX4_number_104 (by decide) ?_
          subst hq
          exact k_iret cx hP hS dX4_number_107
        · replace hq := (if_neg c_84).symm.trans hq
          refine lv_iload hx hb dX4_number_87 (lv_at hl 0 rfl) ?_
          refine lv_iload_n hx hb dX4_number_89 rfl (lv_at hl 4 rfl) ?_
          refine lv_icmp_gt (tgt := 104) hx hb dX4_number_90 (by decide) (fun c_90 => ?_) (fun c_90 => ?_)
          · replace hq := (if_pos c_90).symm.trans hq
            refine lv_sipush (v := (-9999)) hx hb dX4_number_104 (by decide) ?_
            subst hq
            exact k_iret cx hP hS dX4_number_107
          · replace hq := (if_neg c_90).symm.trans hq
            refine lv_iload hx hb dX4_number_93 (lv_at hl 0 rfl) ?_
            refine lv_iload hx hb dX4_number_95 (lv_at hl 5 rfl) ?_
            refine lv_iadd hx hb dX4_number_97 ?_
            refine lv_iconst (v := 1) hx hb dX4_number_98 (by decide) ?_
            refine lv_isub hx hb dX4_number_99 ?_
            refine lv_iload_n hx hb dX4_number_100 rfl (lv_at hl 3 rfl) ?_
            refine lv_icmp_ge (tgt := 108) hx hb dX4_number_101 (by decide) (fun c_101 => ?_) (fun c_101 => ?_)
            · replace hq := (if_pos c_101).symm.trans hq
              refine lv_iload hx hb dX4_number_108 (lv_at hl 0 rfl) ?_
              refine lv_istore (lv' := [(5, .int (v5 + (((tt (mf 3).toNatClampNeg) - 48) * v4))), (7, .int (v5 + (((tt (mf 3).toNatClampNeg) - 48) * v4))), (6, .int ((tt (mf 3).toNatClampNeg) - 48)), (0, .ref m0), (2, .int lo), (3, .int hi), (4, .int v4)]) hx hb dX4_number_110 hl (by decide) rfl (fun ls hl => ?_)
              refine lv_iload hx hb dX4_number_112 (lv_at hl 6 rfl) ?_
              refine lv_bipush (v := 10) hx hb dX4_number_114 (by decide) ?_
              refine lv_idiv hx hb dX4_number_116 (by decide) ?_
              refine lv_istore (lv' := [(4, .int (v4 / 10)), (5, .int (v5 + (((tt (mf 3).toNatClampNeg) - 48) * v4))), (7, .int (v5 + (((tt (mf 3).toNatClampNeg) - 48) * v4))), (6, .int ((tt (mf 3).toNatClampNeg) - 48)), (0, .ref m0), (2, .int lo), (3, .int hi)]) hx hb dX4_number_117 hl (by decide) rfl (fun ls hl => ?_)
              refine lv_aload_n hx hb dX4_number_119 rfl (lv_at hl 4 rfl) ?_
              refine lv_dup hx hb dX4_number_120 rfl ?_
              refine k_get (v := .int (mf 3)) (T := TX4) (C := RX4) (N := 11) cx hi_X4_number_4 hP 0 rfl rfl 3 (by decide) (by decide +kernel) rfl dX4_number_121 ?_
              refine lv_iconst (v := 1) hx hb dX4_number_124 (by decide) ?_
              refine lv_iadd hx hb dX4_number_125 ?_
              refine k_put (ws' := [oMo m0 te re no tr di ke ik (upd mf 3 ((mf 3) + 1)), aI G te 60 tt]) (ty := .int) (T := TX4) (C := RX4) (N := 11) cx hi_X4_number_4 tyX4_ok nmX4 hP hD hS 0 rfl rfl 3 (by decide) (by decide +kernel) rfl rfl rfl rfl (Nat.le_of_ble_eq_true rfl) rfl dX4_number_126 (fun H locs hP hD hS => ?_)
              refine lv_goto (tgt := 28) hx hb dX4_number_129 (by decide) ?_
              exact ih (v4 / 10) (v5 + (((tt (mf 3).toNatClampNeg) - 48) * v4)) (upd mf 3 ((mf 3) + 1)) (by first | exact ws_inc hws c_41 | exact absurd (by decide +kernel) c_84) (by have hmd := mu_10p (by assumption); omega) hq H locs hP hD hS _ (lv_sub hl [4, 5, 6, 0, 1] rfl)
            · replace hq := (if_neg c_101).symm.trans hq
              refine lv_sipush (v := (-9999)) hx hb dX4_number_104 (by decide) ?_
              subst hq
              exact k_iret cx hP hS dX4_number_107
def P_X4_number_6 (tt : Nat → Int32) (dg : Int32) (lo : Int32) (hi : Int32) : Nat → Int32 → Int32 → (Nat → Int32) → Int32 × (Nat → Int32)
  | 0, _, _, _ => (0, (fun _ => 0))
  | n + 1, v4, v5, mf => (if dg ≤ v5 then (P_X4_number_28 tt dg lo hi ((v4 : Int32).toInt.toNat + 1) v4 0 mf) else (P_X4_number_6 tt dg lo hi n (v4 * 10) (v5 + 1) mf))
set_option maxHeartbeats 4000000 in
set_option maxRecDepth 100000 in
theorem b_X4_number_6 {p : Program} {l : Launch} {e : Env} {s : State} {m : MethodId} {args : Array Value} {below : List Frame} {meth : Method} {c : Code} {G : gG} {A : Nat → Prop} (cx : Cx p s m args meth c cX4_number 8 yX4_number.cls wsX4_number (some .int) G A) (m0 : Nat) (te : Nat) (re : Nat) (no : Nat) (tr : Nat) (di : Nat) (ke : Nat) (ik : Nat) (tt : Nat → Int32) (dg : Int32) (lo : Int32) (hi : Int32)   (tgt : Int32 × (Nat → Int32)) : ∀ (n : Nat) (v4 : Int32) (v5 : Int32) (mf : Nat → Int32) (hws : WS mf) (hm : ((dg).toInt - (v5 : Int32).toInt).toNat < n) (hq : P_X4_number_6  tt dg lo hi n v4 v5 mf = tgt) (H : Heap) (locs : List Loc) (hP : va_P G.1 vwCl [oMo m0 te re no tr di ke ik mf, aI G te 60 tt] H) (hD : va_D A [oMo m0 te re no tr di ke ik mf, aI G te 60 tt]) (hS : va_S A s.heap H locs) (ls : Array Slot) (hl : lv_has ls 8 [(0, .ref m0), (1, .int dg), (2, .int lo), (3, .int hi), (4, .int v4), (5, .int v5)]), W p l e rm_X4_number s m args below meth c H locs 0 0 (Q_X4_number G m0 te re no tr di ke ik tt tgt below args s A) (F0 m 6 ls []) := by
  obtain ⟨hx, hb, hml, hown, hts, hr, hlocks, hK, hA⟩ := id cx
  intro n
  induction n with
  | zero => intros; omega
  | succ n ih =>
    intro v4 v5 mf hws hm hq H locs hP hD hS ls hl
    unfold P_X4_number_6 at hq
    refine lv_iload hx hb dX4_number_6 (lv_at hl 5 rfl) ?_
    refine lv_iload_n hx hb dX4_number_8 rfl (lv_at hl 1 rfl) ?_
    refine lv_icmp_ge (tgt := 25) hx hb dX4_number_9 (by decide) (fun c_9 => ?_) (fun c_9 => ?_)
    · replace hq := (if_pos c_9).symm.trans hq
      refine lv_iconst (v := 0) hx hb dX4_number_25 (by decide) ?_
      refine lv_istore (lv' := [(5, .int 0), (0, .ref m0), (1, .int dg), (2, .int lo), (3, .int hi), (4, .int v4)]) hx hb dX4_number_26 hl (by decide) rfl (fun ls hl => ?_)
      exact b_X4_number_28 cx m0 te re no tr di ke ik tt dg lo hi  tgt ((v4 : Int32).toInt.toNat + 1) v4 0 mf (hws) (Nat.lt_succ_self _) hq H locs hP hD hS _ (lv_sub hl [1, 3, 4, 5, 0] rfl)
    · replace hq := (if_neg c_9).symm.trans hq
      refine lv_iload hx hb dX4_number_12 (lv_at hl 4 rfl) ?_
      refine lv_bipush (v := 10) hx hb dX4_number_14 (by decide) ?_
      refine lv_imul hx hb dX4_number_16 ?_
      refine lv_istore (lv' := [(4, .int (v4 * 10)), (0, .ref m0), (1, .int dg), (2, .int lo), (3, .int hi), (5, .int v5)]) hx hb dX4_number_17 hl (by decide) rfl (fun ls hl => ?_)
      refine lv_iinc (v := (v5 + 1)) (lv' := [(5, .int (v5 + 1)), (4, .int (v4 * 10)), (0, .ref m0), (1, .int dg), (2, .int lo), (3, .int hi)]) hx hb dX4_number_19 hl (k := 5) rfl rfl (by decide) rfl (fun ls hl => ?_)
      refine lv_goto (tgt := 6) hx hb dX4_number_22 (by decide) ?_
      exact ih (v4 * 10) (v5 + 1) mf (hws) (by have hmd := mu_up (N := dg) (by assumption); omega) hq H locs hP hD hS _ (lv_sub hl [2, 3, 4, 5, 1, 0] rfl)
def P_X4_number (mf : Nat → Int32) (tt : Nat → Int32) (dg : Int32) (lo : Int32) (hi : Int32) : Int32 × (Nat → Int32) := (P_X4_number_6 tt dg lo hi (((dg).toInt - (1 : Int32).toInt).toNat + 1) 1 1 mf)
set_option maxHeartbeats 4000000 in
set_option maxRecDepth 100000 in
theorem c_X4_number (l : Launch) (G : gG) (m0 : Nat) (te : Nat) (re : Nat) (no : Nat) (tr : Nat) (di : Nat) (ke : Nat) (ik : Nat) (mf : Nat → Int32) (tt : Nat → Int32) (dg : Int32) (lo : Int32) (hi : Int32) (hws : WS mf) : kM l G yX4_number wsX4_number rm_X4_number [.ref m0, .int dg, .int lo, .int hi] [oMo m0 te re no tr di ke ik mf, aI G te 60 tt] (qI G ((P_X4_number mf tt dg lo hi).1) [oMo m0 te re no tr di ke ik ((P_X4_number mf tt dg lo hi).2), aI G te 60 tt]) := by
  refine k_body (cc := cX4_number) (nL := 8) (ret := (some .int)) (by decide) rfl (Nat.le_of_ble_eq_true rfl) ?_
  intro p e s m args below meth c A cx hP hD hS ls hl
  obtain ⟨hx, hb, hml, hown, hts, hr, hlocks, hK, hA⟩ := id cx
  obtain ⟨H, hH⟩ : ∃ H, H = s.heap := ⟨_, rfl⟩
  obtain ⟨locs, hL⟩ : ∃ locs : List Loc, locs = [] := ⟨_, rfl⟩
  obtain ⟨tgt, hq⟩ : ∃ tgt, (P_X4_number mf tt dg lo hi) = tgt := ⟨_, rfl⟩
  have hS : va_S A s.heap H locs := by rw [hH, hL]; exact hS
  rw [← hH] at hP
  have hl : lv_has ls 8 [(0, .ref m0), (1, .int dg), (2, .int lo), (3, .int hi)] := hl
  have key : ∀ (H : Heap) (locs : List Loc), va_P G.1 vwCl [oMo m0 te re no tr di ke ik mf, aI G te 60 tt] H → va_D A [oMo m0 te re no tr di ke ik mf, aI G te 60 tt] → va_S A s.heap H locs → W p l e rm_X4_number s m args below meth c H locs 0 0 (Q_X4_number G m0 te re no tr di ke ik tt tgt below args s A) (F0 m 0 ls []) := by
    clear hP hD hS hH hL
    intro H locs hP hD hS
    unfold P_X4_number at hq
    refine lv_iconst (v := 1) hx hb dX4_number_0 (by decide) ?_
    refine lv_istore (lv' := [(4, .int 1), (0, .ref m0), (1, .int dg), (2, .int lo), (3, .int hi)]) hx hb dX4_number_1 hl (by decide) rfl (fun ls hl => ?_)
    refine lv_iconst (v := 1) hx hb dX4_number_3 (by decide) ?_
    refine lv_istore (lv' := [(5, .int 1), (4, .int 1), (0, .ref m0), (1, .int dg), (2, .int lo), (3, .int hi)]) hx hb dX4_number_4 hl (by decide) rfl (fun ls hl => ?_)
    exact b_X4_number_6 cx m0 te re no tr di ke ik tt dg lo hi  tgt (((dg).toInt - (1 : Int32).toInt).toNat + 1) 1 1 mf (hws) (Nat.lt_succ_self _) hq H locs hP hD hS _ (lv_sub hl [2, 3, 4, 5, 1, 0] rfl)
  subst hL
  subst hH
  subst hq
  exact key _ _ hP hD hS

/-! X4_put -/
theorem hi_X4_put_4 : ∀ w ∈ u_ws RX4 TX4 11, w ∈ wsX4_put := by decide +kernel
abbrev rm_X4_put : Room := { frames := 2, cells := 0, slots := 0, locals := 52 }
abbrev Q_X4_put (G : gG) (m0 : Nat) (te : Nat) (re : Nat) (no : Nat) (tr : Nat) (di : Nat) (ke : Nat) (ik : Nat)  (tt : Nat → Int32) (tgt : Int32 × (Nat → Int32) × (Nat → Int32)) (below : List Frame) (args : Array Value) (s : State) (A : Nat → Prop) : State → Prop := MQ below (qI G tgt.1 [oMo m0 te re no tr di ke ik tgt.2.1, aI G re 101 tgt.2.2, aI G te 60 tt] A) args s 0 0 A
def P_X4_put (mf : Nat → Int32) (pr : Nat → Int32) (tt : Nat → Int32) (ax : Int32) (dg : Int32) (lo : Int32) (hi : Int32) : Int32 × (Nat → Int32) × (Nat → Int32) := (let u10 := P_X4_number mf tt dg lo hi; (if u10.1 = (-9999) then (0, u10.2, (upd pr ax.toNatClampNeg u10.1)) else (1, u10.2, (upd pr ax.toNatClampNeg u10.1))))
set_option maxHeartbeats 4000000 in
set_option maxRecDepth 100000 in
theorem c_X4_put (l : Launch) (G : gG) (m0 : Nat) (te : Nat) (re : Nat) (no : Nat) (tr : Nat) (di : Nat) (ke : Nat) (ik : Nat) (mf : Nat → Int32) (pr : Nat → Int32) (tt : Nat → Int32) (ax : Int32) (dg : Int32) (lo : Int32) (hi : Int32) (hws : WS mf) (hax : vp_in ax 101) : kM l G yX4_put wsX4_put rm_X4_put [.ref m0, .int ax, .int dg, .int lo, .int hi] [oMo m0 te re no tr di ke ik mf, aI G re 101 pr, aI G te 60 tt] (qI G ((P_X4_put mf pr tt ax dg lo hi).1) [oMo m0 te re no tr di ke ik ((P_X4_put mf pr tt ax dg lo hi).2.1), aI G re 101 ((P_X4_put mf pr tt ax dg lo hi).2.2), aI G te 60 tt]) := by
  refine k_body (cc := cX4_put) (nL := 5) (ret := (some .boolean)) (by decide) rfl (Nat.le_of_ble_eq_true rfl) ?_
  intro p e s m args below meth c A cx hP hD hS ls hl
  obtain ⟨hx, hb, hml, hown, hts, hr, hlocks, hK, hA⟩ := id cx
  obtain ⟨H, hH⟩ : ∃ H, H = s.heap := ⟨_, rfl⟩
  obtain ⟨locs, hL⟩ : ∃ locs : List Loc, locs = [] := ⟨_, rfl⟩
  obtain ⟨tgt, hq⟩ : ∃ tgt, (P_X4_put mf pr tt ax dg lo hi) = tgt := ⟨_, rfl⟩
  have hS : va_S A s.heap H locs := by rw [hH, hL]; exact hS
  rw [← hH] at hP
  have hl : lv_has ls 5 [(0, .ref m0), (1, .int ax), (2, .int dg), (3, .int lo), (4, .int hi)] := hl
  have key : ∀ (H : Heap) (locs : List Loc), va_P G.1 vwCl [oMo m0 te re no tr di ke ik mf, aI G re 101 pr, aI G te 60 tt] H → va_D A [oMo m0 te re no tr di ke ik mf, aI G re 101 pr, aI G te 60 tt] → va_S A s.heap H locs → W p l e rm_X4_put s m args below meth c H locs 0 0 (Q_X4_put G m0 te re no tr di ke ik tt tgt below args s A) (F0 m 0 ls []) := by
    clear hP hD hS hH hL
    intro H locs hP hD hS
    unfold P_X4_put at hq
    refine lv_aload_n hx hb dX4_put_0 rfl (lv_at hl 0 rfl) ?_
    refine k_get (v := .ref re) (T := TX4) (C := RX4) (N := 11) cx hi_X4_put_4 hP 0 rfl rfl 4 (by decide) (by decide +kernel) rfl dX4_put_1 ?_
    refine lv_iload_n hx hb dX4_put_4 rfl (lv_at hl 1 rfl) ?_
    refine lv_aload_n hx hb dX4_put_5 rfl (lv_at hl 0 rfl) ?_
    refine lv_iload_n hx hb dX4_put_6 rfl (lv_at hl 2 rfl) ?_
    refine lv_iload_n hx hb dX4_put_7 rfl (lv_at hl 3 rfl) ?_
    refine lv_iload hx hb dX4_put_8 (lv_at hl 4 rfl) ?_
    have hC := c_X4_number l G m0 te re no tr di ke ik mf tt dg lo hi (by assumption)
    generalize hu10 : P_X4_number mf tt dg lo hi = u10 at hC hq
    refine k_i (ws' := [oMo m0 te re no tr di ke ik u10.2, aI G re 101 pr, aI G te 60 tt]) (as := [m0, te]) cx hP hD hS [0, 2] rfl (kr_V (n := 3) (As := [.int dg, .int lo, .int hi]) (ci := 4) cx hC gX4_put_X4_number rfl rfl rfl (by decide +kernel) ⟨Nat.le_of_ble_eq_true rfl, Nat.le_of_ble_eq_true rfl⟩ rfl rfl rfl hP hD [0, 2] rfl rfl rfl rfl hl (Nat.le_of_ble_eq_true rfl) dX4_put_10 ⟨Nat.le_refl _, Nat.le_refl _⟩) ⟨rfl, rfl⟩ rfl (fun H locs hP hD hS => ?_)
    refine k_iast (ws' := [oMo m0 te re no tr di ke ik u10.2, aI G re 101 (upd pr ax.toNatClampNeg u10.1), aI G te 60 tt]) (j := ax.toNatClampNeg) cx hP hD hS 1 rfl rfl (hax) rfl dX4_put_13 (fun H locs hP hD hS => ?_)
    refine lv_aload_n hx hb dX4_put_14 rfl (lv_at hl 0 rfl) ?_
    refine k_get (v := .ref re) (T := TX4) (C := RX4) (N := 11) cx hi_X4_put_4 hP 0 rfl rfl 4 (by decide) (by decide +kernel) rfl dX4_put_15 ?_
    refine lv_iload_n hx hb dX4_put_18 rfl (lv_at hl 1 rfl) ?_
    refine k_iald (j := ax.toNatClampNeg) cx hP 1 rfl rfl (hax) dX4_put_19 ?_
    refine lv_sipush (v := (-9999)) hx hb dX4_put_20 (by decide) ?_
    rw [upd_me]
    refine lv_icmp_eq (tgt := 30) hx hb dX4_put_23 (by decide) (fun c_23 => ?_) (fun c_23 => ?_)
    · replace hq := (if_pos c_23).symm.trans hq
      refine lv_iconst (v := 0) hx hb dX4_put_30 (by decide) ?_
      subst hq
      exact k_zret (v := 0) (w1 := [oMo m0 te re no tr di ke ik u10.2, aI G re 101 (upd pr ax.toNatClampNeg u10.1), aI G te 60 tt]) cx (rfl) hP hS dX4_put_31
    · replace hq := (if_neg c_23).symm.trans hq
      refine lv_iconst (v := 1) hx hb dX4_put_26 (by decide) ?_
      refine lv_goto (tgt := 31) hx hb dX4_put_27 (by decide) ?_
      subst hq
      exact k_zret (v := 1) (w1 := [oMo m0 te re no tr di ke ik u10.2, aI G re 101 (upd pr ax.toNatClampNeg u10.1), aI G te 60 tt]) cx (rfl) hP hS dX4_put_31
  subst hL
  subst hH
  subst hq
  exact key _ _ hP hD hS
