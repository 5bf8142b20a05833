/-! X3_value -/
theorem hi_X3_value_1 : ∀ w ∈ u_ws RX1 TX1 16, w ∈ wsX3_value := by decide +kernel
theorem hi_X3_value_3 : ∀ w ∈ u_ws RX3 TX3 8, w ∈ wsX3_value := by decide +kernel
abbrev rm_X3_value : Room := { frames := 6, cells := 1, slots := 6, locals := 82 }
abbrev Q_X3_value (G : gG) (b : Nat) (tx : Nat) (h : Nat) (ht : Nat) (pa : Nat) (sl : Nat) (fi : Nat) (o : Nat) (g : Nat) (w0 : va_W)  (bf : Nat → Int32) (f : Nat → Int32) (tgt : Int32 × Int32) (below : List Frame) (args : Array Value) (s : State) (A : Nat → Prop) : State → Prop := vx_MQ below (qX G tgt.1 tgt.2 [oBr b tx h ht pa sl fi bf, oSt h o g f] A) (xX G tgt.1 w0 A) args s 1 6 A
def P_X3_value (bf : Nat → Int32) (f : Nat → Int32) (lim : Int32) : Int32 × Int32 := (if (P_X3_outside lim 0 2) = 0 then (if lim = 0 then (0, (P_X3_quotient ((2 * ((P_X3_power (f 0)) * (f 2))) + (P_X3_power (f 1))) (2 * (P_X3_power (f 1))))) else if lim = 1 then (0, (P_X3_quotient ((((P_X3_power (f 0)) * (f 2)) + (P_X3_power (f 1))) - 1) (P_X3_power (f 1)))) else (0, (P_X3_quotient ((P_X3_power (f 0)) * (f 2)) (P_X3_power (f 1))))) else (1, 0))
set_option maxHeartbeats 4000000 in
set_option maxRecDepth 100000 in
theorem c_X3_value (l : Launch) (hlt : l.stackTraces = false) (G : gG) (b : Nat) (tx : Nat) (h : Nat) (ht : Nat) (pa : Nat) (sl : Nat) (fi : Nat) (o : Nat) (g : Nat) (bf : Nat → Int32) (f : Nat → Int32) (lim : Int32)  : kX l G yX3_value wsX3_value rm_X3_value [.ref b, .int lim] [oBr b tx h ht pa sl fi bf, oSt h o g f] (qX G ((P_X3_value bf f lim).1) ((P_X3_value bf f lim).2) [oBr b tx h ht pa sl fi bf, oSt h o g f]) (xX G ((P_X3_value bf f lim).1) [oBr b tx h ht pa sl fi bf, oSt h o g f]) := by
  refine k_bodyX (cc := cX3_value) (nL := 4) (ret := (some .int)) hlt (by decide) rfl (Nat.le_of_ble_eq_true rfl) ?_
  intro p e s m args below meth c A cx ct hP hD hS ls hl
  obtain ⟨hx, hb, hml, hown, hts, hr, hlocks, hK, hA⟩ := id cx
  obtain ⟨H, hH⟩ : ∃ H, H = s.heap := ⟨_, rfl⟩
  obtain ⟨locs, hL⟩ : ∃ locs : List Loc, locs = [] := ⟨_, rfl⟩
  obtain ⟨tgt, hq⟩ : ∃ tgt, (P_X3_value bf f lim) = tgt := ⟨_, rfl⟩
  obtain ⟨w0, hw0⟩ : ∃ w0 : va_W, w0 = [oBr b tx h ht pa sl fi bf, oSt h o g f] := ⟨_, rfl⟩
  have hS : va_S A s.heap H locs := by rw [hH, hL]; exact hS
  rw [← hH] at hP
  have hl : lv_has ls 4 [(0, .ref b), (1, .int lim)] := hl
  have key : ∀ (H : Heap) (locs : List Loc), va_P G.1 vwCl [oBr b tx h ht pa sl fi bf, oSt h o g f] H → va_D A [oBr b tx h ht pa sl fi bf, oSt h o g f] → va_S A s.heap H locs → W p l e rm_X3_value s m args below meth c H locs 0 0 (Q_X3_value G b tx h ht pa sl fi o g w0 bf f tgt below args s A) (F0 m 0 ls []) := by
    clear hP hD hS hH hL
    intro H locs hP hD hS
    unfold P_X3_value at hq
    refine lv_iload_n hx hb dX3_value_0 rfl (lv_at hl 1 rfl) ?_
    refine lv_iconst (v := 0) hx hb dX3_value_1 (by decide) ?_
    refine lv_iconst (v := 2) hx hb dX3_value_2 (by decide) ?_
    have hC := c_X3_outside l G lim 0 2
    refine k_i (ws' := [oBr b tx h ht pa sl fi bf, oSt h o g f]) (as := []) cx hP hD hS [] rfl (kr_S (n := 3) (As := [.int lim, .int 0, .int 2]) cx hC gX3_value_X3_outside rfl rfl rfl (by decide +kernel) ⟨Nat.le_of_ble_eq_true rfl, Nat.le_of_ble_eq_true rfl⟩ hP hD [] rfl rfl rfl rfl hl (Nat.le_of_ble_eq_true rfl) dX3_value_3 ⟨Nat.zero_le _, Nat.zero_le _⟩) ⟨rfl, rfl⟩ rfl (fun H locs hP hD hS => ?_)
    refine lv_if_eq (tgt := 19) hx hb dX3_value_6 (by decide) (fun c_6 => ?_) (fun c_6 => ?_)
    · replace hq := (if_pos c_6).symm.trans hq
      refine lv_aload_n hx hb dX3_value_19 rfl (lv_at hl 0 rfl) ?_
      refine k_get (v := .ref h) (T := TX3) (C := RX3) (N := 8) cx hi_X3_value_3 hP 0 rfl rfl 1 (by decide) (by decide +kernel) rfl dX3_value_20 ?_
      refine k_getN (v := .int (f 0)) (T := TX1) (C := RX1) (N := 16) (host := RX3) cx hi_X3_value_1 hP 1 rfl rfl 0 (by decide) nn_X3_187 rfl dX3_value_23 ?_
      have hC := c_X3_power l G (f 0)
      refine k_i (ws' := [oBr b tx h ht pa sl fi bf, oSt h o g f]) (as := []) cx hP hD hS [] rfl (kr_S (n := 1) (As := [.int (f 0)]) cx hC gX3_value_X3_power rfl rfl rfl (by decide +kernel) ⟨Nat.le_of_ble_eq_true rfl, Nat.le_of_ble_eq_true rfl⟩ hP hD [] rfl rfl rfl rfl hl (Nat.le_of_ble_eq_true rfl) dX3_value_26 ⟨Nat.zero_le _, Nat.zero_le _⟩) ⟨rfl, rfl⟩ rfl (fun H locs hP hD hS => ?_)
      refine lv_aload_n hx hb dX3_value_29 rfl (lv_at hl 0 rfl) ?_
      refine k_get (v := .ref h) (T := TX3) (C := RX3) (N := 8) cx hi_X3_value_3 hP 0 rfl rfl 1 (by decide) (by decide +kernel) rfl dX3_value_30 ?_
      refine k_getN (v := .int (f 2)) (T := TX1) (C := RX1) (N := 16) (host := RX3) cx hi_X3_value_1 hP 1 rfl rfl 2 (by decide) nn_X3_97 rfl dX3_value_33 ?_
      refine lv_imul hx hb dX3_value_36 ?_
      refine lv_istore_n (lv' := [(2, .int ((P_X3_power (f 0)) * (f 2))), (0, .ref b), (1, .int lim)]) hx hb dX3_value_37 rfl hl (by decide) rfl (fun ls hl => ?_)
      refine lv_aload_n hx hb dX3_value_38 rfl (lv_at hl 1 rfl) ?_
      refine k_get (v := .ref h) (T := TX3) (C := RX3) (N := 8) cx hi_X3_value_3 hP 0 rfl rfl 1 (by decide) (by decide +kernel) rfl dX3_value_39 ?_
      refine k_getN (v := .int (f 1)) (T := TX1) (C := RX1) (N := 16) (host := RX3) cx hi_X3_value_1 hP 1 rfl rfl 1 (by decide) nn_X3_193 rfl dX3_value_42 ?_
      have hC := c_X3_power l G (f 1)
      refine k_i (ws' := [oBr b tx h ht pa sl fi bf, oSt h o g f]) (as := []) cx hP hD hS [] rfl (kr_S (n := 1) (As := [.int (f 1)]) cx hC gX3_value_X3_power rfl rfl rfl (by decide +kernel) ⟨Nat.le_of_ble_eq_true rfl, Nat.le_of_ble_eq_true rfl⟩ hP hD [] rfl rfl rfl rfl hl (Nat.le_of_ble_eq_true rfl) dX3_value_45 ⟨Nat.zero_le _, Nat.zero_le _⟩) ⟨rfl, rfl⟩ rfl (fun H locs hP hD hS => ?_)
      refine lv_istore_n (lv' := [(3, .int (P_X3_power (f 1))), (2, .int ((P_X3_power (f 0)) * (f 2))), (0, .ref b), (1, .int lim)]) hx hb dX3_value_48 rfl hl (by decide) rfl (fun ls hl => ?_)
      refine lv_iload_n hx hb dX3_value_49 rfl (lv_at hl 3 rfl) ?_
      by_cases c_50_0 : lim = 0
      · replace hq := (if_pos c_50_0).symm.trans hq
        refine lv_lookup (tgt := 76) (off := 26) hx hb dX3_value_50 (by decide) (by rw [c_50_0]; decide) (by decide) ?_
        refine lv_iconst (v := 2) hx hb dX3_value_76 (by decide) ?_
        refine lv_iload_n hx hb dX3_value_77 rfl (lv_at hl 1 rfl) ?_
        refine lv_imul hx hb dX3_value_78 ?_
        refine lv_iload_n hx hb dX3_value_79 rfl (lv_at hl 0 rfl) ?_
        refine lv_iadd hx hb dX3_value_80 ?_
        refine lv_iconst (v := 2) hx hb dX3_value_81 (by decide) ?_
        refine lv_iload_n hx hb dX3_value_82 rfl (lv_at hl 0 rfl) ?_
        refine lv_imul hx hb dX3_value_83 ?_
        have hC := c_X3_quotient l G ((2 * ((P_X3_power (f 0)) * (f 2))) + (P_X3_power (f 1))) (2 * (P_X3_power (f 1)))
        refine k_i (ws' := [oBr b tx h ht pa sl fi bf, oSt h o g f]) (as := []) cx hP hD hS [] rfl (kr_S (n := 2) (As := [.int ((2 * ((P_X3_power (f 0)) * (f 2))) + (P_X3_power (f 1))), .int (2 * (P_X3_power (f 1)))]) cx hC gX3_value_X3_quotient rfl rfl rfl (by decide +kernel) ⟨Nat.le_of_ble_eq_true rfl, Nat.le_of_ble_eq_true rfl⟩ hP hD [] rfl rfl rfl rfl hl (Nat.le_of_ble_eq_true rfl) dX3_value_84 ⟨Nat.zero_le _, Nat.zero_le _⟩) ⟨rfl, rfl⟩ rfl (fun H locs hP hD hS => ?_)
        subst hq
        exact k_iretX cx rfl hP hS dX3_value_87
      replace hq := (if_neg c_50_0).symm.trans hq
      by_cases c_50_1 : lim = 1
      · replace hq := (if_pos c_50_1).symm.trans hq
        refine lv_lookup (tgt := 88) (off := 38) hx hb dX3_value_50 (by decide) (by rw [c_50_1]; decide) (by decide) ?_
        refine lv_iload_n hx hb dX3_value_88 rfl (lv_at hl 1 rfl) ?_
        refine lv_iload_n hx hb dX3_value_89 rfl (lv_at hl 0 rfl) ?_
        refine lv_iadd hx hb dX3_value_90 ?_
        refine lv_iconst (v := 1) hx hb dX3_value_91 (by decide) ?_
        refine lv_isub hx hb dX3_value_92 ?_
        refine lv_iload_n hx hb dX3_value_93 rfl (lv_at hl 0 rfl) ?_
        have hC := c_X3_quotient l G ((((P_X3_power (f 0)) * (f 2)) + (P_X3_power (f 1))) - 1) (P_X3_power (f 1))
        refine k_i (ws' := [oBr b tx h ht pa sl fi bf, oSt h o g f]) (as := []) cx hP hD hS [] rfl (kr_S (n := 2) (As := [.int ((((P_X3_power (f 0)) * (f 2)) + (P_X3_power (f 1))) - 1), .int (P_X3_power (f 1))]) cx hC gX3_value_X3_quotient rfl rfl rfl (by decide +kernel) ⟨Nat.le_of_ble_eq_true rfl, Nat.le_of_ble_eq_true rfl⟩ hP hD [] rfl rfl rfl rfl hl (Nat.le_of_ble_eq_true rfl) dX3_value_94 ⟨Nat.zero_le _, Nat.zero_le _⟩) ⟨rfl, rfl⟩ rfl (fun H locs hP hD hS => ?_)
        subst hq
        exact k_iretX cx rfl hP hS dX3_value_97
      replace hq := (if_neg c_50_1).symm.trans hq
      refine lv_lookup (tgt := 98) (off := 48) hx hb dX3_value_50 (by decide) ((lv_osw c_50_0 (by decide)).trans ((lv_osw c_50_1 (by decide)).trans (rfl))) (by decide) ?_
      refine lv_iload_n hx hb dX3_value_98 rfl (lv_at hl 1 rfl) ?_
      refine lv_iload_n hx hb dX3_value_99 rfl (lv_at hl 0 rfl) ?_
      have hC := c_X3_quotient l G ((P_X3_power (f 0)) * (f 2)) (P_X3_power (f 1))
      refine k_i (ws' := [oBr b tx h ht pa sl fi bf, oSt h o g f]) (as := []) cx hP hD hS [] rfl (kr_S (n := 2) (As := [.int ((P_X3_power (f 0)) * (f 2)), .int (P_X3_power (f 1))]) cx hC gX3_value_X3_quotient rfl rfl rfl (by decide +kernel) ⟨Nat.le_of_ble_eq_true rfl, Nat.le_of_ble_eq_true rfl⟩ hP hD [] rfl rfl rfl rfl hl (Nat.le_of_ble_eq_true rfl) dX3_value_100 ⟨Nat.zero_le _, Nat.zero_le _⟩) ⟨rfl, rfl⟩ rfl (fun H locs hP hD hS => ?_)
      subst hq
      exact k_iretX cx rfl hP hS dX3_value_103
    · replace hq := (if_neg c_6).symm.trans hq
      subst hq
      exact k_thrS (cls := "java/lang/IllegalArgumentException") (tx := "limit is not 0 to 2") (r := 0) (ws := [oBr b tx h ht pa sl fi bf, oSt h o g f]) (w0 := w0) cx ct (by decide +kernel) ⟨by decide +kernel, by decide +kernel⟩ (by decide +kernel) (fun w h => List.mem_cons_of_mem _ (List.mem_append_right _ h)) e1_45 e2_41_45 rfl (by rw [hw0]; exact hP) hS hl ⟨Nat.le_of_ble_eq_true rfl, Nat.le_of_ble_eq_true rfl, Nat.le_of_ble_eq_true rfl, Nat.le_of_ble_eq_true rfl⟩ dX3_value_9 dX3_value_12 dX3_value_13 dX3_value_15 dX3_value_18
  subst hL
  subst hH
  subst hq
  subst hw0
  exact key _ _ hP hD hS

/-! X3_bestR -/
theorem hi_X3_bestR_1 : ∀ w ∈ u_ws RX1 TX1 16, w ∈ wsX3_bestR := by decide +kernel
theorem hi_X3_bestR_3 : ∀ w ∈ u_ws RX3 TX3 8, w ∈ wsX3_bestR := by decide +kernel
abbrev rm_X3_bestR : Room := { frames := 6, cells := 1, slots := 6, locals := 82 }
abbrev Q_X3_bestR (G : gG) (b : Nat) (tx : Nat) (h : Nat) (ht : Nat) (pa : Nat) (sl : Nat) (fi : Nat) (o : Nat) (g : Nat) (w0 : va_W)  (bf : Nat → Int32) (f : Nat → Int32) (oh : Nat → Int32) (tgt : Int32 × Int32) (below : List Frame) (args : Array Value) (s : State) (A : Nat → Prop) : State → Prop := vx_MQ below (qX G tgt.1 tgt.2 [oBr b tx h ht pa sl fi bf, oSt h o g f, aI G o 6 oh] A) (xX G tgt.1 w0 A) args s 1 6 A
def P_X3_bestR (bf : Nat → Int32) (f : Nat → Int32) (oh : Nat → Int32) (i : Int32) : Int32 × Int32 := (if (P_X1_hasUnknown f i) = 0 then (3, 0) else (if (jabs (((P_X3_power (f 1)) * (P_X1_ohmsOf f oh i)) - ((P_X3_power (f 0)) * (jmin 9999 (P_X3_quotient ((P_X3_power (f 1)) * (P_X1_ohmsOf f oh i)) (P_X3_power (f 0))))))) ≤ (jabs (((P_X3_power (f 1)) * (P_X1_ohmsOf f oh i)) - ((P_X3_power (f 0)) * (jmin 9999 ((jmin 9999 (P_X3_quotient ((P_X3_power (f 1)) * (P_X1_ohmsOf f oh i)) (P_X3_power (f 0)))) + 1))))) then (0, (jmin 9999 (P_X3_quotient ((P_X3_power (f 1)) * (P_X1_ohmsOf f oh i)) (P_X3_power (f 0))))) else (0, (jmin 9999 ((jmin 9999 (P_X3_quotient ((P_X3_power (f 1)) * (P_X1_ohmsOf f oh i)) (P_X3_power (f 0)))) + 1)))))
set_option maxHeartbeats 4000000 in
set_option maxRecDepth 100000 in
theorem c_X3_bestR (l : Launch) (hlt : l.stackTraces = false) (G : gG) (b : Nat) (tx : Nat) (h : Nat) (ht : Nat) (pa : Nat) (sl : Nat) (fi : Nat) (o : Nat) (g : Nat) (bf : Nat → Int32) (f : Nat → Int32) (oh : Nat → Int32) (i : Int32)  : kX l G yX3_bestR wsX3_bestR rm_X3_bestR [.ref b, .int i] [oBr b tx h ht pa sl fi bf, oSt h o g f, aI G o 6 oh] (qX G ((P_X3_bestR bf f oh i).1) ((P_X3_bestR bf f oh i).2) [oBr b tx h ht pa sl fi bf, oSt h o g f, aI G o 6 oh]) (xX G ((P_X3_bestR bf f oh i).1) [oBr b tx h ht pa sl fi bf, oSt h o g f, aI G o 6 oh]) := by
  refine k_bodyX (cc := cX3_bestR) (nL := 6) (ret := (some .int)) hlt (by decide) rfl (Nat.le_of_ble_eq_true rfl) ?_
  intro p e s m args below meth c A cx ct hP hD hS ls hl
  obtain ⟨hx, hb, hml, hown, hts, hr, hlocks, hK, hA⟩ := id cx
  obtain ⟨H, hH⟩ : ∃ H, H = s.heap := ⟨_, rfl⟩
  obtain ⟨locs, hL⟩ : ∃ locs : List Loc, locs = [] := ⟨_, rfl⟩
  obtain ⟨tgt, hq⟩ : ∃ tgt, (P_X3_bestR bf f oh i) = tgt := ⟨_, rfl⟩
  obtain ⟨w0, hw0⟩ : ∃ w0 : va_W, w0 = [oBr b tx h ht pa sl fi bf, oSt h o g f, aI G o 6 oh] := ⟨_, rfl⟩
  have hS : va_S A s.heap H locs := by rw [hH, hL]; exact hS
  rw [← hH] at hP
  have hl : lv_has ls 6 [(0, .ref b), (1, .int i)] := hl
  have key : ∀ (H : Heap) (locs : List Loc), va_P G.1 vwCl [oBr b tx h ht pa sl fi bf, oSt h o g f, aI G o 6 oh] H → va_D A [oBr b tx h ht pa sl fi bf, oSt h o g f, aI G o 6 oh] → va_S A s.heap H locs → W p l e rm_X3_bestR s m args below meth c H locs 0 0 (Q_X3_bestR G b tx h ht pa sl fi o g w0 bf f oh tgt below args s A) (F0 m 0 ls []) := by
    clear hP hD hS hH hL
    intro H locs hP hD hS
    unfold P_X3_bestR at hq
    refine lv_aload_n hx hb dX3_bestR_0 rfl (lv_at hl 0 rfl) ?_
    refine k_get (v := .ref h) (T := TX3) (C := RX3) (N := 8) cx hi_X3_bestR_3 hP 0 rfl rfl 1 (by decide) (by decide +kernel) rfl dX3_bestR_1 ?_
    refine lv_iload_n hx hb dX3_bestR_4 rfl (lv_at hl 1 rfl) ?_
    have hC := c_X1_hasUnknown l G h o g f i
    refine k_i (ws' := [oBr b tx h ht pa sl fi bf, oSt h o g f, aI G o 6 oh]) (as := [h]) cx hP hD hS [1] rfl (kr_VN (n := 1) (As := [.int i]) (ci := 1) cx hC gX3_bestR_X1_hasUnknown_n144 rfl rfl rfl nn_X3_144 (by decide +kernel) (by decide +kernel) (by decide +kernel) (by decide +kernel) ⟨Nat.le_of_ble_eq_true rfl, Nat.le_of_ble_eq_true rfl⟩ rfl rfl rfl hP hD [1] rfl rfl rfl rfl hl (Nat.le_of_ble_eq_true rfl) dX3_bestR_5 ⟨Nat.zero_le _, Nat.zero_le _⟩) ⟨rfl, rfl⟩ rfl (fun H locs hP hD hS => ?_)
    refine lv_if_ne (tgt := 21) hx hb dX3_bestR_8 (by decide) (fun c_8 => ?_) (fun c_8 => ?_)
    · replace hq := (if_neg c_8).symm.trans hq
      refine lv_aload_n hx hb dX3_bestR_21 rfl (lv_at hl 0 rfl) ?_
      refine k_get (v := .ref h) (T := TX3) (C := RX3) (N := 8) cx hi_X3_bestR_3 hP 0 rfl rfl 1 (by decide) (by decide +kernel) rfl dX3_bestR_22 ?_
      refine k_getN (v := .int (f 0)) (T := TX1) (C := RX1) (N := 16) (host := RX3) cx hi_X3_bestR_1 hP 1 rfl rfl 0 (by decide) nn_X3_187 rfl dX3_bestR_25 ?_
      have hC := c_X3_power l G (f 0)
      refine k_i (ws' := [oBr b tx h ht pa sl fi bf, oSt h o g f, aI G o 6 oh]) (as := []) cx hP hD hS [] rfl (kr_S (n := 1) (As := [.int (f 0)]) cx hC gX3_bestR_X3_power rfl rfl rfl (by decide +kernel) ⟨Nat.le_of_ble_eq_true rfl, Nat.le_of_ble_eq_true rfl⟩ hP hD [] rfl rfl rfl rfl hl (Nat.le_of_ble_eq_true rfl) dX3_bestR_28 ⟨Nat.zero_le _, Nat.zero_le _⟩) ⟨rfl, rfl⟩ rfl (fun H locs hP hD hS => ?_)
      refine lv_istore_n (lv' := [(2, .int (P_X3_power (f 0))), (0, .ref b), (1, .int i)]) hx hb dX3_bestR_31 rfl hl (by decide) rfl (fun ls hl => ?_)
      refine lv_aload_n hx hb dX3_bestR_32 rfl (lv_at hl 1 rfl) ?_
      refine k_get (v := .ref h) (T := TX3) (C := RX3) (N := 8) cx hi_X3_bestR_3 hP 0 rfl rfl 1 (by decide) (by decide +kernel) rfl dX3_bestR_33 ?_
      refine k_getN (v := .int (f 1)) (T := TX1) (C := RX1) (N := 16) (host := RX3) cx hi_X3_bestR_1 hP 1 rfl rfl 1 (by decide) nn_X3_193 rfl dX3_bestR_36 ?_
      have hC := c_X3_power l G (f 1)
      refine k_i (ws' := [oBr b tx h ht pa sl fi bf, oSt h o g f, aI G o 6 oh]) (as := []) cx hP hD hS [] rfl (kr_S (n := 1) (As := [.int (f 1)]) cx hC gX3_bestR_X3_power rfl rfl rfl (by decide +kernel) ⟨Nat.le_of_ble_eq_true rfl, Nat.le_of_ble_eq_true rfl⟩ hP hD [] rfl rfl rfl rfl hl (Nat.le_of_ble_eq_true rfl) dX3_bestR_39 ⟨Nat.zero_le _, Nat.zero_le _⟩) ⟨rfl, rfl⟩ rfl (fun H locs hP hD hS => ?_)
      refine lv_aload_n hx hb dX3_bestR_42 rfl (lv_at hl 1 rfl) ?_
      refine k_get (v := .ref h) (T := TX3) (C := RX3) (N := 8) cx hi_X3_bestR_3 hP 0 rfl rfl 1 (by decide) (by decide +kernel) rfl dX3_bestR_43 ?_
      refine lv_iload_n hx hb dX3_bestR_46 rfl (lv_at hl 2 rfl) ?_
      have hC := c_X1_ohmsOf l G h o g f oh i
      refine k_i (ws' := [oBr b tx h ht pa sl fi bf, oSt h o g f, aI G o 6 oh]) (as := [h, o]) cx hP hD hS [1, 2] rfl (kr_VN (n := 1) (As := [.int i]) (ci := 1) cx hC gX3_bestR_X1_ohmsOf_n199 rfl rfl rfl nn_X3_199 (by decide +kernel) (by decide +kernel) (by decide +kernel) (by decide +kernel) ⟨Nat.le_of_ble_eq_true rfl, Nat.le_of_ble_eq_true rfl⟩ rfl rfl rfl hP hD [1, 2] rfl rfl rfl rfl hl (Nat.le_of_ble_eq_true rfl) dX3_bestR_47 ⟨Nat.zero_le _, Nat.zero_le _⟩) ⟨rfl, rfl⟩ rfl (fun H locs hP hD hS => ?_)
      refine lv_imul hx hb dX3_bestR_50 ?_
      refine lv_istore_n (lv' := [(3, .int ((P_X3_power (f 1)) * (P_X1_ohmsOf f oh i))), (2, .int (P_X3_power (f 0))), (0, .ref b), (1, .int i)]) hx hb dX3_bestR_51 rfl hl (by decide) rfl (fun ls hl => ?_)
      refine lv_sipush (v := 9999) hx hb dX3_bestR_52 (by decide) ?_
      refine lv_iload_n hx hb dX3_bestR_55 rfl (lv_at hl 0 rfl) ?_
      refine lv_iload_n hx hb dX3_bestR_56 rfl (lv_at hl 1 rfl) ?_
      have hC := c_X3_quotient l G ((P_X3_power (f 1)) * (P_X1_ohmsOf f oh i)) (P_X3_power (f 0))
      refine k_i (ws' := [oBr b tx h ht pa sl fi bf, oSt h o g f, aI G o 6 oh]) (as := []) cx hP hD hS [] rfl (kr_S (n := 2) (As := [.int ((P_X3_power (f 1)) * (P_X1_ohmsOf f oh i)), .int (P_X3_power (f 0))]) cx hC gX3_bestR_X3_quotient rfl rfl rfl (by decide +kernel) ⟨Nat.le_of_ble_eq_true rfl, Nat.le_of_ble_eq_true rfl⟩ hP hD [] rfl rfl rfl rfl hl (Nat.le_of_ble_eq_true rfl) dX3_bestR_57 ⟨Nat.zero_le _, Nat.zero_le _⟩) ⟨rfl, rfl⟩ rfl (fun H locs hP hD hS => ?_)
      refine k_min cx hl (by decide +kernel) (by decide +kernel) (by decide +kernel) (by decide +kernel) ⟨Nat.le_of_ble_eq_true rfl, Nat.le_of_ble_eq_true rfl, Nat.zero_le _, Nat.zero_le _⟩ dX3_bestR_60 ?_
      refine lv_istore (lv' := [(4, .int (jmin 9999 (P_X3_quotient ((P_X3_power (f 1)) * (P_X1_ohmsOf f oh i)) (P_X3_power (f 0))))), (3, .int ((P_X3_power (f 1)) * (P_X1_ohmsOf f oh i))), (2, .int (P_X3_power (f 0))), (0, .ref b), (1, .int i)]) hx hb dX3_bestR_63 hl (by decide) rfl (fun ls hl => ?_)
      refine lv_sipush (v := 9999) hx hb dX3_bestR_65 (by decide) ?_
      refine lv_iload hx hb dX3_bestR_68 (lv_at hl 0 rfl) ?_
      refine lv_iconst (v := 1) hx hb dX3_bestR_70 (by decide) ?_
      refine lv_iadd hx hb dX3_bestR_71 ?_
      refine k_min cx hl (by decide +kernel) (by decide +kernel) (by decide +kernel) (by decide +kernel) ⟨Nat.le_of_ble_eq_true rfl, Nat.le_of_ble_eq_true rfl, Nat.zero_le _, Nat.zero_le _⟩ dX3_bestR_72 ?_
      refine lv_istore (lv' := [(5, .int (jmin 9999 ((jmin 9999 (P_X3_quotient ((P_X3_power (f 1)) * (P_X1_ohmsOf f oh i)) (P_X3_power (f 0)))) + 1))), (4, .int (jmin 9999 (P_X3_quotient ((P_X3_power (f 1)) * (P_X1_ohmsOf f oh i)) (P_X3_power (f 0))))), (3, .int ((P_X3_power (f 1)) * (P_X1_ohmsOf f oh i))), (2, .int (P_X3_power (f 0))), (0, .ref b), (1, .int i)]) hx hb dX3_bestR_75 hl (by decide) rfl (fun ls hl => ?_)
      refine lv_iload_n hx hb dX3_bestR_77 rfl (lv_at hl 2 rfl) ?_
      refine lv_iload_n hx hb dX3_bestR_78 rfl (lv_at hl 3 rfl) ?_
      refine lv_iload hx hb dX3_bestR_79 (lv_at hl 0 rfl) ?_
      refine lv_imul hx hb dX3_bestR_81 ?_
      refine lv_isub hx hb dX3_bestR_82 ?_
      refine k_abs cx hl (by decide +kernel) (by decide +kernel) (by decide +kernel) (by decide +kernel) ⟨Nat.le_of_ble_eq_true rfl, Nat.le_of_ble_eq_true rfl, Nat.zero_le _, Nat.zero_le _⟩ dX3_bestR_83 ?_
      refine lv_iload_n hx hb dX3_bestR_86 rfl (lv_at hl 2 rfl) ?_
      refine lv_iload_n hx hb dX3_bestR_87 rfl (lv_at hl 3 rfl) ?_
      refine lv_iload hx hb dX3_bestR_88 (lv_at hl 1 rfl) ?_
      refine lv_imul hx hb dX3_bestR_90 ?_
      refine lv_isub hx hb dX3_bestR_91 ?_
      refine k_abs cx hl (by decide +kernel) (by decide +kernel) (by decide +kernel) (by decide +kernel) ⟨Nat.le_of_ble_eq_true rfl, Nat.le_of_ble_eq_true rfl, Nat.zero_le _, Nat.zero_le _⟩ dX3_bestR_92 ?_
      refine lv_icmp_ge (tgt := 103) hx hb dX3_bestR_95 (by decide) (fun c_95 => ?_) (fun c_95 => ?_)
      · replace hq := (if_pos c_95).symm.trans hq
        refine lv_iload hx hb dX3_bestR_103 (lv_at hl 1 rfl) ?_
        subst hq
        exact k_iretX cx rfl hP hS dX3_bestR_105
      · replace hq := (if_neg c_95).symm.trans hq
        refine lv_iload hx hb dX3_bestR_98 (lv_at hl 0 rfl) ?_
        refine lv_goto (tgt := 105) hx hb dX3_bestR_100 (by decide) ?_
        subst hq
        exact k_iretX cx rfl hP hS dX3_bestR_105
    · replace hq := (if_pos c_8).symm.trans hq
      subst hq
      exact k_thrS (cls := "java/lang/IndexOutOfBoundsException") (tx := "no such unknown resistor") (r := 0) (ws := [oBr b tx h ht pa sl fi bf, oSt h o g f, aI G o 6 oh]) (w0 := w0) cx ct (by decide +kernel) ⟨by decide +kernel, by decide +kernel⟩ (by decide +kernel) (fun w h => List.mem_cons_of_mem _ (List.mem_append_right _ h)) e1_152 e2_148_152 rfl (by rw [hw0]; exact hP) hS hl ⟨Nat.le_of_ble_eq_true rfl, Nat.le_of_ble_eq_true rfl, Nat.le_of_ble_eq_true rfl, Nat.le_of_ble_eq_true rfl⟩ dX3_bestR_11 dX3_bestR_14 dX3_bestR_15 dX3_bestR_17 dX3_bestR_20
  subst hL
  subst hH
  subst hq
  subst hw0
  exact key _ _ hP hD hS

/-! X3_bestArms -/
theorem hi_X3_bestArms_3 : ∀ w ∈ u_ws RX3 TX3 8, w ∈ wsX3_bestArms := by decide +kernel
abbrev rm_X3_bestArms : Room := { frames := 6, cells := 1, slots := 6, locals := 82 }
abbrev Q_X3_bestArms (G : gG) (b : Nat) (tx : Nat) (h : Nat) (ht : Nat) (pa : Nat) (sl : Nat) (fi : Nat) (o : Nat) (g : Nat) (w0 : va_W)  (bf : Nat → Int32) (f : Nat → Int32) (oh : Nat → Int32) (tgt : Int32 × Int32) (below : List Frame) (args : Array Value) (s : State) (A : Nat → Prop) : State → Prop := vx_MQ below (qX G tgt.1 tgt.2 [oBr b tx h ht pa sl fi bf, oSt h o g f, aI G o 6 oh] A) (xX G tgt.1 w0 A) args s 1 6 A
def P_X3_bestArms_25 (bf : Nat → Int32) (f : Nat → Int32) (oh : Nat → Int32) (i : Int32) : Nat → Int32 → Int32 → Int32 × Int32
  | 0, _, _ => (0, 0)
  | n + 1, v2, v3 => (if 3 < v3 then (0, v2) else (let j51 := fun (j51_2 : Int32) => (P_X3_bestArms_25 bf f oh i n j51_2 (v3 + 1)); (if 9999 < ((P_X1_ohmsOf f oh i) * (P_X3_power v3)) then (j51 v2) else (j51 v3))))
set_option maxHeartbeats 4000000 in
set_option maxRecDepth 100000 in
theorem b_X3_bestArms_25 {p : Program} {l : Launch} {e : Env} {s : State} {m : MethodId} {args : Array Value} {below : List Frame} {meth : Method} {c : Code} {G : gG} {A : Nat → Prop} (cx : Cx p s m args meth c cX3_bestArms 4 yX3_bestArms.cls wsX3_bestArms (some .int) G A) (b : Nat) (tx : Nat) (h : Nat) (ht : Nat) (pa : Nat) (sl : Nat) (fi : Nat) (o : Nat) (g : Nat) (w0 : va_W) (bf : Nat → Int32) (f : Nat → Int32) (oh : Nat → Int32) (i : Int32)   (tgt : Int32 × Int32) : ∀ (n : Nat) (v2 : Int32) (v3 : Int32)  (hm : ((3 : Int32).toInt + 1 - (v3 : Int32).toInt).toNat < n) (hq : P_X3_bestArms_25  bf f oh i n v2 v3 = tgt) (H : Heap) (locs : List Loc) (hP : va_P G.1 vwCl [oBr b tx h ht pa sl fi bf, oSt h o g f, aI G o 6 oh] H) (hD : va_D A [oBr b tx h ht pa sl fi bf, oSt h o g f, aI G o 6 oh]) (hS : va_S A s.heap H locs) (ls : Array Slot) (hl : lv_has ls 4 [(0, .ref b), (1, .int i), (2, .int v2), (3, .int v3)]), W p l e rm_X3_bestArms s m args below meth c H locs 0 0 (Q_X3_bestArms G b tx h ht pa sl fi o g w0 bf f oh tgt below args s A) (F0 m 25 ls []) := by
  obtain ⟨hx, hb, hml, hown, hts, hr, hlocks, hK, hA⟩ := id cx
  intro n
  induction n with
  | zero => intros; omega
  | succ n ih =>
    intro v2 v3  hm hq H locs hP hD hS ls hl
    unfold P_X3_bestArms_25 at hq
    refine lv_iload_n hx hb dX3_bestArms_25 rfl (lv_at hl 3 rfl) ?_
    refine lv_iconst (v := 3) hx hb dX3_bestArms_26 (by decide) ?_
    refine lv_icmp_gt (tgt := 57) hx hb dX3_bestArms_27 (by decide) (fun c_27 => ?_) (fun c_27 => ?_)
    · replace hq := (if_pos c_27).symm.trans hq
      refine lv_iload_n hx hb dX3_bestArms_57 rfl (lv_at hl 2 rfl) ?_
      subst hq
      exact k_iretX cx rfl hP hS dX3_bestArms_58
    · replace hq := (if_neg c_27).symm.trans hq
      refine lv_aload_n hx hb dX3_bestArms_30 rfl (lv_at hl 0 rfl) ?_
      refine k_get (v := .ref h) (T := TX3) (C := RX3) (N := 8) cx hi_X3_bestArms_3 hP 0 rfl rfl 1 (by decide) (by decide +kernel) rfl dX3_bestArms_31 ?_
      refine lv_iload_n hx hb dX3_bestArms_34 rfl (lv_at hl 1 rfl) ?_
      have hC := c_X1_ohmsOf l G h o g f oh i
      refine k_i (ws' := [oBr b tx h ht pa sl fi bf, oSt h o g f, aI G o 6 oh]) (as := [h, o]) cx hP hD hS [1, 2] rfl (kr_VN (n := 1) (As := [.int i]) (ci := 1) cx hC gX3_bestArms_X1_ohmsOf_n199 rfl rfl rfl nn_X3_199 (by decide +kernel) (by decide +kernel) (by decide +kernel) (by decide +kernel) ⟨Nat.le_of_ble_eq_true rfl, Nat.le_of_ble_eq_true rfl⟩ rfl rfl rfl hP hD [1, 2] rfl rfl rfl rfl hl (Nat.le_of_ble_eq_true rfl) dX3_bestArms_35 ⟨Nat.zero_le _, Nat.zero_le _⟩) ⟨rfl, rfl⟩ rfl (fun H locs hP hD hS => ?_)
      refine lv_iload_n hx hb dX3_bestArms_38 rfl (lv_at hl 3 rfl) ?_
      have hC := c_X3_power l G v3
      refine k_i (ws' := [oBr b tx h ht pa sl fi bf, oSt h o g f, aI G o 6 oh]) (as := []) cx hP hD hS [] rfl (kr_S (n := 1) (As := [.int v3]) cx hC gX3_bestArms_X3_power rfl rfl rfl (by decide +kernel) ⟨Nat.le_of_ble_eq_true rfl, Nat.le_of_ble_eq_true rfl⟩ hP hD [] rfl rfl rfl rfl hl (Nat.le_of_ble_eq_true rfl) dX3_bestArms_39 ⟨Nat.zero_le _, Nat.zero_le _⟩) ⟨rfl, rfl⟩ rfl (fun H locs hP hD hS => ?_)
      refine lv_imul hx hb dX3_bestArms_42 ?_
      refine lv_sipush (v := 9999) hx hb dX3_bestArms_43 (by decide) ?_
      have J51 : ∀ (j51_2 : Int32), (P_X3_bestArms_25 bf f oh i n j51_2 (v3 + 1)) = tgt → ∀ (H : Heap) (locs : List Loc) (ls : Array Slot), va_P G.1 vwCl [oBr b tx h ht pa sl fi bf, oSt h o g f, aI G o 6 oh] H → va_D A [oBr b tx h ht pa sl fi bf, oSt h o g f, aI G o 6 oh] → va_S A s.heap H locs → lv_has ls 4 [(0, .ref b), (1, .int i), (2, .int j51_2), (3, .int v3)] → W p l e rm_X3_bestArms s m args below meth c H locs 0 0 (Q_X3_bestArms G b tx h ht pa sl fi o g w0 bf f oh tgt below args s A) (F0 m 51 ls []) := by
        intro j51_2 hq H locs ls hP hD hS hl
        refine lv_iinc (v := (v3 + 1)) (lv' := [(3, .int (v3 + 1)), (0, .ref b), (1, .int i), (2, .int j51_2)]) hx hb dX3_bestArms_51 hl (k := 3) rfl rfl (by decide) rfl (fun ls hl => ?_)
        refine lv_goto (tgt := 25) hx hb dX3_bestArms_54 (by decide) ?_
        exact ih j51_2 (v3 + 1)  (by have hmd := mu_leN (N := 3) (by decide) (by assumption); omega) hq H locs hP hD hS _ (lv_sub hl [1, 2, 3, 0] rfl)
      refine lv_icmp_gt (tgt := 51) hx hb dX3_bestArms_46 (by decide) (fun c_46 => ?_) (fun c_46 => ?_)
      · replace hq := (if_pos c_46).symm.trans hq
        exact J51 v2 hq H locs ls hP hD hS (lv_sub hl [0, 1, 2, 3] rfl)
      · replace hq := (if_neg c_46).symm.trans hq
        refine lv_iload_n hx hb dX3_bestArms_49 rfl (lv_at hl 3 rfl) ?_
        refine lv_istore_n (lv' := [(2, .int v3), (0, .ref b), (1, .int i), (3, .int v3)]) hx hb dX3_bestArms_50 rfl hl (by decide) rfl (fun ls hl => ?_)
        exact J51 v3 hq H locs ls hP hD hS (lv_sub hl [1, 2, 0, 3] rfl)
def P_X3_bestArms (bf : Nat → Int32) (f : Nat → Int32) (oh : Nat → Int32) (i : Int32) : Int32 × Int32 := (if (P_X1_hasUnknown f i) = 0 then (3, 0) else (P_X3_bestArms_25 bf f oh i (((3 : Int32).toInt + 1 - (1 : Int32).toInt).toNat + 1) 0 1))
set_option maxHeartbeats 4000000 in
set_option maxRecDepth 100000 in
theorem c_X3_bestArms (l : Launch) (hlt : l.stackTraces = false) (G : gG) (b : Nat) (tx : Nat) (h : Nat) (ht : Nat) (pa : Nat) (sl : Nat) (fi : Nat) (o : Nat) (g : Nat) (bf : Nat → Int32) (f : Nat → Int32) (oh : Nat → Int32) (i : Int32)  : kX l G yX3_bestArms wsX3_bestArms rm_X3_bestArms [.ref b, .int i] [oBr b tx h ht pa sl fi bf, oSt h o g f, aI G o 6 oh] (qX G ((P_X3_bestArms bf f oh i).1) ((P_X3_bestArms bf f oh i).2) [oBr b tx h ht pa sl fi bf, oSt h o g f, aI G o 6 oh]) (xX G ((P_X3_bestArms bf f oh i).1) [oBr b tx h ht pa sl fi bf, oSt h o g f, aI G o 6 oh]) := by
  refine k_bodyX (cc := cX3_bestArms) (nL := 4) (ret := (some .int)) hlt (by decide) rfl (Nat.le_of_ble_eq_true rfl) ?_
  intro p e s m args below meth c A cx ct hP hD hS ls hl
  obtain ⟨hx, hb, hml, hown, hts, hr, hlocks, hK, hA⟩ := id cx
  obtain ⟨H, hH⟩ : ∃ H, H = s.heap := ⟨_, rfl⟩
  obtain ⟨locs, hL⟩ : ∃ locs : List Loc, locs = [] := ⟨_, rfl⟩
  obtain ⟨tgt, hq⟩ : ∃ tgt, (P_X3_bestArms bf f oh i) = tgt := ⟨_, rfl⟩
  obtain ⟨w0, hw0⟩ : ∃ w0 : va_W, w0 = [oBr b tx h ht pa sl fi bf, oSt h o g f, aI G o 6 oh] := ⟨_, rfl⟩
  have hS : va_S A s.heap H locs := by rw [hH, hL]; exact hS
  rw [← hH] at hP
  have hl : lv_has ls 4 [(0, .ref b), (1, .int i)] := hl
  have key : ∀ (H : Heap) (locs : List Loc), va_P G.1 vwCl [oBr b tx h ht pa sl fi bf, oSt h o g f, aI G o 6 oh] H → va_D A [oBr b tx h ht pa sl fi bf, oSt h o g f, aI G o 6 oh] → va_S A s.heap H locs → W p l e rm_X3_bestArms s m args below meth c H locs 0 0 (Q_X3_bestArms G b tx h ht pa sl fi o g w0 bf f oh tgt below args s A) (F0 m 0 ls []) := by
    clear hP hD hS hH hL
    intro H locs hP hD hS
    unfold P_X3_bestArms at hq
    refine lv_aload_n hx hb dX3_bestArms_0 rfl (lv_at hl 0 rfl) ?_
    refine k_get (v := .ref h) (T := TX3) (C := RX3) (N := 8) cx hi_X3_bestArms_3 hP 0 rfl rfl 1 (by decide) (by decide +kernel) rfl dX3_bestArms_1 ?_
    refine lv_iload_n hx hb dX3_bestArms_4 rfl (lv_at hl 1 rfl) ?_
    have hC := c_X1_hasUnknown l G h o g f i
    refine k_i (ws' := [oBr b tx h ht pa sl fi bf, oSt h o g f, aI G o 6 oh]) (as := [h]) cx hP hD hS [1] rfl (kr_VN (n := 1) (As := [.int i]) (ci := 1) cx hC gX3_bestArms_X1_hasUnknown_n144 rfl rfl rfl nn_X3_144 (by decide +kernel) (by decide +kernel) (by decide +kernel) (by decide +kernel) ⟨Nat.le_of_ble_eq_true rfl, Nat.le_of_ble_eq_true rfl⟩ rfl rfl rfl hP hD [1] rfl rfl rfl rfl hl (Nat.le_of_ble_eq_true rfl) dX3_bestArms_5 ⟨Nat.zero_le _, Nat.zero_le _⟩) ⟨rfl, rfl⟩ rfl (fun H locs hP hD hS => ?_)
    refine lv_if_ne (tgt := 21) hx hb dX3_bestArms_8 (by decide) (fun c_8 => ?_) (fun c_8 => ?_)
    · replace hq := (if_neg c_8).symm.trans hq
      refine lv_iconst (v := 0) hx hb dX3_bestArms_21 (by decide) ?_
      refine lv_istore_n (lv' := [(2, .int 0), (0, .ref b), (1, .int i)]) hx hb dX3_bestArms_22 rfl hl (by decide) rfl (fun ls hl => ?_)
      refine lv_iconst (v := 1) hx hb dX3_bestArms_23 (by decide) ?_
      refine lv_istore_n (lv' := [(3, .int 1), (2, .int 0), (0, .ref b), (1, .int i)]) hx hb dX3_bestArms_24 rfl hl (by decide) rfl (fun ls hl => ?_)
      exact b_X3_bestArms_25 cx b tx h ht pa sl fi o g w0 bf f oh i  tgt (((3 : Int32).toInt + 1 - (1 : Int32).toInt).toNat + 1) 0 1  (Nat.lt_succ_self _) hq H locs hP hD hS _ (lv_sub hl [2, 3, 1, 0] rfl)
    · replace hq := (if_pos c_8).symm.trans hq
      subst hq
      exact k_thrS (cls := "java/lang/IndexOutOfBoundsException") (tx := "no such unknown resistor") (r := 0) (ws := [oBr b tx h ht pa sl fi bf, oSt h o g f, aI G o 6 oh]) (w0 := w0) cx ct (by decide +kernel) ⟨by decide +kernel, by decide +kernel⟩ (by decide +kernel) (fun w h => List.mem_cons_of_mem _ (List.mem_append_right _ h)) e1_152 e2_148_152 rfl (by rw [hw0]; exact hP) hS hl ⟨Nat.le_of_ble_eq_true rfl, Nat.le_of_ble_eq_true rfl, Nat.le_of_ble_eq_true rfl, Nat.le_of_ble_eq_true rfl⟩ dX3_bestArms_11 dX3_bestArms_14 dX3_bestArms_15 dX3_bestArms_17 dX3_bestArms_20
  subst hL
  subst hH
  subst hq
  subst hw0
  exact key _ _ hP hD hS

/-! X3_enoughShunt -/
theorem hi_X3_enoughShunt_1 : ∀ w ∈ u_ws RX1 TX1 16, w ∈ wsX3_enoughShunt := by decide +kernel
theorem hi_X3_enoughShunt_3 : ∀ w ∈ u_ws RX3 TX3 8, w ∈ wsX3_enoughShunt := by decide +kernel
abbrev rm_X3_enoughShunt : Room := { frames := 2, cells := 0, slots := 0, locals := 44 }
abbrev Q_X3_enoughShunt (G : gG) (b : Nat) (tx : Nat) (h : Nat) (ht : Nat) (pa : Nat) (sl : Nat) (fi : Nat) (o : Nat) (g : Nat)  (bf : Nat → Int32) (f : Nat → Int32) (oh : Nat → Int32) (tgt : Int32) (below : List Frame) (args : Array Value) (s : State) (A : Nat → Prop) : State → Prop := MQ below (qI G tgt [oBr b tx h ht pa sl fi bf, oSt h o g f, aI G o 6 oh] A) args s 0 0 A
def P_X3_enoughShunt_41 (bf : Nat → Int32) (f : Nat → Int32) (oh : Nat → Int32) : Nat → Int32 → Int32 → Int32 → Int32 → Int32
  | 0, _, _, _, _ => 0
  | n + 1, v1, v2, v3, v4 => (if 3 < v4 then (-9999) else (let j95 := fun (_ : Unit) => (P_X3_enoughShunt_41 bf f oh n v1 v2 v3 (v4 + 1)); (if (P_X3_outside (v3 + (P_X1_deflection f v1 v2 v4)) (-500) 500) = 0 then (if (P_X3_outside (v3 - (P_X1_deflection f v1 v2 v4)) (-500) 500) = 0 then v4 else (j95 ())) else (j95 ()))))
set_option maxHeartbeats 4000000 in
set_option maxRecDepth 100000 in
theorem b_X3_enoughShunt_41 {p : Program} {l : Launch} {e : Env} {s : State} {m : MethodId} {args : Array Value} {below : List Frame} {meth : Method} {c : Code} {G : gG} {A : Nat → Prop} (cx : Cx p s m args meth c cX3_enoughShunt 6 yX3_enoughShunt.cls wsX3_enoughShunt (some .int) G A) (b : Nat) (tx : Nat) (h : Nat) (ht : Nat) (pa : Nat) (sl : Nat) (fi : Nat) (o : Nat) (g : Nat) (bf : Nat → Int32) (f : Nat → Int32) (oh : Nat → Int32)   (tgt : Int32) : ∀ (n : Nat) (v1 : Int32) (v2 : Int32) (v3 : Int32) (v4 : Int32)  (hm : ((3 : Int32).toInt + 1 - (v4 : Int32).toInt).toNat < n) (hq : P_X3_enoughShunt_41  bf f oh n v1 v2 v3 v4 = tgt) (H : Heap) (locs : List Loc) (hP : va_P G.1 vwCl [oBr b tx h ht pa sl fi bf, oSt h o g f, aI G o 6 oh] H) (hD : va_D A [oBr b tx h ht pa sl fi bf, oSt h o g f, aI G o 6 oh]) (hS : va_S A s.heap H locs) (ls : Array Slot) (hl : lv_has ls 6 [(0, .ref b), (1, .int v1), (2, .int v2), (3, .int v3), (4, .int v4)]), W p l e rm_X3_enoughShunt s m args below meth c H locs 0 0 (Q_X3_enoughShunt G b tx h ht pa sl fi o g bf f oh tgt below args s A) (F0 m 41 ls []) := by
  obtain ⟨hx, hb, hml, hown, hts, hr, hlocks, hK, hA⟩ := id cx
  intro n
  induction n with
  | zero => intros; omega
  | succ n ih =>
    intro v1 v2 v3 v4  hm hq H locs hP hD hS ls hl
    unfold P_X3_enoughShunt_41 at hq
    refine lv_iload hx hb dX3_enoughShunt_41 (lv_at hl 4 rfl) ?_
    refine lv_iconst (v := 3) hx hb dX3_enoughShunt_43 (by decide) ?_
    refine lv_icmp_gt (tgt := 101) hx hb dX3_enoughShunt_44 (by decide) (fun c_44 => ?_) (fun c_44 => ?_)
    · replace hq := (if_pos c_44).symm.trans hq
      refine lv_sipush (v := (-9999)) hx hb dX3_enoughShunt_101 (by decide) ?_
      subst hq
      exact k_iret cx hP hS dX3_enoughShunt_104
    · replace hq := (if_neg c_44).symm.trans hq
      refine lv_aload_n hx hb dX3_enoughShunt_47 rfl (lv_at hl 0 rfl) ?_
      refine k_get (v := .ref h) (T := TX3) (C := RX3) (N := 8) cx hi_X3_enoughShunt_3 hP 0 rfl rfl 1 (by decide) (by decide +kernel) rfl dX3_enoughShunt_48 ?_
      refine lv_iload_n hx hb dX3_enoughShunt_51 rfl (lv_at hl 1 rfl) ?_
      refine lv_iload_n hx hb dX3_enoughShunt_52 rfl (lv_at hl 2 rfl) ?_
      refine lv_iload hx hb dX3_enoughShunt_53 (lv_at hl 4 rfl) ?_
      have hC := c_X1_deflection l G h o g f v1 v2 v4
      refine k_i (ws' := [oBr b tx h ht pa sl fi bf, oSt h o g f, aI G o 6 oh]) (as := [h]) cx hP hD hS [1] rfl (kr_VN (n := 3) (As := [.int v1, .int v2, .int v4]) (ci := 1) cx hC gX3_enoughShunt_X1_deflection_n210 rfl rfl rfl nn_X3_210 (by decide +kernel) (by decide +kernel) (by decide +kernel) (by decide +kernel) ⟨Nat.le_of_ble_eq_true rfl, Nat.le_of_ble_eq_true rfl⟩ rfl rfl rfl hP hD [1] rfl rfl rfl rfl hl (Nat.le_of_ble_eq_true rfl) dX3_enoughShunt_55 ⟨Nat.le_refl _, Nat.le_refl _⟩) ⟨rfl, rfl⟩ rfl (fun H locs hP hD hS => ?_)
      refine lv_istore (lv' := [(5, .int (P_X1_deflection f v1 v2 v4)), (0, .ref b), (1, .int v1), (2, .int v2), (3, .int v3), (4, .int v4)]) hx hb dX3_enoughShunt_58 hl (by decide) rfl (fun ls hl => ?_)
      refine lv_iload_n hx hb dX3_enoughShunt_60 rfl (lv_at hl 4 rfl) ?_
      refine lv_iload hx hb dX3_enoughShunt_61 (lv_at hl 0 rfl) ?_
      refine lv_iadd hx hb dX3_enoughShunt_63 ?_
      refine lv_sipush (v := (-500)) hx hb dX3_enoughShunt_64 (by decide) ?_
      refine lv_sipush (v := 500) hx hb dX3_enoughShunt_67 (by decide) ?_
      have hC := c_X3_outside l G (v3 + (P_X1_deflection f v1 v2 v4)) (-500) 500
      refine k_i (ws' := [oBr b tx h ht pa sl fi bf, oSt h o g f, aI G o 6 oh]) (as := []) cx hP hD hS [] rfl (kr_S (n := 3) (As := [.int (v3 + (P_X1_deflection f v1 v2 v4)), .int (-500), .int 500]) cx hC gX3_enoughShunt_X3_outside rfl rfl rfl (by decide +kernel) ⟨Nat.le_of_ble_eq_true rfl, Nat.le_of_ble_eq_true rfl⟩ hP hD [] rfl rfl rfl rfl hl (Nat.le_of_ble_eq_true rfl) dX3_enoughShunt_70 ⟨Nat.le_refl _, Nat.le_refl _⟩) ⟨rfl, rfl⟩ rfl (fun H locs hP hD hS => ?_)
      have J95 : ∀ (_ : Unit), (P_X3_enoughShunt_41 bf f oh n v1 v2 v3 (v4 + 1)) = tgt → ∀ (H : Heap) (locs : List Loc) (ls : Array Slot), va_P G.1 vwCl [oBr b tx h ht pa sl fi bf, oSt h o g f, aI G o 6 oh] H → va_D A [oBr b tx h ht pa sl fi bf, oSt h o g f, aI G o 6 oh] → va_S A s.heap H locs → lv_has ls 6 [(0, .ref b), (1, .int v1), (2, .int v2), (3, .int v3), (4, .int v4)] → W p l e rm_X3_enoughShunt s m args below meth c H locs 0 0 (Q_X3_enoughShunt G b tx h ht pa sl fi o g bf f oh tgt below args s A) (F0 m 95 ls []) := by
        intro _ hq H locs ls hP hD hS hl
        refine lv_iinc (v := (v4 + 1)) (lv' := [(4, .int (v4 + 1)), (0, .ref b), (1, .int v1), (2, .int v2), (3, .int v3)]) hx hb dX3_enoughShunt_95 hl (k := 4) rfl rfl (by decide) rfl (fun ls hl => ?_)
        refine lv_goto (tgt := 41) hx hb dX3_enoughShunt_98 (by decide) ?_
        exact ih v1 v2 v3 (v4 + 1)  (by have hmd := mu_leN (N := 3) (by decide) (by assumption); omega) hq H locs hP hD hS _ (lv_sub hl [1, 2, 3, 4, 0] rfl)
      refine lv_if_ne (tgt := 95) hx hb dX3_enoughShunt_73 (by decide) (fun c_73 => ?_) (fun c_73 => ?_)
      · replace hq := (if_neg c_73).symm.trans hq
        exact J95 () hq H locs ls hP hD hS (lv_sub hl [1, 2, 3, 4, 5] rfl)
      · replace hq := (if_pos c_73).symm.trans hq
        refine lv_iload_n hx hb dX3_enoughShunt_76 rfl (lv_at hl 4 rfl) ?_
        refine lv_iload hx hb dX3_enoughShunt_77 (lv_at hl 0 rfl) ?_
        refine lv_isub hx hb dX3_enoughShunt_79 ?_
        refine lv_sipush (v := (-500)) hx hb dX3_enoughShunt_80 (by decide) ?_
        refine lv_sipush (v := 500) hx hb dX3_enoughShunt_83 (by decide) ?_
        have hC := c_X3_outside l G (v3 - (P_X1_deflection f v1 v2 v4)) (-500) 500
        refine k_i (ws' := [oBr b tx h ht pa sl fi bf, oSt h o g f, aI G o 6 oh]) (as := []) cx hP hD hS [] rfl (kr_S (n := 3) (As := [.int (v3 - (P_X1_deflection f v1 v2 v4)), .int (-500), .int 500]) cx hC gX3_enoughShunt_X3_outside rfl rfl rfl (by decide +kernel) ⟨Nat.le_of_ble_eq_true rfl, Nat.le_of_ble_eq_true rfl⟩ hP hD [] rfl rfl rfl rfl hl (Nat.le_of_ble_eq_true rfl) dX3_enoughShunt_86 ⟨Nat.le_refl _, Nat.le_refl _⟩) ⟨rfl, rfl⟩ rfl (fun H locs hP hD hS => ?_)
        refine lv_if_ne (tgt := 95) hx hb dX3_enoughShunt_89 (by decide) (fun c_89 => ?_) (fun c_89 => ?_)
        · replace hq := (if_neg c_89).symm.trans hq
          exact J95 () hq H locs ls hP hD hS (lv_sub hl [1, 2, 3, 4, 5] rfl)
        · replace hq := (if_pos c_89).symm.trans hq
          refine lv_iload hx hb dX3_enoughShunt_92 (lv_at hl 5 rfl) ?_
          subst hq
          exact k_iret cx hP hS dX3_enoughShunt_94
def P_X3_enoughShunt (bf : Nat → Int32) (f : Nat → Int32) (oh : Nat → Int32) : Int32 := (P_X3_enoughShunt_41 bf f oh (((3 : Int32).toInt + 1 - (0 : Int32).toInt).toNat + 1) (P_X1_difference f oh (f 2)) (P_X1_denominator f oh (f 2)) (P_X1_offset f) 0)
set_option maxHeartbeats 4000000 in
set_option maxRecDepth 100000 in
theorem c_X3_enoughShunt (l : Launch) (G : gG) (b : Nat) (tx : Nat) (h : Nat) (ht : Nat) (pa : Nat) (sl : Nat) (fi : Nat) (o : Nat) (g : Nat) (bf : Nat → Int32) (f : Nat → Int32) (oh : Nat → Int32)  : kM l G yX3_enoughShunt wsX3_enoughShunt rm_X3_enoughShunt [.ref b] [oBr b tx h ht pa sl fi bf, oSt h o g f, aI G o 6 oh] (qI G ((P_X3_enoughShunt bf f oh)) [oBr b tx h ht pa sl fi bf, oSt h o g f, aI G o 6 oh]) := by
  refine k_body (cc := cX3_enoughShunt) (nL := 6) (ret := (some .int)) (by decide) rfl (Nat.le_of_ble_eq_true rfl) ?_
  intro p e s m args below meth c A cx hP hD hS ls hl
  obtain ⟨hx, hb, hml, hown, hts, hr, hlocks, hK, hA⟩ := id cx
  obtain ⟨H, hH⟩ : ∃ H, H = s.heap := ⟨_, rfl⟩
  obtain ⟨locs, hL⟩ : ∃ locs : List Loc, locs = [] := ⟨_, rfl⟩
  obtain ⟨tgt, hq⟩ : ∃ tgt, (P_X3_enoughShunt bf f oh) = tgt := ⟨_, rfl⟩
  have hS : va_S A s.heap H locs := by rw [hH, hL]; exact hS
  rw [← hH] at hP
  have hl : lv_has ls 6 [(0, .ref b)] := hl
  have key : ∀ (H : Heap) (locs : List Loc), va_P G.1 vwCl [oBr b tx h ht pa sl fi bf, oSt h o g f, aI G o 6 oh] H → va_D A [oBr b tx h ht pa sl fi bf, oSt h o g f, aI G o 6 oh] → va_S A s.heap H locs → W p l e rm_X3_enoughShunt s m args below meth c H locs 0 0 (Q_X3_enoughShunt G b tx h ht pa sl fi o g bf f oh tgt below args s A) (F0 m 0 ls []) := by
    clear hP hD hS hH hL
    intro H locs hP hD hS
    unfold P_X3_enoughShunt at hq
    refine lv_aload_n hx hb dX3_enoughShunt_0 rfl (lv_at hl 0 rfl) ?_
    refine k_get (v := .ref h) (T := TX3) (C := RX3) (N := 8) cx hi_X3_enoughShunt_3 hP 0 rfl rfl 1 (by decide) (by decide +kernel) rfl dX3_enoughShunt_1 ?_
    refine lv_aload_n hx hb dX3_enoughShunt_4 rfl (lv_at hl 0 rfl) ?_
    refine k_get (v := .ref h) (T := TX3) (C := RX3) (N := 8) cx hi_X3_enoughShunt_3 hP 0 rfl rfl 1 (by decide) (by decide +kernel) rfl dX3_enoughShunt_5 ?_
    refine k_getN (v := .int (f 2)) (T := TX1) (C := RX1) (N := 16) (host := RX3) cx hi_X3_enoughShunt_1 hP 1 rfl rfl 2 (by decide) nn_X3_97 rfl dX3_enoughShunt_8 ?_
    have hC := c_X1_difference l G h o g f oh (f 2)
    refine k_i (ws' := [oBr b tx h ht pa sl fi bf, oSt h o g f, aI G o 6 oh]) (as := [h, o]) cx hP hD hS [1, 2] rfl (kr_VN (n := 1) (As := [.int (f 2)]) (ci := 1) cx hC gX3_enoughShunt_X1_difference_n100 rfl rfl rfl nn_X3_100 (by decide +kernel) (by decide +kernel) (by decide +kernel) (by decide +kernel) ⟨Nat.le_of_ble_eq_true rfl, Nat.le_of_ble_eq_true rfl⟩ rfl rfl rfl hP hD [1, 2] rfl rfl rfl rfl hl (Nat.le_of_ble_eq_true rfl) dX3_enoughShunt_11 ⟨Nat.le_refl _, Nat.le_refl _⟩) ⟨rfl, rfl⟩ rfl (fun H locs hP hD hS => ?_)
    refine lv_istore_n (lv' := [(1, .int (P_X1_difference f oh (f 2))), (0, .ref b)]) hx hb dX3_enoughShunt_14 rfl hl (by decide) rfl (fun ls hl => ?_)
    refine lv_aload_n hx hb dX3_enoughShunt_15 rfl (lv_at hl 1 rfl) ?_
    refine k_get (v := .ref h) (T := TX3) (C := RX3) (N := 8) cx hi_X3_enoughShunt_3 hP 0 rfl rfl 1 (by decide) (by decide +kernel) rfl dX3_enoughShunt_16 ?_
    refine lv_aload_n hx hb dX3_enoughShunt_19 rfl (lv_at hl 1 rfl) ?_
    refine k_get (v := .ref h) (T := TX3) (C := RX3) (N := 8) cx hi_X3_enoughShunt_3 hP 0 rfl rfl 1 (by decide) (by decide +kernel) rfl dX3_enoughShunt_20 ?_
    refine k_getN (v := .int (f 2)) (T := TX1) (C := RX1) (N := 16) (host := RX3) cx hi_X3_enoughShunt_1 hP 1 rfl rfl 2 (by decide) nn_X3_97 rfl dX3_enoughShunt_23 ?_
    have hC := c_X1_denominator l G h o g f oh (f 2)
    refine k_i (ws' := [oBr b tx h ht pa sl fi bf, oSt h o g f, aI G o 6 oh]) (as := [h, o]) cx hP hD hS [1, 2] rfl (kr_VN (n := 1) (As := [.int (f 2)]) (ci := 1) cx hC gX3_enoughShunt_X1_denominator_n103 rfl rfl rfl nn_X3_103 (by decide +kernel) (by decide +kernel) (by decide +kernel) (by decide +kernel) ⟨Nat.le_of_ble_eq_true rfl, Nat.le_of_ble_eq_true rfl⟩ rfl rfl rfl hP hD [1, 2] rfl rfl rfl rfl hl (Nat.le_of_ble_eq_true rfl) dX3_enoughShunt_26 ⟨Nat.le_refl _, Nat.le_refl _⟩) ⟨rfl, rfl⟩ rfl (fun H locs hP hD hS => ?_)
    refine lv_istore_n (lv' := [(2, .int (P_X1_denominator f oh (f 2))), (1, .int (P_X1_difference f oh (f 2))), (0, .ref b)]) hx hb dX3_enoughShunt_29 rfl hl (by decide) rfl (fun ls hl => ?_)
    refine lv_aload_n hx hb dX3_enoughShunt_30 rfl (lv_at hl 2 rfl) ?_
    refine k_get (v := .ref h) (T := TX3) (C := RX3) (N := 8) cx hi_X3_enoughShunt_3 hP 0 rfl rfl 1 (by decide) (by decide +kernel) rfl dX3_enoughShunt_31 ?_
    have hC := c_X1_offset l G h o g f
    refine k_i (ws' := [oBr b tx h ht pa sl fi bf, oSt h o g f, aI G o 6 oh]) (as := [h]) cx hP hD hS [1] rfl (kr_VN (n := 0) (As := []) (ci := 1) cx hC gX3_enoughShunt_X1_offset_n109 rfl rfl rfl nn_X3_109 (by decide +kernel) (by decide +kernel) (by decide +kernel) (by decide +kernel) ⟨Nat.le_of_ble_eq_true rfl, Nat.le_of_ble_eq_true rfl⟩ rfl rfl rfl hP hD [1] rfl rfl rfl rfl hl (Nat.le_of_ble_eq_true rfl) dX3_enoughShunt_34 ⟨Nat.le_refl _, Nat.le_refl _⟩) ⟨rfl, rfl⟩ rfl (fun H locs hP hD hS => ?_)
    refine lv_istore_n (lv' := [(3, .int (P_X1_offset f)), (2, .int (P_X1_denominator f oh (f 2))), (1, .int (P_X1_difference f oh (f 2))), (0, .ref b)]) hx hb dX3_enoughShunt_37 rfl hl (by decide) rfl (fun ls hl => ?_)
    refine lv_iconst (v := 0) hx hb dX3_enoughShunt_38 (by decide) ?_
    refine lv_istore (lv' := [(4, .int 0), (3, .int (P_X1_offset f)), (2, .int (P_X1_denominator f oh (f 2))), (1, .int (P_X1_difference f oh (f 2))), (0, .ref b)]) hx hb dX3_enoughShunt_39 hl (by decide) rfl (fun ls hl => ?_)
    exact b_X3_enoughShunt_41 cx b tx h ht pa sl fi o g bf f oh  tgt (((3 : Int32).toInt + 1 - (0 : Int32).toInt).toNat + 1) (P_X1_difference f oh (f 2)) (P_X1_denominator f oh (f 2)) (P_X1_offset f) 0  (Nat.lt_succ_self _) hq H locs hP hD hS _ (lv_sub hl [4, 3, 2, 1, 0] rfl)
  subst hL
  subst hH
  subst hq
  exact key _ _ hP hD hS

/-! X3_sensitivity -/
theorem hi_X3_sensitivity_1 : ∀ w ∈ u_ws RX1 TX1 16, w ∈ wsX3_sensitivity := by decide +kernel
theorem hi_X3_sensitivity_3 : ∀ w ∈ u_ws RX3 TX3 8, w ∈ wsX3_sensitivity := by decide +kernel
abbrev rm_X3_sensitivity : Room := { frames := 3, cells := 0, slots := 0, locals := 65 }
abbrev Q_X3_sensitivity (G : gG) (b : Nat) (tx : Nat) (h : Nat) (ht : Nat) (pa : Nat) (sl : Nat) (fi : Nat) (o : Nat) (g : Nat)  (bf : Nat → Int32) (f : Nat → Int32) (oh : Nat → Int32) (tgt : Int32) (below : List Frame) (args : Array Value) (s : State) (A : Nat → Prop) : State → Prop := MQ below (qI G tgt [oBr b tx h ht pa sl fi bf, oSt h o g f, aI G o 6 oh] A) args s 0 0 A
def P_X3_sensitivity (bf : Nat → Int32) (f : Nat → Int32) (oh : Nat → Int32) : Int32 := (let j46 := fun (j46_2 : Int32) => (if (f 2) ≤ 0 then j46_2 else (jmax j46_2 (jabs ((P_X3_deflectionWith bf f oh ((f 2) - 1)) - (P_X3_deflectionWith bf f oh (f 2)))))); (if 9999 ≤ (f 2) then (j46 0) else (j46 (jabs ((P_X3_deflectionWith bf f oh ((f 2) + 1)) - (P_X3_deflectionWith bf f oh (f 2)))))))
set_option maxHeartbeats 4000000 in
set_option maxRecDepth 100000 in
theorem c_X3_sensitivity (l : Launch) (G : gG) (b : Nat) (tx : Nat) (h : Nat) (ht : Nat) (pa : Nat) (sl : Nat) (fi : Nat) (o : Nat) (g : Nat) (bf : Nat → Int32) (f : Nat → Int32) (oh : Nat → Int32)  : kM l G yX3_sensitivity wsX3_sensitivity rm_X3_sensitivity [.ref b] [oBr b tx h ht pa sl fi bf, oSt h o g f, aI G o 6 oh] (qI G ((P_X3_sensitivity bf f oh)) [oBr b tx h ht pa sl fi bf, oSt h o g f, aI G o 6 oh]) := by
  refine k_body (cc := cX3_sensitivity) (nL := 3) (ret := (some .int)) (by decide) rfl (Nat.le_of_ble_eq_true rfl) ?_
  intro p e s m args below meth c A cx hP hD hS ls hl
  obtain ⟨hx, hb, hml, hown, hts, hr, hlocks, hK, hA⟩ := id cx
  obtain ⟨H, hH⟩ : ∃ H, H = s.heap := ⟨_, rfl⟩
  obtain ⟨locs, hL⟩ : ∃ locs : List Loc, locs = [] := ⟨_, rfl⟩
  obtain ⟨tgt, hq⟩ : ∃ tgt, (P_X3_sensitivity bf f oh) = tgt := ⟨_, rfl⟩
  have hS : va_S A s.heap H locs := by rw [hH, hL]; exact hS
  rw [← hH] at hP
  have hl : lv_has ls 3 [(0, .ref b)] := hl
  have key : ∀ (H : Heap) (locs : List Loc), va_P G.1 vwCl [oBr b tx h ht pa sl fi bf, oSt h o g f, aI G o 6 oh] H → va_D A [oBr b tx h ht pa sl fi bf, oSt h o g f, aI G o 6 oh] → va_S A s.heap H locs → W p l e rm_X3_sensitivity s m args below meth c H locs 0 0 (Q_X3_sensitivity G b tx h ht pa sl fi o g bf f oh tgt below args s A) (F0 m 0 ls []) := by
    clear hP hD hS hH hL
    intro H locs hP hD hS
    unfold P_X3_sensitivity at hq
    refine lv_aload_n hx hb dX3_sensitivity_0 rfl (lv_at hl 0 rfl) ?_
    refine lv_aload_n hx hb dX3_sensitivity_1 rfl (lv_at hl 0 rfl) ?_
    refine k_get (v := .ref h) (T := TX3) (C := RX3) (N := 8) cx hi_X3_sensitivity_3 hP 0 rfl rfl 1 (by decide) (by decide +kernel) rfl dX3_sensitivity_2 ?_
    refine k_getN (v := .int (f 2)) (T := TX1) (C := RX1) (N := 16) (host := RX3) cx hi_X3_sensitivity_1 hP 1 rfl rfl 2 (by decide) nn_X3_97 rfl dX3_sensitivity_5 ?_
    have hC := c_X3_deflectionWith l G b tx h ht pa sl fi o g bf f oh (f 2)
    refine k_i (ws' := [oBr b tx h ht pa sl fi bf, oSt h o g f, aI G o 6 oh]) (as := [b, h, o]) cx hP hD hS [0, 1, 2] rfl (kr_V (n := 1) (As := [.int (f 2)]) (ci := 3) cx hC gX3_sensitivity_X3_deflectionWith rfl rfl rfl (by decide +kernel) ⟨Nat.le_of_ble_eq_true rfl, Nat.le_of_ble_eq_true rfl⟩ rfl rfl rfl hP hD [0, 1, 2] rfl rfl rfl rfl hl (Nat.le_of_ble_eq_true rfl) dX3_sensitivity_8 ⟨Nat.le_refl _, Nat.le_refl _⟩) ⟨rfl, rfl⟩ rfl (fun H locs hP hD hS => ?_)
    refine lv_istore_n (lv' := [(1, .int (P_X3_deflectionWith bf f oh (f 2))), (0, .ref b)]) hx hb dX3_sensitivity_11 rfl hl (by decide) rfl (fun ls hl => ?_)
    refine lv_iconst (v := 0) hx hb dX3_sensitivity_12 (by decide) ?_
    refine lv_istore_n (lv' := [(2, .int 0), (1, .int (P_X3_deflectionWith bf f oh (f 2))), (0, .ref b)]) hx hb dX3_sensitivity_13 rfl hl (by decide) rfl (fun ls hl => ?_)
    refine lv_aload_n hx hb dX3_sensitivity_14 rfl (lv_at hl 2 rfl) ?_
    refine k_get (v := .ref h) (T := TX3) (C := RX3) (N := 8) cx hi_X3_sensitivity_3 hP 0 rfl rfl 1 (by decide) (by decide +kernel) rfl dX3_sensitivity_15 ?_
    refine k_getN (v := .int (f 2)) (T := TX1) (C := RX1) (N := 16) (host := RX3) cx hi_X3_sensitivity_1 hP 1 rfl rfl 2 (by decide) nn_X3_97 rfl dX3_sensitivity_18 ?_
    refine lv_sipush (v := 9999) hx hb dX3_sensitivity_21 (by decide) ?_
    have J46 : ∀ (j46_2 : Int32), (if (f 2) ≤ 0 then j46_2 else (jmax j46_2 (jabs ((P_X3_deflectionWith bf f oh ((f 2) - 1)) - (P_X3_deflectionWith bf f oh (f 2)))))) = tgt → ∀ (H : Heap) (locs : List Loc) (ls : Array Slot), va_P G.1 vwCl [oBr b tx h ht pa sl fi bf, oSt h o g f, aI G o 6 oh] H → va_D A [oBr b tx h ht pa sl fi bf, oSt h o g f, aI G o 6 oh] → va_S A s.heap H locs → lv_has ls 3 [(0, .ref b), (1, .int (P_X3_deflectionWith bf f oh (f 2))), (2, .int j46_2)] → W p l e rm_X3_sensitivity s m args below meth c H locs 0 0 (Q_X3_sensitivity G b tx h ht pa sl fi o g bf f oh tgt below args s A) (F0 m 46 ls []) := by
      intro j46_2 hq H locs ls hP hD hS hl
      refine lv_aload_n hx hb dX3_sensitivity_46 rfl (lv_at hl 0 rfl) ?_
      refine k_get (v := .ref h) (T := TX3) (C := RX3) (N := 8) cx hi_X3_sensitivity_3 hP 0 rfl rfl 1 (by decide) (by decide +kernel) rfl dX3_sensitivity_47 ?_
      refine k_getN (v := .int (f 2)) (T := TX1) (C := RX1) (N := 16) (host := RX3) cx hi_X3_sensitivity_1 hP 1 rfl rfl 2 (by decide) nn_X3_97 rfl dX3_sensitivity_50 ?_
      refine lv_if_le (tgt := 79) hx hb dX3_sensitivity_53 (by decide) (fun c_53 => ?_) (fun c_53 => ?_)
      · replace hq := (if_pos c_53).symm.trans hq
        refine lv_iload_n hx hb dX3_sensitivity_79 rfl (lv_at hl 2 rfl) ?_
        subst hq
        exact k_iret cx hP hS dX3_sensitivity_80
      · replace hq := (if_neg c_53).symm.trans hq
        refine lv_iload_n hx hb dX3_sensitivity_56 rfl (lv_at hl 2 rfl) ?_
        refine lv_aload_n hx hb dX3_sensitivity_57 rfl (lv_at hl 0 rfl) ?_
        refine lv_aload_n hx hb dX3_sensitivity_58 rfl (lv_at hl 0 rfl) ?_
        refine k_get (v := .ref h) (T := TX3) (C := RX3) (N := 8) cx hi_X3_sensitivity_3 hP 0 rfl rfl 1 (by decide) (by decide +kernel) rfl dX3_sensitivity_59 ?_
        refine k_getN (v := .int (f 2)) (T := TX1) (C := RX1) (N := 16) (host := RX3) cx hi_X3_sensitivity_1 hP 1 rfl rfl 2 (by decide) nn_X3_97 rfl dX3_sensitivity_62 ?_
        refine lv_iconst (v := 1) hx hb dX3_sensitivity_65 (by decide) ?_
        refine lv_isub hx hb dX3_sensitivity_66 ?_
        have hC := c_X3_deflectionWith l G b tx h ht pa sl fi o g bf f oh ((f 2) - 1)
        refine k_i (ws' := [oBr b tx h ht pa sl fi bf, oSt h o g f, aI G o 6 oh]) (as := [b, h, o]) cx hP hD hS [0, 1, 2] rfl (kr_V (n := 1) (As := [.int ((f 2) - 1)]) (ci := 3) cx hC gX3_sensitivity_X3_deflectionWith rfl rfl rfl (by decide +kernel) ⟨Nat.le_of_ble_eq_true rfl, Nat.le_of_ble_eq_true rfl⟩ rfl rfl rfl hP hD [0, 1, 2] rfl rfl rfl rfl hl (Nat.le_of_ble_eq_true rfl) dX3_sensitivity_67 ⟨Nat.le_refl _, Nat.le_refl _⟩) ⟨rfl, rfl⟩ rfl (fun H locs hP hD hS => ?_)
        refine lv_iload_n hx hb dX3_sensitivity_70 rfl (lv_at hl 1 rfl) ?_
        refine lv_isub hx hb dX3_sensitivity_71 ?_
        refine k_abs cx hl (by decide +kernel) (by decide +kernel) (by decide +kernel) (by decide +kernel) ⟨Nat.le_of_ble_eq_true rfl, Nat.le_of_ble_eq_true rfl, Nat.zero_le _, Nat.zero_le _⟩ dX3_sensitivity_72 ?_
        refine k_max cx hl (by decide +kernel) (by decide +kernel) (by decide +kernel) (by decide +kernel) ⟨Nat.le_of_ble_eq_true rfl, Nat.le_of_ble_eq_true rfl, Nat.zero_le _, Nat.zero_le _⟩ dX3_sensitivity_75 ?_
        refine lv_istore_n (lv' := [(2, .int (jmax j46_2 (jabs ((P_X3_deflectionWith bf f oh ((f 2) - 1)) - (P_X3_deflectionWith bf f oh (f 2)))))), (0, .ref b), (1, .int (P_X3_deflectionWith bf f oh (f 2)))]) hx hb dX3_sensitivity_78 rfl hl (by decide) rfl (fun ls hl => ?_)
        refine lv_iload_n hx hb dX3_sensitivity_79 rfl (lv_at hl 0 rfl) ?_
        subst hq
        exact k_iret cx hP hS dX3_sensitivity_80
    refine lv_icmp_ge (tgt := 46) hx hb dX3_sensitivity_24 (by decide) (fun c_24 => ?_) (fun c_24 => ?_)
    · replace hq := (if_pos c_24).symm.trans hq
      exact J46 0 hq H locs ls hP hD hS (lv_sub hl [2, 1, 0] rfl)
    · replace hq := (if_neg c_24).symm.trans hq
      refine lv_aload_n hx hb dX3_sensitivity_27 rfl (lv_at hl 2 rfl) ?_
      refine lv_aload_n hx hb dX3_sensitivity_28 rfl (lv_at hl 2 rfl) ?_
      refine k_get (v := .ref h) (T := TX3) (C := RX3) (N := 8) cx hi_X3_sensitivity_3 hP 0 rfl rfl 1 (by decide) (by decide +kernel) rfl dX3_sensitivity_29 ?_
      refine k_getN (v := .int (f 2)) (T := TX1) (C := RX1) (N := 16) (host := RX3) cx hi_X3_sensitivity_1 hP 1 rfl rfl 2 (by decide) nn_X3_97 rfl dX3_sensitivity_32 ?_
      refine lv_iconst (v := 1) hx hb dX3_sensitivity_35 (by decide) ?_
      refine lv_iadd hx hb dX3_sensitivity_36 ?_
      have hC := c_X3_deflectionWith l G b tx h ht pa sl fi o g bf f oh ((f 2) + 1)
      refine k_i (ws' := [oBr b tx h ht pa sl fi bf, oSt h o g f, aI G o 6 oh]) (as := [b, h, o]) cx hP hD hS [0, 1, 2] rfl (kr_V (n := 1) (As := [.int ((f 2) + 1)]) (ci := 3) cx hC gX3_sensitivity_X3_deflectionWith rfl rfl rfl (by decide +kernel) ⟨Nat.le_of_ble_eq_true rfl, Nat.le_of_ble_eq_true rfl⟩ rfl rfl rfl hP hD [0, 1, 2] rfl rfl rfl rfl hl (Nat.le_of_ble_eq_true rfl) dX3_sensitivity_37 ⟨Nat.le_refl _, Nat.le_refl _⟩) ⟨rfl, rfl⟩ rfl (fun H locs hP hD hS => ?_)
      refine lv_iload_n hx hb dX3_sensitivity_40 rfl (lv_at hl 1 rfl) ?_
      refine lv_isub hx hb dX3_sensitivity_41 ?_
      refine k_abs cx hl (by decide +kernel) (by decide +kernel) (by decide +kernel) (by decide +kernel) ⟨Nat.le_of_ble_eq_true rfl, Nat.le_of_ble_eq_true rfl, Nat.zero_le _, Nat.zero_le _⟩ dX3_sensitivity_42 ?_
      refine lv_istore_n (lv' := [(2, .int (jabs ((P_X3_deflectionWith bf f oh ((f 2) + 1)) - (P_X3_deflectionWith bf f oh (f 2))))), (1, .int (P_X3_deflectionWith bf f oh (f 2))), (0, .ref b)]) hx hb dX3_sensitivity_45 rfl hl (by decide) rfl (fun ls hl => ?_)
      exact J46 (jabs ((P_X3_deflectionWith bf f oh ((f 2) + 1)) - (P_X3_deflectionWith bf f oh (f 2)))) hq H locs ls hP hD hS (lv_sub hl [2, 1, 0] rfl)
  subst hL
  subst hH
  subst hq
  exact key _ _ hP hD hS

/-! X3_offsetAfter -/
theorem hi_X3_offsetAfter_1 : ∀ w ∈ u_ws RX1 TX1 16, w ∈ wsX3_offsetAfter := by decide +kernel
theorem hi_X3_offsetAfter_3 : ∀ w ∈ u_ws RX3 TX3 8, w ∈ wsX3_offsetAfter := by decide +kernel
abbrev rm_X3_offsetAfter : Room := { frames := 6, cells := 1, slots := 6, locals := 82 }
abbrev Q_X3_offsetAfter (G : gG) (b : Nat) (tx : Nat) (h : Nat) (ht : Nat) (pa : Nat) (sl : Nat) (fi : Nat) (o : Nat) (g : Nat) (w0 : va_W)  (bf : Nat → Int32) (f : Nat → Int32) (tgt : Int32 × Int32) (below : List Frame) (args : Array Value) (s : State) (A : Nat → Prop) : State → Prop := vx_MQ below (qX G tgt.1 tgt.2 [oBr b tx h ht pa sl fi bf, oSt h o g f] A) (xX G tgt.1 w0 A) args s 1 6 A
def P_X3_offsetAfter_69 (bf : Nat → Int32) (f : Nat → Int32) (pr : Int32) (wt : Int32) : Nat → Int32 → Int32 → Int32 × Int32
  | 0, _, _ => (0, 0)
  | n + 1, v3, v4 => (if wt ≤ v4 then (0, (P_X1_offsetAt f v3)) else (P_X3_offsetAfter_69 bf f pr wt n (P_X1_cooled v3) (v4 + 1)))
set_option maxHeartbeats 4000000 in
set_option maxRecDepth 100000 in
theorem b_X3_offsetAfter_69 {p : Program} {l : Launch} {e : Env} {s : State} {m : MethodId} {args : Array Value} {below : List Frame} {meth : Method} {c : Code} {G : gG} {A : Nat → Prop} (cx : Cx p s m args meth c cX3_offsetAfter 5 yX3_offsetAfter.cls wsX3_offsetAfter (some .int) G A) (b : Nat) (tx : Nat) (h : Nat) (ht : Nat) (pa : Nat) (sl : Nat) (fi : Nat) (o : Nat) (g : Nat) (w0 : va_W) (bf : Nat → Int32) (f : Nat → Int32) (pr : Int32) (wt : Int32)   (tgt : Int32 × Int32) : ∀ (n : Nat) (v3 : Int32) (v4 : Int32) (h0 : ¬ v4 < 0) (hm : ((wt).toInt - (v4 : Int32).toInt).toNat < n) (hq : P_X3_offsetAfter_69  bf f pr wt n v3 v4 = tgt) (H : Heap) (locs : List Loc) (hP : va_P G.1 vwCl [oBr b tx h ht pa sl fi bf, oSt h o g f] H) (hD : va_D A [oBr b tx h ht pa sl fi bf, oSt h o g f]) (hS : va_S A s.heap H locs) (ls : Array Slot) (hl : lv_has ls 5 [(0, .ref b), (2, .int wt), (3, .int v3), (4, .int v4)]), W p l e rm_X3_offsetAfter s m args below meth c H locs 0 0 (Q_X3_offsetAfter G b tx h ht pa sl fi o g w0 bf f tgt below args s A) (F0 m 69 ls []) := by
  obtain ⟨hx, hb, hml, hown, hts, hr, hlocks, hK, hA⟩ := id cx
  intro n
  induction n with
  | zero => intros; omega
  | succ n ih =>
    intro v3 v4 h0 hm hq H locs hP hD hS ls hl
    unfold P_X3_offsetAfter_69 at hq
    refine lv_iload hx hb dX3_offsetAfter_69 (lv_at hl 3 rfl) ?_
    refine lv_iload_n hx hb dX3_offsetAfter_71 rfl (lv_at hl 1 rfl) ?_
    refine lv_icmp_ge (tgt := 86) hx hb dX3_offsetAfter_72 (by decide) (fun c_72 => ?_) (fun c_72 => ?_)
    · replace hq := (if_pos c_72).symm.trans hq
      refine lv_aload_n hx hb dX3_offsetAfter_86 rfl (lv_at hl 0 rfl) ?_
      refine k_get (v := .ref h) (T := TX3) (C := RX3) (N := 8) cx hi_X3_offsetAfter_3 hP 0 rfl rfl 1 (by decide) (by decide +kernel) rfl dX3_offsetAfter_87 ?_
      refine lv_iload_n hx hb dX3_offsetAfter_90 rfl (lv_at hl 2 rfl) ?_
      have hC := c_X1_offsetAt l G h o g f v3
      refine k_i (ws' := [oBr b tx h ht pa sl fi bf, oSt h o g f]) (as := [h]) cx hP hD hS [1] rfl (kr_VN (n := 1) (As := [.int v3]) (ci := 1) cx hC gX3_offsetAfter_X1_offsetAt_n231 rfl rfl rfl nn_X3_231 (by decide +kernel) (by decide +kernel) (by decide +kernel) (by decide +kernel) ⟨Nat.le_of_ble_eq_true rfl, Nat.le_of_ble_eq_true rfl⟩ rfl rfl rfl hP hD [1] rfl rfl rfl rfl hl (Nat.le_of_ble_eq_true rfl) dX3_offsetAfter_91 ⟨Nat.zero_le _, Nat.zero_le _⟩) ⟨rfl, rfl⟩ rfl (fun H locs hP hD hS => ?_)
      subst hq
      exact k_iretX cx rfl hP hS dX3_offsetAfter_94
    · replace hq := (if_neg c_72).symm.trans hq
      refine lv_iload_n hx hb dX3_offsetAfter_75 rfl (lv_at hl 2 rfl) ?_
      have hC := c_X1_cooled l G v3
      refine k_i (ws' := [oBr b tx h ht pa sl fi bf, oSt h o g f]) (as := []) cx hP hD hS [] rfl (kr_SN (n := 1) (As := [.int v3]) cx hC gX3_offsetAfter_X1_cooled_n228 rfl rfl rfl nn_X3_228 (by decide +kernel) (by decide +kernel) (by decide +kernel) ⟨Nat.le_of_ble_eq_true rfl, Nat.le_of_ble_eq_true rfl⟩ hP hD [] rfl rfl rfl rfl hl (Nat.le_of_ble_eq_true rfl) dX3_offsetAfter_76 ⟨Nat.zero_le _, Nat.zero_le _⟩) ⟨rfl, rfl⟩ rfl (fun H locs hP hD hS => ?_)
      refine lv_istore_n (lv' := [(3, .int (P_X1_cooled v3)), (0, .ref b), (2, .int wt), (4, .int v4)]) hx hb dX3_offsetAfter_79 rfl hl (by decide) rfl (fun ls hl => ?_)
      refine lv_iinc (v := (v4 + 1)) (lv' := [(4, .int (v4 + 1)), (3, .int (P_X1_cooled v3)), (0, .ref b), (2, .int wt)]) hx hb dX3_offsetAfter_80 hl (k := 3) rfl rfl (by decide) rfl (fun ls hl => ?_)
      refine lv_goto (tgt := 69) hx hb dX3_offsetAfter_83 (by decide) ?_
      exact ih (P_X1_cooled v3) (v4 + 1) (nn_inc h0 (N := wt) (by assumption)) (by have hmd := mu_up (N := wt) (by assumption); omega) hq H locs hP hD hS _ (lv_sub hl [2, 3, 1, 0] rfl)
def P_X3_offsetAfter_42 (bf : Nat → Int32) (f : Nat → Int32) (pr : Int32) (wt : Int32) : Nat → Int32 → Int32 → Int32 × Int32
  | 0, _, _ => (0, 0)
  | n + 1, v3, v4 => (if pr ≤ v4 then (P_X3_offsetAfter_69 bf f pr wt (((wt).toInt - (0 : Int32).toInt).toNat + 1) v3 0) else (P_X3_offsetAfter_42 bf f pr wt n (P_X1_warmed v3 (f 3)) (v4 + 1)))
set_option maxHeartbeats 4000000 in
set_option maxRecDepth 100000 in
theorem b_X3_offsetAfter_42 {p : Program} {l : Launch} {e : Env} {s : State} {m : MethodId} {args : Array Value} {below : List Frame} {meth : Method} {c : Code} {G : gG} {A : Nat → Prop} (cx : Cx p s m args meth c cX3_offsetAfter 5 yX3_offsetAfter.cls wsX3_offsetAfter (some .int) G A) (b : Nat) (tx : Nat) (h : Nat) (ht : Nat) (pa : Nat) (sl : Nat) (fi : Nat) (o : Nat) (g : Nat) (w0 : va_W) (bf : Nat → Int32) (f : Nat → Int32) (pr : Int32) (wt : Int32)   (tgt : Int32 × Int32) : ∀ (n : Nat) (v3 : Int32) (v4 : Int32) (h0 : ¬ v4 < 0) (hm : ((pr).toInt - (v4 : Int32).toInt).toNat < n) (hq : P_X3_offsetAfter_42  bf f pr wt n v3 v4 = tgt) (H : Heap) (locs : List Loc) (hP : va_P G.1 vwCl [oBr b tx h ht pa sl fi bf, oSt h o g f] H) (hD : va_D A [oBr b tx h ht pa sl fi bf, oSt h o g f]) (hS : va_S A s.heap H locs) (ls : Array Slot) (hl : lv_has ls 5 [(0, .ref b), (1, .int pr), (2, .int wt), (3, .int v3), (4, .int v4)]), W p l e rm_X3_offsetAfter s m args below meth c H locs 0 0 (Q_X3_offsetAfter G b tx h ht pa sl fi o g w0 bf f tgt below args s A) (F0 m 42 ls []) := by
  obtain ⟨hx, hb, hml, hown, hts, hr, hlocks, hK, hA⟩ := id cx
  intro n
  induction n with
  | zero => intros; omega
  | succ n ih =>
    intro v3 v4 h0 hm hq H locs hP hD hS ls hl
    unfold P_X3_offsetAfter_42 at hq
    refine lv_iload hx hb dX3_offsetAfter_42 (lv_at hl 4 rfl) ?_
    refine lv_iload_n hx hb dX3_offsetAfter_44 rfl (lv_at hl 1 rfl) ?_
    refine lv_icmp_ge (tgt := 66) hx hb dX3_offsetAfter_45 (by decide) (fun c_45 => ?_) (fun c_45 => ?_)
    · replace hq := (if_pos c_45).symm.trans hq
      refine lv_iconst (v := 0) hx hb dX3_offsetAfter_66 (by decide) ?_
      refine lv_istore (lv' := [(4, .int 0), (0, .ref b), (1, .int pr), (2, .int wt), (3, .int v3)]) hx hb dX3_offsetAfter_67 hl (by decide) rfl (fun ls hl => ?_)
      exact b_X3_offsetAfter_69 cx b tx h ht pa sl fi o g w0 bf f pr wt  tgt (((wt).toInt - (0 : Int32).toInt).toNat + 1) v3 0 (by decide) (Nat.lt_succ_self _) hq H locs hP hD hS _ (lv_sub hl [1, 3, 4, 0] rfl)
    · replace hq := (if_neg c_45).symm.trans hq
      refine lv_iload_n hx hb dX3_offsetAfter_48 rfl (lv_at hl 3 rfl) ?_
      refine lv_aload_n hx hb dX3_offsetAfter_49 rfl (lv_at hl 0 rfl) ?_
      refine k_get (v := .ref h) (T := TX3) (C := RX3) (N := 8) cx hi_X3_offsetAfter_3 hP 0 rfl rfl 1 (by decide) (by decide +kernel) rfl dX3_offsetAfter_50 ?_
      refine k_getN (v := .int (f 3)) (T := TX1) (C := RX1) (N := 16) (host := RX3) cx hi_X3_offsetAfter_1 hP 1 rfl rfl 3 (by decide) nn_X3_222 rfl dX3_offsetAfter_53 ?_
      have hC := c_X1_warmed l G v3 (f 3)
      refine k_i (ws' := [oBr b tx h ht pa sl fi bf, oSt h o g f]) (as := []) cx hP hD hS [] rfl (kr_SN (n := 2) (As := [.int v3, .int (f 3)]) cx hC gX3_offsetAfter_X1_warmed_n225 rfl rfl rfl nn_X3_225 (by decide +kernel) (by decide +kernel) (by decide +kernel) ⟨Nat.le_of_ble_eq_true rfl, Nat.le_of_ble_eq_true rfl⟩ hP hD [] rfl rfl rfl rfl hl (Nat.le_of_ble_eq_true rfl) dX3_offsetAfter_56 ⟨Nat.zero_le _, Nat.zero_le _⟩) ⟨rfl, rfl⟩ rfl (fun H locs hP hD hS => ?_)
      refine lv_istore_n (lv' := [(3, .int (P_X1_warmed v3 (f 3))), (0, .ref b), (1, .int pr), (2, .int wt), (4, .int v4)]) hx hb dX3_offsetAfter_59 rfl hl (by decide) rfl (fun ls hl => ?_)
      refine lv_iinc (v := (v4 + 1)) (lv' := [(4, .int (v4 + 1)), (3, .int (P_X1_warmed v3 (f 3))), (0, .ref b), (1, .int pr), (2, .int wt)]) hx hb dX3_offsetAfter_60 hl (k := 4) rfl rfl (by decide) rfl (fun ls hl => ?_)
      refine lv_goto (tgt := 42) hx hb dX3_offsetAfter_63 (by decide) ?_
      exact ih (P_X1_warmed v3 (f 3)) (v4 + 1) (nn_inc h0 (N := pr) (by assumption)) (by have hmd := mu_up (N := pr) (by assumption); omega) hq H locs hP hD hS _ (lv_sub hl [2, 3, 4, 1, 0] rfl)
def P_X3_offsetAfter (bf : Nat → Int32) (f : Nat → Int32) (pr : Int32) (wt : Int32) : Int32 × Int32 := (if (P_X3_outside pr 0 99) = 0 then (if (P_X3_outside wt 0 200) = 0 then (P_X3_offsetAfter_42 bf f pr wt (((pr).toInt - (0 : Int32).toInt).toNat + 1) (f 7) 0) else (1, 0)) else (1, 0))
set_option maxHeartbeats 4000000 in
set_option maxRecDepth 100000 in
theorem c_X3_offsetAfter (l : Launch) (hlt : l.stackTraces = false) (G : gG) (b : Nat) (tx : Nat) (h : Nat) (ht : Nat) (pa : Nat) (sl : Nat) (fi : Nat) (o : Nat) (g : Nat) (bf : Nat → Int32) (f : Nat → Int32) (pr : Int32) (wt : Int32)  : kX l G yX3_offsetAfter wsX3_offsetAfter rm_X3_offsetAfter [.ref b, .int pr, .int wt] [oBr b tx h ht pa sl fi bf, oSt h o g f] (qX G ((P_X3_offsetAfter bf f pr wt).1) ((P_X3_offsetAfter bf f pr wt).2) [oBr b tx h ht pa sl fi bf, oSt h o g f]) (xX G ((P_X3_offsetAfter bf f pr wt).1) [oBr b tx h ht pa sl fi bf, oSt h o g f]) := by
  refine k_bodyX (cc := cX3_offsetAfter) (nL := 5) (ret := (some .int)) hlt (by decide) rfl (Nat.le_of_ble_eq_true rfl) ?_
  intro p e s m args below meth c A cx ct hP hD hS ls hl
  obtain ⟨hx, hb, hml, hown, hts, hr, hlocks, hK, hA⟩ := id cx
  obtain ⟨H, hH⟩ : ∃ H, H = s.heap := ⟨_, rfl⟩
  obtain ⟨locs, hL⟩ : ∃ locs : List Loc, locs = [] := ⟨_, rfl⟩
  obtain ⟨tgt, hq⟩ : ∃ tgt, (P_X3_offsetAfter bf f pr wt) = tgt := ⟨_, rfl⟩
  obtain ⟨w0, hw0⟩ : ∃ w0 : va_W, w0 = [oBr b tx h ht pa sl fi bf, oSt h o g f] := ⟨_, rfl⟩
  have hS : va_S A s.heap H locs := by rw [hH, hL]; exact hS
  rw [← hH] at hP
  have hl : lv_has ls 5 [(0, .ref b), (1, .int pr), (2, .int wt)] := hl
  have key : ∀ (H : Heap) (locs : List Loc), va_P G.1 vwCl [oBr b tx h ht pa sl fi bf, oSt h o g f] H → va_D A [oBr b tx h ht pa sl fi bf, oSt h o g f] → va_S A s.heap H locs → W p l e rm_X3_offsetAfter s m args below meth c H locs 0 0 (Q_X3_offsetAfter G b tx h ht pa sl fi o g w0 bf f tgt below args s A) (F0 m 0 ls []) := by
    clear hP hD hS hH hL
    intro H locs hP hD hS
    unfold P_X3_offsetAfter at hq
    refine lv_iload_n hx hb dX3_offsetAfter_0 rfl (lv_at hl 1 rfl) ?_
    refine lv_iconst (v := 0) hx hb dX3_offsetAfter_1 (by decide) ?_
    refine lv_bipush (v := 99) hx hb dX3_offsetAfter_2 (by decide) ?_
    have hC := c_X3_outside l G pr 0 99
    refine k_i (ws' := [oBr b tx h ht pa sl fi bf, oSt h o g f]) (as := []) cx hP hD hS [] rfl (kr_S (n := 3) (As := [.int pr, .int 0, .int 99]) cx hC gX3_offsetAfter_X3_outside rfl rfl rfl (by decide +kernel) ⟨Nat.le_of_ble_eq_true rfl, Nat.le_of_ble_eq_true rfl⟩ hP hD [] rfl rfl rfl rfl hl (Nat.le_of_ble_eq_true rfl) dX3_offsetAfter_4 ⟨Nat.zero_le _, Nat.zero_le _⟩) ⟨rfl, rfl⟩ rfl (fun H locs hP hD hS => ?_)
    refine lv_if_ne (tgt := 21) hx hb dX3_offsetAfter_7 (by decide) (fun c_7 => ?_) (fun c_7 => ?_)
    · replace hq := (if_neg c_7).symm.trans hq
      subst hq
      exact k_thrS (cls := "java/lang/IllegalArgumentException") (tx := "presses or waits is out of range") (r := 0) (ws := [oBr b tx h ht pa sl fi bf, oSt h o g f]) (w0 := w0) cx ct (by decide +kernel) ⟨by decide +kernel, by decide +kernel⟩ (by decide +kernel) (fun w h => List.mem_cons_of_mem _ (List.mem_append_right _ h)) e1_45 e2_41_45 rfl (by rw [hw0]; exact hP) hS hl ⟨Nat.le_of_ble_eq_true rfl, Nat.le_of_ble_eq_true rfl, Nat.le_of_ble_eq_true rfl, Nat.le_of_ble_eq_true rfl⟩ dX3_offsetAfter_21 dX3_offsetAfter_24 dX3_offsetAfter_25 dX3_offsetAfter_27 dX3_offsetAfter_30
    · replace hq := (if_pos c_7).symm.trans hq
      refine lv_iload_n hx hb dX3_offsetAfter_10 rfl (lv_at hl 2 rfl) ?_
      refine lv_iconst (v := 0) hx hb dX3_offsetAfter_11 (by decide) ?_
      refine lv_sipush (v := 200) hx hb dX3_offsetAfter_12 (by decide) ?_
      have hC := c_X3_outside l G wt 0 200
      refine k_i (ws' := [oBr b tx h ht pa sl fi bf, oSt h o g f]) (as := []) cx hP hD hS [] rfl (kr_S (n := 3) (As := [.int wt, .int 0, .int 200]) cx hC gX3_offsetAfter_X3_outside rfl rfl rfl (by decide +kernel) ⟨Nat.le_of_ble_eq_true rfl, Nat.le_of_ble_eq_true rfl⟩ hP hD [] rfl rfl rfl rfl hl (Nat.le_of_ble_eq_true rfl) dX3_offsetAfter_15 ⟨Nat.zero_le _, Nat.zero_le _⟩) ⟨rfl, rfl⟩ rfl (fun H locs hP hD hS => ?_)
      refine lv_if_eq (tgt := 31) hx hb dX3_offsetAfter_18 (by decide) (fun c_18 => ?_) (fun c_18 => ?_)
      · replace hq := (if_pos c_18).symm.trans hq
        refine lv_aload_n hx hb dX3_offsetAfter_31 rfl (lv_at hl 0 rfl) ?_
        refine k_get (v := .ref h) (T := TX3) (C := RX3) (N := 8) cx hi_X3_offsetAfter_3 hP 0 rfl rfl 1 (by decide) (by decide +kernel) rfl dX3_offsetAfter_32 ?_
        refine k_getN (v := .int (f 7)) (T := TX1) (C := RX1) (N := 16) (host := RX3) cx hi_X3_offsetAfter_1 hP 1 rfl rfl 7 (by decide) nn_X3_219 rfl dX3_offsetAfter_35 ?_
        refine lv_istore_n (lv' := [(3, .int (f 7)), (0, .ref b), (1, .int pr), (2, .int wt)]) hx hb dX3_offsetAfter_38 rfl hl (by decide) rfl (fun ls hl => ?_)
        refine lv_iconst (v := 0) hx hb dX3_offsetAfter_39 (by decide) ?_
        refine lv_istore (lv' := [(4, .int 0), (3, .int (f 7)), (0, .ref b), (1, .int pr), (2, .int wt)]) hx hb dX3_offsetAfter_40 hl (by decide) rfl (fun ls hl => ?_)
        exact b_X3_offsetAfter_42 cx b tx h ht pa sl fi o g w0 bf f pr wt  tgt (((pr).toInt - (0 : Int32).toInt).toNat + 1) (f 7) 0 (by decide) (Nat.lt_succ_self _) hq H locs hP hD hS _ (lv_sub hl [2, 3, 4, 1, 0] rfl)
      · replace hq := (if_neg c_18).symm.trans hq
        subst hq
        exact k_thrS (cls := "java/lang/IllegalArgumentException") (tx := "presses or waits is out of range") (r := 0) (ws := [oBr b tx h ht pa sl fi bf, oSt h o g f]) (w0 := w0) cx ct (by decide +kernel) ⟨by decide +kernel, by decide +kernel⟩ (by decide +kernel) (fun w h => List.mem_cons_of_mem _ (List.mem_append_right _ h)) e1_45 e2_41_45 rfl (by rw [hw0]; exact hP) hS hl ⟨Nat.le_of_ble_eq_true rfl, Nat.le_of_ble_eq_true rfl, Nat.le_of_ble_eq_true rfl, Nat.le_of_ble_eq_true rfl⟩ dX3_offsetAfter_21 dX3_offsetAfter_24 dX3_offsetAfter_25 dX3_offsetAfter_27 dX3_offsetAfter_30
  subst hL
  subst hH
  subst hq
  subst hw0
  exact key _ _ hP hD hS

/-! X3_waitFor -/
theorem hi_X3_waitFor_1 : ∀ w ∈ u_ws RX1 TX1 16, w ∈ wsX3_waitFor := by decide +kernel
theorem hi_X3_waitFor_3 : ∀ w ∈ u_ws RX3 TX3 8, w ∈ wsX3_waitFor := by decide +kernel
abbrev rm_X3_waitFor : Room := { frames := 6, cells := 1, slots := 6, locals := 82 }
abbrev Q_X3_waitFor (G : gG) (b : Nat) (tx : Nat) (h : Nat) (ht : Nat) (pa : Nat) (sl : Nat) (fi : Nat) (o : Nat) (g : Nat) (w0 : va_W)  (bf : Nat → Int32) (f : Nat → Int32) (tgt : Int32 × Int32) (below : List Frame) (args : Array Value) (s : State) (A : Nat → Prop) : State → Prop := vx_MQ below (qX G tgt.1 tgt.2 [oBr b tx h ht pa sl fi bf, oSt h o g f] A) (xX G tgt.1 w0 A) args s 1 6 A
def P_X3_waitFor_32 (bf : Nat → Int32) (f : Nat → Int32) (off : Int32) : Nat → Int32 → Int32 → Int32 × Int32
  | 0, _, _ => (0, 0)
  | n + 1, v2, v3 => (if 200 < v3 then (0, (-9999)) else (if off < (P_X1_offsetAt f v2) then (P_X3_waitFor_32 bf f off n (P_X1_cooled v2) (v3 + 1)) else (0, v3)))
set_option maxHeartbeats 4000000 in
set_option maxRecDepth 100000 in
theorem b_X3_waitFor_32 {p : Program} {l : Launch} {e : Env} {s : State} {m : MethodId} {args : Array Value} {below : List Frame} {meth : Method} {c : Code} {G : gG} {A : Nat → Prop} (cx : Cx p s m args meth c cX3_waitFor 4 yX3_waitFor.cls wsX3_waitFor (some .int) G A) (b : Nat) (tx : Nat) (h : Nat) (ht : Nat) (pa : Nat) (sl : Nat) (fi : Nat) (o : Nat) (g : Nat) (w0 : va_W) (bf : Nat → Int32) (f : Nat → Int32) (off : Int32)   (tgt : Int32 × Int32) : ∀ (n : Nat) (v2 : Int32) (v3 : Int32)  (hm : ((200 : Int32).toInt + 1 - (v3 : Int32).toInt).toNat < n) (hq : P_X3_waitFor_32  bf f off n v2 v3 = tgt) (H : Heap) (locs : List Loc) (hP : va_P G.1 vwCl [oBr b tx h ht pa sl fi bf, oSt h o g f] H) (hD : va_D A [oBr b tx h ht pa sl fi bf, oSt h o g f]) (hS : va_S A s.heap H locs) (ls : Array Slot) (hl : lv_has ls 4 [(0, .ref b), (1, .int off), (2, .int v2), (3, .int v3)]), W p l e rm_X3_waitFor s m args below meth c H locs 0 0 (Q_X3_waitFor G b tx h ht pa sl fi o g w0 bf f tgt below args s A) (F0 m 32 ls []) := by
  obtain ⟨hx, hb, hml, hown, hts, hr, hlocks, hK, hA⟩ := id cx
  intro n
  induction n with
  | zero => intros; omega
  | succ n ih =>
    intro v2 v3  hm hq H locs hP hD hS ls hl
    unfold P_X3_waitFor_32 at hq
    refine lv_iload_n hx hb dX3_waitFor_32 rfl (lv_at hl 3 rfl) ?_
    refine lv_sipush (v := 200) hx hb dX3_waitFor_33 (by decide) ?_
    refine lv_icmp_gt (tgt := 64) hx hb dX3_waitFor_36 (by decide) (fun c_36 => ?_) (fun c_36 => ?_)
    · replace hq := (if_pos c_36).symm.trans hq
      refine lv_sipush (v := (-9999)) hx hb dX3_waitFor_64 (by decide) ?_
      subst hq
      exact k_iretX cx rfl hP hS dX3_waitFor_67
    · replace hq := (if_neg c_36).symm.trans hq
      refine lv_aload_n hx hb dX3_waitFor_39 rfl (lv_at hl 0 rfl) ?_
      refine k_get (v := .ref h) (T := TX3) (C := RX3) (N := 8) cx hi_X3_waitFor_3 hP 0 rfl rfl 1 (by decide) (by decide +kernel) rfl dX3_waitFor_40 ?_
      refine lv_iload_n hx hb dX3_waitFor_43 rfl (lv_at hl 2 rfl) ?_
      have hC := c_X1_offsetAt l G h o g f v2
      refine k_i (ws' := [oBr b tx h ht pa sl fi bf, oSt h o g f]) (as := [h]) cx hP hD hS [1] rfl (kr_VN (n := 1) (As := [.int v2]) (ci := 1) cx hC gX3_waitFor_X1_offsetAt_n231 rfl rfl rfl nn_X3_231 (by decide +kernel) (by decide +kernel) (by decide +kernel) (by decide +kernel) ⟨Nat.le_of_ble_eq_true rfl, Nat.le_of_ble_eq_true rfl⟩ rfl rfl rfl hP hD [1] rfl rfl rfl rfl hl (Nat.le_of_ble_eq_true rfl) dX3_waitFor_44 ⟨Nat.zero_le _, Nat.zero_le _⟩) ⟨rfl, rfl⟩ rfl (fun H locs hP hD hS => ?_)
      refine lv_iload_n hx hb dX3_waitFor_47 rfl (lv_at hl 1 rfl) ?_
      refine lv_icmp_gt (tgt := 53) hx hb dX3_waitFor_48 (by decide) (fun c_48 => ?_) (fun c_48 => ?_)
      · replace hq := (if_pos c_48).symm.trans hq
        refine lv_iload_n hx hb dX3_waitFor_53 rfl (lv_at hl 2 rfl) ?_
        have hC := c_X1_cooled l G v2
        refine k_i (ws' := [oBr b tx h ht pa sl fi bf, oSt h o g f]) (as := []) cx hP hD hS [] rfl (kr_SN (n := 1) (As := [.int v2]) cx hC gX3_waitFor_X1_cooled_n228 rfl rfl rfl nn_X3_228 (by decide +kernel) (by decide +kernel) (by decide +kernel) ⟨Nat.le_of_ble_eq_true rfl, Nat.le_of_ble_eq_true rfl⟩ hP hD [] rfl rfl rfl rfl hl (Nat.le_of_ble_eq_true rfl) dX3_waitFor_54 ⟨Nat.zero_le _, Nat.zero_le _⟩) ⟨rfl, rfl⟩ rfl (fun H locs hP hD hS => ?_)
        refine lv_istore_n (lv' := [(2, .int (P_X1_cooled v2)), (0, .ref b), (1, .int off), (3, .int v3)]) hx hb dX3_waitFor_57 rfl hl (by decide) rfl (fun ls hl => ?_)
        refine lv_iinc (v := (v3 + 1)) (lv' := [(3, .int (v3 + 1)), (2, .int (P_X1_cooled v2)), (0, .ref b), (1, .int off)]) hx hb dX3_waitFor_58 hl (k := 3) rfl rfl (by decide) rfl (fun ls hl => ?_)
        refine lv_goto (tgt := 32) hx hb dX3_waitFor_61 (by decide) ?_
        exact ih (P_X1_cooled v2) (v3 + 1)  (by have hmd := mu_leN (N := 200) (by decide) (by assumption); omega) hq H locs hP hD hS _ (lv_sub hl [2, 3, 1, 0] rfl)
      · replace hq := (if_neg c_48).symm.trans hq
        refine lv_iload_n hx hb dX3_waitFor_51 rfl (lv_at hl 3 rfl) ?_
        subst hq
        exact k_iretX cx rfl hP hS dX3_waitFor_52
def P_X3_waitFor (bf : Nat → Int32) (f : Nat → Int32) (off : Int32) : Int32 × Int32 := (if (P_X3_outside off (-50) 300) = 0 then (P_X3_waitFor_32 bf f off (((200 : Int32).toInt + 1 - (0 : Int32).toInt).toNat + 1) (f 7) 0) else (1, 0))
set_option maxHeartbeats 4000000 in
set_option maxRecDepth 100000 in
theorem c_X3_waitFor (l : Launch) (hlt : l.stackTraces = false) (G : gG) (b : Nat) (tx : Nat) (h : Nat) (ht : Nat) (pa : Nat) (sl : Nat) (fi : Nat) (o : Nat) (g : Nat) (bf : Nat → Int32) (f : Nat → Int32) (off : Int32)  : kX l G yX3_waitFor wsX3_waitFor rm_X3_waitFor [.ref b, .int off] [oBr b tx h ht pa sl fi bf, oSt h o g f] (qX G ((P_X3_waitFor bf f off).1) ((P_X3_waitFor bf f off).2) [oBr b tx h ht pa sl fi bf, oSt h o g f]) (xX G ((P_X3_waitFor bf f off).1) [oBr b tx h ht pa sl fi bf, oSt h o g f]) := by
  refine k_bodyX (cc := cX3_waitFor) (nL := 4) (ret := (some .int)) hlt (by decide) rfl (Nat.le_of_ble_eq_true rfl) ?_
  intro p e s m args below meth c A cx ct hP hD hS ls hl
  obtain ⟨hx, hb, hml, hown, hts, hr, hlocks, hK, hA⟩ := id cx
  obtain ⟨H, hH⟩ : ∃ H, H = s.heap := ⟨_, rfl⟩
  obtain ⟨locs, hL⟩ : ∃ locs : List Loc, locs = [] := ⟨_, rfl⟩
  obtain ⟨tgt, hq⟩ : ∃ tgt, (P_X3_waitFor bf f off) = tgt := ⟨_, rfl⟩
  obtain ⟨w0, hw0⟩ : ∃ w0 : va_W, w0 = [oBr b tx h ht pa sl fi bf, oSt h o g f] := ⟨_, rfl⟩
  have hS : va_S A s.heap H locs := by rw [hH, hL]; exact hS
  rw [← hH] at hP
  have hl : lv_has ls 4 [(0, .ref b), (1, .int off)] := hl
  have key : ∀ (H : Heap) (locs : List Loc), va_P G.1 vwCl [oBr b tx h ht pa sl fi bf, oSt h o g f] H → va_D A [oBr b tx h ht pa sl fi bf, oSt h o g f] → va_S A s.heap H locs → W p l e rm_X3_waitFor s m args below meth c H locs 0 0 (Q_X3_waitFor G b tx h ht pa sl fi o g w0 bf f tgt below args s A) (F0 m 0 ls []) := by
    clear hP hD hS hH hL
    intro H locs hP hD hS
    unfold P_X3_waitFor at hq
    refine lv_iload_n hx hb dX3_waitFor_0 rfl (lv_at hl 1 rfl) ?_
    refine lv_bipush (v := (-50)) hx hb dX3_waitFor_1 (by decide) ?_
    refine lv_sipush (v := 300) hx hb dX3_waitFor_3 (by decide) ?_
    have hC := c_X3_outside l G off (-50) 300
    refine k_i (ws' := [oBr b tx h ht pa sl fi bf, oSt h o g f]) (as := []) cx hP hD hS [] rfl (kr_S (n := 3) (As := [.int off, .int (-50), .int 300]) cx hC gX3_waitFor_X3_outside rfl rfl rfl (by decide +kernel) ⟨Nat.le_of_ble_eq_true rfl, Nat.le_of_ble_eq_true rfl⟩ hP hD [] rfl rfl rfl rfl hl (Nat.le_of_ble_eq_true rfl) dX3_waitFor_6 ⟨Nat.zero_le _, Nat.zero_le _⟩) ⟨rfl, rfl⟩ rfl (fun H locs hP hD hS => ?_)
    refine lv_if_eq (tgt := 22) hx hb dX3_waitFor_9 (by decide) (fun c_9 => ?_) (fun c_9 => ?_)
    · replace hq := (if_pos c_9).symm.trans hq
      refine lv_aload_n hx hb dX3_waitFor_22 rfl (lv_at hl 0 rfl) ?_
      refine k_get (v := .ref h) (T := TX3) (C := RX3) (N := 8) cx hi_X3_waitFor_3 hP 0 rfl rfl 1 (by decide) (by decide +kernel) rfl dX3_waitFor_23 ?_
      refine k_getN (v := .int (f 7)) (T := TX1) (C := RX1) (N := 16) (host := RX3) cx hi_X3_waitFor_1 hP 1 rfl rfl 7 (by decide) nn_X3_219 rfl dX3_waitFor_26 ?_
      refine lv_istore_n (lv' := [(2, .int (f 7)), (0, .ref b), (1, .int off)]) hx hb dX3_waitFor_29 rfl hl (by decide) rfl (fun ls hl => ?_)
      refine lv_iconst (v := 0) hx hb dX3_waitFor_30 (by decide) ?_
      refine lv_istore_n (lv' := [(3, .int 0), (2, .int (f 7)), (0, .ref b), (1, .int off)]) hx hb dX3_waitFor_31 rfl hl (by decide) rfl (fun ls hl => ?_)
      exact b_X3_waitFor_32 cx b tx h ht pa sl fi o g w0 bf f off  tgt (((200 : Int32).toInt + 1 - (0 : Int32).toInt).toNat + 1) (f 7) 0  (Nat.lt_succ_self _) hq H locs hP hD hS _ (lv_sub hl [2, 3, 1, 0] rfl)
    · replace hq := (if_neg c_9).symm.trans hq
      subst hq
      exact k_thrS (cls := "java/lang/IllegalArgumentException") (tx := "offset is not -50 to 300") (r := 0) (ws := [oBr b tx h ht pa sl fi bf, oSt h o g f]) (w0 := w0) cx ct (by decide +kernel) ⟨by decide +kernel, by decide +kernel⟩ (by decide +kernel) (fun w h => List.mem_cons_of_mem _ (List.mem_append_right _ h)) e1_45 e2_41_45 rfl (by rw [hw0]; exact hP) hS hl ⟨Nat.le_of_ble_eq_true rfl, Nat.le_of_ble_eq_true rfl, Nat.le_of_ble_eq_true rfl, Nat.le_of_ble_eq_true rfl⟩ dX3_waitFor_12 dX3_waitFor_15 dX3_waitFor_16 dX3_waitFor_18 dX3_waitFor_21
  subst hL
  subst hH
  subst hq
  subst hw0
  exact key _ _ hP hD hS
