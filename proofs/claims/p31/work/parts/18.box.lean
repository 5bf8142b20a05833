/-! X1_balanceBox -/
theorem hi_X1_balanceBox_1 : ∀ w ∈ u_ws RX1 TX1 16, w ∈ wsX1_balanceBox := by decide +kernel
abbrev rm_X1_balanceBox : Room := { frames := 4, cells := 0, slots := 0, locals := 89 }
abbrev Q_X1_balanceBox (G : gG) (h : Nat) (o : Nat) (g : Nat) (k : Nat)  (oh : Nat → Int32) (tgt : (Nat → Int32) × (Nat → Int32) × (Nat → Int32)) (below : List Frame) (args : Array Value) (s : State) (A : Nat → Prop) : State → Prop := MQ below (qV G [oSt h o g tgt.1, aI G o 6 oh, oLed g k tgt.2.1, aI G k 80 tgt.2.2] A) args s 0 0 A
def P_X1_balanceBox_25 (K7 : Int32 → (Nat → Int32) → (Nat → Int32) → (Nat → Int32) → ((Nat → Int32) × (Nat → Int32) × (Nat → Int32))) (oh : Nat → Int32) (v1 : Int32) : Nat → Int32 → Int32 → (Nat → Int32) → (Nat → Int32) → (Nat → Int32) → (Nat → Int32) × (Nat → Int32) × (Nat → Int32)
  | 0, _, _, _, _, _ => ((fun _ => 0), (fun _ => 0), (fun _ => 0))
  | n + 1, v2, v3, f, lf, ce => (let j94 := fun (j94_w0 : Nat → Int32) (j94_w2 : Nat → Int32) (j94_w3 : Nat → Int32) => (K7 (v1 + (-1)) j94_w0 j94_w2 j94_w3); (if 9999 ≤ v3 then (j94 f lf ce) else (if 9999 < ((f 2) + v2) then (j94 f lf ce) else (let u55 := P_X1_pressBothWays (upd f 2 ((f 2) + v2)) oh lf ce; (if (u55.2.1 9) = 0 then (if 0 ≤ u55.1 then (P_X1_balanceBox_25 K7 oh v1 n v2 (v3 + 1) u55.2.1 u55.2.2.1 u55.2.2.2) else (j94 (upd u55.2.1 2 ((u55.2.1 2) - v2)) u55.2.2.1 u55.2.2.2)) else (j94 u55.2.1 u55.2.2.1 u55.2.2.2))))))
set_option maxHeartbeats 4000000 in
set_option maxRecDepth 100000 in
theorem b_X1_balanceBox_25 {p : Program} {l : Launch} {e : Env} {s : State} {m : MethodId} {args : Array Value} {below : List Frame} {meth : Method} {c : Code} {G : gG} {A : Nat → Prop} (cx : Cx p s m args meth c cX1_balanceBox 5 yX1_balanceBox.cls wsX1_balanceBox none G A) (h : Nat) (o : Nat) (g : Nat) (k : Nat) (K7 : Int32 → (Nat → Int32) → (Nat → Int32) → (Nat → Int32) → ((Nat → Int32) × (Nat → Int32) × (Nat → Int32))) (oh : Nat → Int32) (v1 : Int32)   (tgt : (Nat → Int32) × (Nat → Int32) × (Nat → Int32)) (hK7 : ∀ (f : Nat → Int32) (lf : Nat → Int32) (ce : Nat → Int32), K7 (v1 + (-1)) f lf ce = tgt → ∀ (H : Heap) (locs : List Loc), va_P G.1 vwCl [oSt h o g f, aI G o 6 oh, oLed g k lf, aI G k 80 ce] H → va_D A [oSt h o g f, aI G o 6 oh, oLed g k lf, aI G k 80 ce] → va_S A s.heap H locs → ∀ (ls : Array Slot), lv_has ls 5 [(0, .ref h), (1, .int (v1 + (-1)))] → W p l e rm_X1_balanceBox s m args below meth c H locs 0 0 (Q_X1_balanceBox G h o g k oh tgt below args s A) (F0 m 7 ls [])) : ∀ (n : Nat) (v2 : Int32) (v3 : Int32) (f : Nat → Int32) (lf : Nat → Int32) (ce : Nat → Int32) (h0 : ¬ v3 < 0) (hm : (((9999 : Int32)).toInt - (v3 : Int32).toInt).toNat < n) (hq : P_X1_balanceBox_25 K7 oh v1 n v2 v3 f lf ce = tgt) (H : Heap) (locs : List Loc) (hP : va_P G.1 vwCl [oSt h o g f, aI G o 6 oh, oLed g k lf, aI G k 80 ce] H) (hD : va_D A [oSt h o g f, aI G o 6 oh, oLed g k lf, aI G k 80 ce]) (hS : va_S A s.heap H locs) (ls : Array Slot) (hl : lv_has ls 5 [(0, .ref h), (1, .int v1), (2, .int v2), (3, .int v3)]), W p l e rm_X1_balanceBox s m args below meth c H locs 0 0 (Q_X1_balanceBox G h o g k oh tgt below args s A) (F0 m 25 ls []) := by
  obtain ⟨hx, hb, hml, hown, hts, hr, hlocks, hK, hA⟩ := id cx
  intro n
  induction n with
  | zero => intros; omega
  | succ n ih =>
    intro v2 v3 f lf ce h0 hm hq H locs hP hD hS ls hl
    unfold P_X1_balanceBox_25 at hq
    refine lv_iload_n hx hb dX1_balanceBox_25 rfl (lv_at hl 3 rfl) ?_
    refine lv_sipush (v := 9999) hx hb dX1_balanceBox_26 (by decide) ?_
    have J94 : ∀ (j94_w0 : Nat → Int32) (j94_w2 : Nat → Int32) (j94_w3 : Nat → Int32), (K7 (v1 + (-1)) j94_w0 j94_w2 j94_w3) = tgt → ∀ (H : Heap) (locs : List Loc) (ls : Array Slot), va_P G.1 vwCl [oSt h o g j94_w0, aI G o 6 oh, oLed g k j94_w2, aI G k 80 j94_w3] H → va_D A [oSt h o g j94_w0, aI G o 6 oh, oLed g k j94_w2, aI G k 80 j94_w3] → va_S A s.heap H locs → lv_has ls 5 [(0, .ref h), (1, .int v1)] → W p l e rm_X1_balanceBox s m args below meth c H locs 0 0 (Q_X1_balanceBox G h o g k oh tgt below args s A) (F0 m 94 ls []) := by
      intro j94_w0 j94_w2 j94_w3 hq H locs ls hP hD hS hl
      refine lv_iinc (v := (v1 + (-1))) (lv' := [(1, .int (v1 + (-1))), (0, .ref h)]) hx hb dX1_balanceBox_94 hl (k := 1) rfl rfl (by decide) rfl (fun ls hl => ?_)
      refine lv_goto (tgt := 7) hx hb dX1_balanceBox_97 (by decide) ?_
      exact hK7 j94_w0 j94_w2 j94_w3  hq H locs hP hD hS _ (lv_sub hl [1, 0] rfl)
    refine lv_icmp_ge (tgt := 94) hx hb dX1_balanceBox_29 (by decide) (fun c_29 => ?_) (fun c_29 => ?_)
    · replace hq := (if_pos c_29).symm.trans hq
      exact J94 f lf ce hq H locs ls hP hD hS (lv_sub hl [0, 1] rfl)
    · replace hq := (if_neg c_29).symm.trans hq
      refine lv_aload_n hx hb dX1_balanceBox_32 rfl (lv_at hl 0 rfl) ?_
      refine k_get (v := .int (f 2)) (T := TX1) (C := RX1) (N := 16) cx hi_X1_balanceBox_1 hP 0 rfl rfl 2 (by decide) (by decide +kernel) rfl dX1_balanceBox_33 ?_
      refine lv_iload_n hx hb dX1_balanceBox_36 rfl (lv_at hl 2 rfl) ?_
      refine lv_iadd hx hb dX1_balanceBox_37 ?_
      refine lv_sipush (v := 9999) hx hb dX1_balanceBox_38 (by decide) ?_
      refine lv_icmp_gt (tgt := 94) hx hb dX1_balanceBox_41 (by decide) (fun c_41 => ?_) (fun c_41 => ?_)
      · replace hq := (if_pos c_41).symm.trans hq
        exact J94 f lf ce hq H locs ls hP hD hS (lv_sub hl [0, 1] rfl)
      · replace hq := (if_neg c_41).symm.trans hq
        refine lv_aload_n hx hb dX1_balanceBox_44 rfl (lv_at hl 0 rfl) ?_
        refine lv_dup hx hb dX1_balanceBox_45 rfl ?_
        refine k_get (v := .int (f 2)) (T := TX1) (C := RX1) (N := 16) cx hi_X1_balanceBox_1 hP 0 rfl rfl 2 (by decide) (by decide +kernel) rfl dX1_balanceBox_46 ?_
        refine lv_iload_n hx hb dX1_balanceBox_49 rfl (lv_at hl 2 rfl) ?_
        refine lv_iadd hx hb dX1_balanceBox_50 ?_
        refine k_put (ws' := [oSt h o g (upd f 2 ((f 2) + v2)), aI G o 6 oh, oLed g k lf, aI G k 80 ce]) (ty := .int) (T := TX1) (C := RX1) (N := 16) cx hi_X1_balanceBox_1 tyX1_ok nmX1 hP hD hS 0 rfl rfl 2 (by decide) (by decide +kernel) rfl rfl rfl rfl (Nat.le_of_ble_eq_true rfl) rfl dX1_balanceBox_51 (fun H locs hP hD hS => ?_)
        refine lv_aload_n hx hb dX1_balanceBox_54 rfl (lv_at hl 0 rfl) ?_
        have hC := c_X1_pressBothWays l G h o g k (upd f 2 ((f 2) + v2)) oh lf ce
        generalize hu55 : P_X1_pressBothWays (upd f 2 ((f 2) + v2)) oh lf ce = u55 at hC hq
        refine k_i (ws' := [oSt h o g u55.2.1, aI G o 6 oh, oLed g k u55.2.2.1, aI G k 80 u55.2.2.2]) (as := [h, o, g, k]) cx hP hD hS [0, 1, 2, 3] rfl (kr_V (n := 0) (As := []) (ci := 1) cx hC gX1_balanceBox_X1_pressBothWays rfl rfl rfl (by decide +kernel) ⟨Nat.le_of_ble_eq_true rfl, Nat.le_of_ble_eq_true rfl⟩ rfl rfl rfl hP hD [0, 1, 2, 3] rfl rfl rfl rfl hl (Nat.le_of_ble_eq_true rfl) dX1_balanceBox_55 ⟨Nat.le_refl _, Nat.le_refl _⟩) ⟨rfl, rfl⟩ rfl (fun H locs hP hD hS => ?_)
        refine lv_istore (lv' := [(4, .int u55.1), (0, .ref h), (1, .int v1), (2, .int v2), (3, .int v3)]) hx hb dX1_balanceBox_58 hl (by decide) rfl (fun ls hl => ?_)
        refine lv_aload_n hx hb dX1_balanceBox_60 rfl (lv_at hl 1 rfl) ?_
        refine k_get (v := .int (u55.2.1 9)) (T := TX1) (C := RX1) (N := 16) cx hi_X1_balanceBox_1 hP 0 rfl rfl 9 (by decide) (by decide +kernel) rfl dX1_balanceBox_61 ?_
        refine lv_if_eq (tgt := 70) hx hb dX1_balanceBox_64 (by decide) (fun c_64 => ?_) (fun c_64 => ?_)
        · replace hq := (if_pos c_64).symm.trans hq
          refine lv_iload hx hb dX1_balanceBox_70 (lv_at hl 0 rfl) ?_
          refine lv_if_ge (tgt := 88) hx hb dX1_balanceBox_72 (by decide) (fun c_72 => ?_) (fun c_72 => ?_)
          · replace hq := (if_pos c_72).symm.trans hq
            refine lv_iinc (v := (v3 + 1)) (lv' := [(3, .int (v3 + 1)), (4, .int u55.1), (0, .ref h), (1, .int v1), (2, .int v2)]) hx hb dX1_balanceBox_88 hl (k := 4) rfl rfl (by decide) rfl (fun ls hl => ?_)
            refine lv_goto (tgt := 25) hx hb dX1_balanceBox_91 (by decide) ?_
            exact ih v2 (v3 + 1) u55.2.1 u55.2.2.1 u55.2.2.2 (nn_inc h0 (N := (9999 : Int32)) (by assumption)) (by have hmd := mu_up (N := (9999 : Int32)) (by assumption); omega) hq H locs hP hD hS _ (lv_sub hl [2, 3, 4, 0] rfl)
          · replace hq := (if_neg c_72).symm.trans hq
            refine lv_aload_n hx hb dX1_balanceBox_75 rfl (lv_at hl 1 rfl) ?_
            refine lv_dup hx hb dX1_balanceBox_76 rfl ?_
            refine k_get (v := .int (u55.2.1 2)) (T := TX1) (C := RX1) (N := 16) cx hi_X1_balanceBox_1 hP 0 rfl rfl 2 (by decide) (by decide +kernel) rfl dX1_balanceBox_77 ?_
            refine lv_iload_n hx hb dX1_balanceBox_80 rfl (lv_at hl 3 rfl) ?_
            refine lv_isub hx hb dX1_balanceBox_81 ?_
            refine k_put (ws' := [oSt h o g (upd u55.2.1 2 ((u55.2.1 2) - v2)), aI G o 6 oh, oLed g k u55.2.2.1, aI G k 80 u55.2.2.2]) (ty := .int) (T := TX1) (C := RX1) (N := 16) cx hi_X1_balanceBox_1 tyX1_ok nmX1 hP hD hS 0 rfl rfl 2 (by decide) (by decide +kernel) rfl rfl rfl rfl (Nat.le_of_ble_eq_true rfl) rfl dX1_balanceBox_82 (fun H locs hP hD hS => ?_)
            refine lv_goto (tgt := 94) hx hb dX1_balanceBox_85 (by decide) ?_
            exact J94 (upd u55.2.1 2 ((u55.2.1 2) - v2)) u55.2.2.1 u55.2.2.2 hq H locs ls hP hD hS (lv_sub hl [1, 2] rfl)
        · replace hq := (if_neg c_64).symm.trans hq
          refine lv_goto (tgt := 94) hx hb dX1_balanceBox_67 (by decide) ?_
          exact J94 u55.2.1 u55.2.2.1 u55.2.2.2 hq H locs ls hP hD hS (lv_sub hl [1, 2] rfl)
def P_X1_balanceBox_7 (oh : Nat → Int32) : Nat → Int32 → (Nat → Int32) → (Nat → Int32) → (Nat → Int32) → (Nat → Int32) × (Nat → Int32) × (Nat → Int32)
  | 0, _, _, _, _ => ((fun _ => 0), (fun _ => 0), (fun _ => 0))
  | n + 1, v1, f, lf, ce => (if v1 < 0 then (f, lf, ce) else (if (f 9) = 0 then (P_X1_balanceBox_25 (fun v1' f' lf' ce' => P_X1_balanceBox_7 oh n v1' f' lf' ce') oh v1 ((((9999 : Int32)).toInt - (0 : Int32).toInt).toNat + 1) (P_X3_power v1) 0 f lf ce) else (f, lf, ce)))
set_option maxHeartbeats 4000000 in
set_option maxRecDepth 100000 in
theorem b_X1_balanceBox_7 {p : Program} {l : Launch} {e : Env} {s : State} {m : MethodId} {args : Array Value} {below : List Frame} {meth : Method} {c : Code} {G : gG} {A : Nat → Prop} (cx : Cx p s m args meth c cX1_balanceBox 5 yX1_balanceBox.cls wsX1_balanceBox none G A) (h : Nat) (o : Nat) (g : Nat) (k : Nat) (oh : Nat → Int32)   (tgt : (Nat → Int32) × (Nat → Int32) × (Nat → Int32)) : ∀ (n : Nat) (v1 : Int32) (f : Nat → Int32) (lf : Nat → Int32) (ce : Nat → Int32)  (hm : ((v1 : Int32).toInt + 1).toNat < n) (hq : P_X1_balanceBox_7  oh n v1 f lf ce = tgt) (H : Heap) (locs : List Loc) (hP : va_P G.1 vwCl [oSt h o g f, aI G o 6 oh, oLed g k lf, aI G k 80 ce] H) (hD : va_D A [oSt h o g f, aI G o 6 oh, oLed g k lf, aI G k 80 ce]) (hS : va_S A s.heap H locs) (ls : Array Slot) (hl : lv_has ls 5 [(0, .ref h), (1, .int v1)]), W p l e rm_X1_balanceBox s m args below meth c H locs 0 0 (Q_X1_balanceBox G h o g k oh tgt below args s A) (F0 m 7 ls []) := by
  obtain ⟨hx, hb, hml, hown, hts, hr, hlocks, hK, hA⟩ := id cx
  intro n
  induction n with
  | zero => intros; omega
  | succ n ih =>
    intro v1 f lf ce  hm hq H locs hP hD hS ls hl
    unfold P_X1_balanceBox_7 at hq
    refine lv_iload_n hx hb dX1_balanceBox_7 rfl (lv_at hl 1 rfl) ?_
    refine lv_if_lt (tgt := 100) hx hb dX1_balanceBox_8 (by decide) (fun c_8 => ?_) (fun c_8 => ?_)
    · replace hq := (if_pos c_8).symm.trans hq
      subst hq
      exact k_vret cx hP hS dX1_balanceBox_100
    · replace hq := (if_neg c_8).symm.trans hq
      refine lv_aload_n hx hb dX1_balanceBox_11 rfl (lv_at hl 0 rfl) ?_
      refine k_get (v := .int (f 9)) (T := TX1) (C := RX1) (N := 16) cx hi_X1_balanceBox_1 hP 0 rfl rfl 9 (by decide) (by decide +kernel) rfl dX1_balanceBox_12 ?_
      refine lv_if_ne (tgt := 100) hx hb dX1_balanceBox_15 (by decide) (fun c_15 => ?_) (fun c_15 => ?_)
      · replace hq := (if_neg c_15).symm.trans hq
        subst hq
        exact k_vret cx hP hS dX1_balanceBox_100
      · replace hq := (if_pos c_15).symm.trans hq
        refine lv_iload_n hx hb dX1_balanceBox_18 rfl (lv_at hl 1 rfl) ?_
        have hC := c_X3_power l G v1
        refine k_i (ws' := [oSt h o g f, aI G o 6 oh, oLed g k lf, aI G k 80 ce]) (as := []) cx hP hD hS [] rfl (kr_SN (n := 1) (As := [.int v1]) cx hC gX1_balanceBox_X3_power_n100 rfl rfl rfl nn_X1_100 (by decide +kernel) (by decide +kernel) (by decide +kernel) ⟨Nat.le_of_ble_eq_true rfl, Nat.le_of_ble_eq_true rfl⟩ hP hD [] rfl rfl rfl rfl hl (Nat.le_of_ble_eq_true rfl) dX1_balanceBox_19 ⟨Nat.le_refl _, Nat.le_refl _⟩) ⟨rfl, rfl⟩ rfl (fun H locs hP hD hS => ?_)
        refine lv_istore_n (lv' := [(2, .int (P_X3_power v1)), (0, .ref h), (1, .int v1)]) hx hb dX1_balanceBox_22 rfl hl (by decide) rfl (fun ls hl => ?_)
        refine lv_iconst (v := 0) hx hb dX1_balanceBox_23 (by decide) ?_
        refine lv_istore_n (lv' := [(3, .int 0), (2, .int (P_X3_power v1)), (0, .ref h), (1, .int v1)]) hx hb dX1_balanceBox_24 rfl hl (by decide) rfl (fun ls hl => ?_)
        exact b_X1_balanceBox_25 cx h o g k (fun v1' f' lf' ce' => P_X1_balanceBox_7 oh n v1' f' lf' ce') oh v1  tgt (fun f' lf' ce'  hq H locs hP hD hS ls hl => ih (v1 + (-1)) f' lf' ce'  (by have hmd := mu_dn (by assumption); omega) hq H locs hP hD hS ls hl) ((((9999 : Int32)).toInt - (0 : Int32).toInt).toNat + 1) (P_X3_power v1) 0 f lf ce (by decide) (Nat.lt_succ_self _) hq H locs hP hD hS _ (lv_sub hl [2, 3, 1, 0] rfl)
def P_X1_balanceBox (f : Nat → Int32) (oh : Nat → Int32) (lf : Nat → Int32) (ce : Nat → Int32) : (Nat → Int32) × (Nat → Int32) × (Nat → Int32) := (P_X1_balanceBox_7 oh (((3 : Int32).toInt + 1).toNat + 1) 3 (upd f 2 0) lf ce)
set_option maxHeartbeats 4000000 in
set_option maxRecDepth 100000 in
theorem c_X1_balanceBox (l : Launch) (G : gG) (h : Nat) (o : Nat) (g : Nat) (k : Nat) (f : Nat → Int32) (oh : Nat → Int32) (lf : Nat → Int32) (ce : Nat → Int32)  : kM l G yX1_balanceBox wsX1_balanceBox rm_X1_balanceBox [.ref h] [oSt h o g f, aI G o 6 oh, oLed g k lf, aI G k 80 ce] (qV G [oSt h o g ((P_X1_balanceBox f oh lf ce).1), aI G o 6 oh, oLed g k ((P_X1_balanceBox f oh lf ce).2.1), aI G k 80 ((P_X1_balanceBox f oh lf ce).2.2)]) := by
  refine k_body (cc := cX1_balanceBox) (nL := 5) (ret := none) (by decide) rfl (Nat.le_of_ble_eq_true rfl) ?_
  intro p e s m args below meth c A cx hP hD hS ls hl
  obtain ⟨hx, hb, hml, hown, hts, hr, hlocks, hK, hA⟩ := id cx
  obtain ⟨H, hH⟩ : ∃ H, H = s.heap := ⟨_, rfl⟩
  obtain ⟨locs, hL⟩ : ∃ locs : List Loc, locs = [] := ⟨_, rfl⟩
  obtain ⟨tgt, hq⟩ : ∃ tgt, (P_X1_balanceBox f oh lf ce) = tgt := ⟨_, rfl⟩
  have hS : va_S A s.heap H locs := by rw [hH, hL]; exact hS
  rw [← hH] at hP
  have hl : lv_has ls 5 [(0, .ref h)] := hl
  have key : ∀ (H : Heap) (locs : List Loc), va_P G.1 vwCl [oSt h o g f, aI G o 6 oh, oLed g k lf, aI G k 80 ce] H → va_D A [oSt h o g f, aI G o 6 oh, oLed g k lf, aI G k 80 ce] → va_S A s.heap H locs → W p l e rm_X1_balanceBox s m args below meth c H locs 0 0 (Q_X1_balanceBox G h o g k oh tgt below args s A) (F0 m 0 ls []) := by
    clear hP hD hS hH hL
    intro H locs hP hD hS
    unfold P_X1_balanceBox at hq
    refine lv_aload_n hx hb dX1_balanceBox_0 rfl (lv_at hl 0 rfl) ?_
    refine lv_iconst (v := 0) hx hb dX1_balanceBox_1 (by decide) ?_
    refine k_put (ws' := [oSt h o g (upd f 2 0), aI G o 6 oh, oLed g k lf, aI G k 80 ce]) (ty := .int) (T := TX1) (C := RX1) (N := 16) cx hi_X1_balanceBox_1 tyX1_ok nmX1 hP hD hS 0 rfl rfl 2 (by decide) (by decide +kernel) rfl rfl rfl rfl (Nat.le_of_ble_eq_true rfl) rfl dX1_balanceBox_2 (fun H locs hP hD hS => ?_)
    refine lv_iconst (v := 3) hx hb dX1_balanceBox_5 (by decide) ?_
    refine lv_istore_n (lv' := [(1, .int 3), (0, .ref h)]) hx hb dX1_balanceBox_6 rfl hl (by decide) rfl (fun ls hl => ?_)
    exact b_X1_balanceBox_7 cx h o g k oh  tgt (((3 : Int32).toInt + 1).toNat + 1) 3 (upd f 2 0) lf ce  (Nat.lt_succ_self _) hq H locs hP hD hS _ (lv_sub hl [1, 0] rfl)
  subst hL
  subst hH
  subst hq
  exact key _ _ hP hD hS

/-! X3_withoutLast -/
abbrev rm_X3_withoutLast : Room := { frames := 0, cells := 0, slots := 0, locals := 0 }
abbrev Q_X3_withoutLast (G : gG)    (tgt : Int64) (below : List Frame) (args : Array Value) (s : State) (A : Nat → Prop) : State → Prop := MQ below (qL G tgt [] A) args s 0 0 A
def P_X3_withoutLast_5 (sc : Int64) (gr : Int32) : Nat → Int64 → Int32 → Int64
  | 0, _, _ => 0
  | n + 1, v3, v5 => (if gr ≤ v5 then v3 else (P_X3_withoutLast_5 sc gr n (v3 / 100000) (v5 + 1)))
set_option maxHeartbeats 4000000 in
set_option maxRecDepth 100000 in
theorem b_X3_withoutLast_5 {p : Program} {l : Launch} {e : Env} {s : State} {m : MethodId} {args : Array Value} {below : List Frame} {meth : Method} {c : Code} {G : gG} {A : Nat → Prop} (cx : Cx p s m args meth c cX3_withoutLast 6 yX3_withoutLast.cls wsX3_withoutLast (some .long) G A)  (sc : Int64) (gr : Int32)   (tgt : Int64) : ∀ (n : Nat) (v3 : Int64) (v5 : Int32) (h0 : ¬ v5 < 0) (hm : ((gr).toInt - (v5 : Int32).toInt).toNat < n) (hq : P_X3_withoutLast_5  sc gr n v3 v5 = tgt) (H : Heap) (locs : List Loc) (hP : va_P G.1 vwCl [] H) (hD : va_D A []) (hS : va_S A s.heap H locs) (ls : Array Slot) (hl : lv_has ls 6 [(2, .int gr), (3, .long v3), (5, .int v5)]), W p l e rm_X3_withoutLast s m args below meth c H locs 0 0 (Q_X3_withoutLast G  tgt below args s A) (F0 m 5 ls []) := by
  obtain ⟨hx, hb, hml, hown, hts, hr, hlocks, hK, hA⟩ := id cx
  intro n
  induction n with
  | zero => intros; omega
  | succ n ih =>
    intro v3 v5 h0 hm hq H locs hP hD hS ls hl
    unfold P_X3_withoutLast_5 at hq
    refine lv_iload hx hb dX3_withoutLast_5 (lv_at hl 2 rfl) ?_
    refine lv_iload_n hx hb dX3_withoutLast_7 rfl (lv_at hl 0 rfl) ?_
    refine lv_icmp_ge (tgt := 23) hx hb dX3_withoutLast_8 (by decide) (fun c_8 => ?_) (fun c_8 => ?_)
    · replace hq := (if_pos c_8).symm.trans hq
      refine lv_lload_n hx hb dX3_withoutLast_23 rfl (lv_at hl 1 rfl) ?_
      subst hq
      exact k_lret cx hP hS dX3_withoutLast_24
    · replace hq := (if_neg c_8).symm.trans hq
      refine lv_lload_n hx hb dX3_withoutLast_11 rfl (lv_at hl 1 rfl) ?_
      refine k_ldc2 (v := 100000) cx (by decide +kernel) dX3_withoutLast_12 ?_
      refine lv_ldiv hx hb dX3_withoutLast_15 (by decide) ?_
      refine lv_lstore_n (lv' := [(3, .long (v3 / 100000)), (2, .int gr), (5, .int v5)]) hx hb dX3_withoutLast_16 rfl hl (by decide) rfl (fun ls hl => ?_)
      refine lv_iinc (v := (v5 + 1)) (lv' := [(5, .int (v5 + 1)), (3, .long (v3 / 100000)), (2, .int gr)]) hx hb dX3_withoutLast_17 hl (k := 2) rfl rfl (by decide) rfl (fun ls hl => ?_)
      refine lv_goto (tgt := 5) hx hb dX3_withoutLast_20 (by decide) ?_
      exact ih (v3 / 100000) (v5 + 1) (nn_inc h0 (N := gr) (by assumption)) (by have hmd := mu_up (N := gr) (by assumption); omega) hq H locs hP hD hS _ (lv_sub hl [2, 1, 0] rfl)
def P_X3_withoutLast (sc : Int64) (gr : Int32) : Int64 := (P_X3_withoutLast_5 sc gr (((gr).toInt - (0 : Int32).toInt).toNat + 1) sc 0)
set_option maxHeartbeats 4000000 in
set_option maxRecDepth 100000 in
theorem c_X3_withoutLast (l : Launch) (G : gG)  (sc : Int64) (gr : Int32)  : kM l G yX3_withoutLast wsX3_withoutLast rm_X3_withoutLast [.long sc, .int gr] [] (qL G ((P_X3_withoutLast sc gr)) []) := by
  refine k_body (cc := cX3_withoutLast) (nL := 6) (ret := (some .long)) (by decide) rfl (Nat.le_of_ble_eq_true rfl) ?_
  intro p e s m args below meth c A cx hP hD hS ls hl
  obtain ⟨hx, hb, hml, hown, hts, hr, hlocks, hK, hA⟩ := id cx
  obtain ⟨H, hH⟩ : ∃ H, H = s.heap := ⟨_, rfl⟩
  obtain ⟨locs, hL⟩ : ∃ locs : List Loc, locs = [] := ⟨_, rfl⟩
  obtain ⟨tgt, hq⟩ : ∃ tgt, (P_X3_withoutLast sc gr) = tgt := ⟨_, rfl⟩
  have hS : va_S A s.heap H locs := by rw [hH, hL]; exact hS
  rw [← hH] at hP
  have hl : lv_has ls 6 [(0, .long sc), (2, .int gr)] := hl
  have key : ∀ (H : Heap) (locs : List Loc), va_P G.1 vwCl [] H → va_D A [] → va_S A s.heap H locs → W p l e rm_X3_withoutLast s m args below meth c H locs 0 0 (Q_X3_withoutLast G  tgt below args s A) (F0 m 0 ls []) := by
    clear hP hD hS hH hL
    intro H locs hP hD hS
    unfold P_X3_withoutLast at hq
    refine lv_lload_n hx hb dX3_withoutLast_0 rfl (lv_at hl 0 rfl) ?_
    refine lv_lstore_n (lv' := [(3, .long sc), (0, .long sc), (2, .int gr)]) hx hb dX3_withoutLast_1 rfl hl (by decide) rfl (fun ls hl => ?_)
    refine lv_iconst (v := 0) hx hb dX3_withoutLast_2 (by decide) ?_
    refine lv_istore (lv' := [(5, .int 0), (3, .long sc), (0, .long sc), (2, .int gr)]) hx hb dX3_withoutLast_3 hl (by decide) rfl (fun ls hl => ?_)
    exact b_X3_withoutLast_5 cx  sc gr  tgt (((gr).toInt - (0 : Int32).toInt).toNat + 1) sc 0 (by decide) (Nat.lt_succ_self _) hq H locs hP hD hS _ (lv_sub hl [3, 1, 0] rfl)
  subst hL
  subst hH
  subst hq
  exact key _ _ hP hD hS

/-! X3_deflectionWith -/
theorem hi_X3_deflectionWith_1 : ∀ w ∈ u_ws RX1 TX1 16, w ∈ wsX3_deflectionWith := by decide +kernel
theorem hi_X3_deflectionWith_3 : ∀ w ∈ u_ws RX3 TX3 8, w ∈ wsX3_deflectionWith := by decide +kernel
abbrev rm_X3_deflectionWith : Room := { frames := 2, cells := 0, slots := 0, locals := 44 }
abbrev Q_X3_deflectionWith (G : gG) (b : Nat) (tx : Nat) (h : Nat) (ht : Nat) (pa : Nat) (sl : Nat) (fi : Nat) (o : Nat) (g : Nat)  (bf : Nat → Int32) (f : Nat → Int32) (oh : Nat → Int32) (tgt : Int32) (below : List Frame) (args : Array Value) (s : State) (A : Nat → Prop) : State → Prop := MQ below (qI G tgt [oBr b tx h ht pa sl fi bf, oSt h o g f, aI G o 6 oh] A) args s 0 0 A
def P_X3_deflectionWith (bf : Nat → Int32) (f : Nat → Int32) (oh : Nat → Int32) (box : Int32) : Int32 := (P_X1_deflection f (P_X1_difference f oh box) (P_X1_denominator f oh box) (f 4))
set_option maxHeartbeats 4000000 in
set_option maxRecDepth 100000 in
theorem c_X3_deflectionWith (l : Launch) (G : gG) (b : Nat) (tx : Nat) (h : Nat) (ht : Nat) (pa : Nat) (sl : Nat) (fi : Nat) (o : Nat) (g : Nat) (bf : Nat → Int32) (f : Nat → Int32) (oh : Nat → Int32) (box : Int32)  : kM l G yX3_deflectionWith wsX3_deflectionWith rm_X3_deflectionWith [.ref b, .int box] [oBr b tx h ht pa sl fi bf, oSt h o g f, aI G o 6 oh] (qI G ((P_X3_deflectionWith bf f oh box)) [oBr b tx h ht pa sl fi bf, oSt h o g f, aI G o 6 oh]) := by
  refine k_body (cc := cX3_deflectionWith) (nL := 2) (ret := (some .int)) (by decide) rfl (Nat.le_of_ble_eq_true rfl) ?_
  intro p e s m args below meth c A cx hP hD hS ls hl
  obtain ⟨hx, hb, hml, hown, hts, hr, hlocks, hK, hA⟩ := id cx
  obtain ⟨H, hH⟩ : ∃ H, H = s.heap := ⟨_, rfl⟩
  obtain ⟨locs, hL⟩ : ∃ locs : List Loc, locs = [] := ⟨_, rfl⟩
  obtain ⟨tgt, hq⟩ : ∃ tgt, (P_X3_deflectionWith bf f oh box) = tgt := ⟨_, rfl⟩
  have hS : va_S A s.heap H locs := by rw [hH, hL]; exact hS
  rw [← hH] at hP
  have hl : lv_has ls 2 [(0, .ref b), (1, .int box)] := hl
  have key : ∀ (H : Heap) (locs : List Loc), va_P G.1 vwCl [oBr b tx h ht pa sl fi bf, oSt h o g f, aI G o 6 oh] H → va_D A [oBr b tx h ht pa sl fi bf, oSt h o g f, aI G o 6 oh] → va_S A s.heap H locs → W p l e rm_X3_deflectionWith s m args below meth c H locs 0 0 (Q_X3_deflectionWith G b tx h ht pa sl fi o g bf f oh tgt below args s A) (F0 m 0 ls []) := by
    clear hP hD hS hH hL
    intro H locs hP hD hS
    unfold P_X3_deflectionWith at hq
    refine lv_aload_n hx hb dX3_deflectionWith_0 rfl (lv_at hl 0 rfl) ?_
    refine k_get (v := .ref h) (T := TX3) (C := RX3) (N := 8) cx hi_X3_deflectionWith_3 hP 0 rfl rfl 1 (by decide) (by decide +kernel) rfl dX3_deflectionWith_1 ?_
    refine lv_aload_n hx hb dX3_deflectionWith_4 rfl (lv_at hl 0 rfl) ?_
    refine k_get (v := .ref h) (T := TX3) (C := RX3) (N := 8) cx hi_X3_deflectionWith_3 hP 0 rfl rfl 1 (by decide) (by decide +kernel) rfl dX3_deflectionWith_5 ?_
    refine lv_iload_n hx hb dX3_deflectionWith_8 rfl (lv_at hl 1 rfl) ?_
    have hC := c_X1_difference l G h o g f oh box
    refine k_i (ws' := [oBr b tx h ht pa sl fi bf, oSt h o g f, aI G o 6 oh]) (as := [h, o]) cx hP hD hS [1, 2] rfl (kr_VN (n := 1) (As := [.int box]) (ci := 1) cx hC gX3_deflectionWith_X1_difference_n100 rfl rfl rfl nn_X3_100 (by decide +kernel) (by decide +kernel) (by decide +kernel) (by decide +kernel) ⟨Nat.le_of_ble_eq_true rfl, Nat.le_of_ble_eq_true rfl⟩ rfl rfl rfl hP hD [1, 2] rfl rfl rfl rfl hl (Nat.le_of_ble_eq_true rfl) dX3_deflectionWith_9 ⟨Nat.le_refl _, Nat.le_refl _⟩) ⟨rfl, rfl⟩ rfl (fun H locs hP hD hS => ?_)
    refine lv_aload_n hx hb dX3_deflectionWith_12 rfl (lv_at hl 0 rfl) ?_
    refine k_get (v := .ref h) (T := TX3) (C := RX3) (N := 8) cx hi_X3_deflectionWith_3 hP 0 rfl rfl 1 (by decide) (by decide +kernel) rfl dX3_deflectionWith_13 ?_
    refine lv_iload_n hx hb dX3_deflectionWith_16 rfl (lv_at hl 1 rfl) ?_
    have hC := c_X1_denominator l G h o g f oh box
    refine k_i (ws' := [oBr b tx h ht pa sl fi bf, oSt h o g f, aI G o 6 oh]) (as := [h, o]) cx hP hD hS [1, 2] rfl (kr_VN (n := 1) (As := [.int box]) (ci := 1) cx hC gX3_deflectionWith_X1_denominator_n103 rfl rfl rfl nn_X3_103 (by decide +kernel) (by decide +kernel) (by decide +kernel) (by decide +kernel) ⟨Nat.le_of_ble_eq_true rfl, Nat.le_of_ble_eq_true rfl⟩ rfl rfl rfl hP hD [1, 2] rfl rfl rfl rfl hl (Nat.le_of_ble_eq_true rfl) dX3_deflectionWith_17 ⟨Nat.le_refl _, Nat.le_refl _⟩) ⟨rfl, rfl⟩ rfl (fun H locs hP hD hS => ?_)
    refine lv_aload_n hx hb dX3_deflectionWith_20 rfl (lv_at hl 0 rfl) ?_
    refine k_get (v := .ref h) (T := TX3) (C := RX3) (N := 8) cx hi_X3_deflectionWith_3 hP 0 rfl rfl 1 (by decide) (by decide +kernel) rfl dX3_deflectionWith_21 ?_
    refine k_getN (v := .int (f 4)) (T := TX1) (C := RX1) (N := 16) (host := RX3) cx hi_X3_deflectionWith_1 hP 1 rfl rfl 4 (by decide) nn_X3_286 rfl dX3_deflectionWith_24 ?_
    have hC := c_X1_deflection l G h o g f (P_X1_difference f oh box) (P_X1_denominator f oh box) (f 4)
    refine k_i (ws' := [oBr b tx h ht pa sl fi bf, oSt h o g f, aI G o 6 oh]) (as := [h]) cx hP hD hS [1] rfl (kr_VN (n := 3) (As := [.int (P_X1_difference f oh box), .int (P_X1_denominator f oh box), .int (f 4)]) (ci := 1) cx hC gX3_deflectionWith_X1_deflection_n210 rfl rfl rfl nn_X3_210 (by decide +kernel) (by decide +kernel) (by decide +kernel) (by decide +kernel) ⟨Nat.le_of_ble_eq_true rfl, Nat.le_of_ble_eq_true rfl⟩ rfl rfl rfl hP hD [1] rfl rfl rfl rfl hl (Nat.le_of_ble_eq_true rfl) dX3_deflectionWith_27 ⟨Nat.le_refl _, Nat.le_refl _⟩) ⟨rfl, rfl⟩ rfl (fun H locs hP hD hS => ?_)
    subst hq
    exact k_iret cx hP hS dX3_deflectionWith_30
  subst hL
  subst hH
  subst hq
  exact key _ _ hP hD hS

/-! X3_entry -/
abbrev rm_X3_entry : Room := { frames := 0, cells := 0, slots := 0, locals := 0 }
abbrev Q_X3_entry (G : gG) (a : Nat) (ln : Nat) (pg : Nat → Option Nat) (tgt : Option Nat) (below : List Frame) (args : Array Value) (s : State) (A : Nat → Prop) : State → Prop := MQ below (qQ G tgt [aS G a ln pg] A) args s 0 0 A
def P_X3_entry (ln : Nat) (pg : Nat → Option Nat) (i : Int32) : Option Nat := (let j16 := fun (_ : Unit) => none; (if i < 0 then (j16 ()) else (if (Int32.ofNat ln) ≤ i then (j16 ()) else (pg i.toNatClampNeg))))
set_option maxHeartbeats 4000000 in
set_option maxRecDepth 100000 in
theorem c_X3_entry (l : Launch) (G : gG) (a : Nat) (ln : Nat) (pg : Nat → Option Nat) (i : Int32) (hln : ln < 2147483648) : kM l G yX3_entry wsX3_entry rm_X3_entry [.ref a, .int i] [aS G a ln pg] (qQ G ((P_X3_entry ln pg i)) [aS G a ln pg]) := by
  refine k_body (cc := cX3_entry) (nL := 2) (ret := (some (.object "MirrorBridge$State"))) (by decide) rfl (Nat.le_of_ble_eq_true rfl) ?_
  intro p e s m args below meth c A cx hP hD hS ls hl
  obtain ⟨hx, hb, hml, hown, hts, hr, hlocks, hK, hA⟩ := id cx
  obtain ⟨H, hH⟩ : ∃ H, H = s.heap := ⟨_, rfl⟩
  obtain ⟨locs, hL⟩ : ∃ locs : List Loc, locs = [] := ⟨_, rfl⟩
  obtain ⟨tgt, hq⟩ : ∃ tgt, (P_X3_entry ln pg i) = tgt := ⟨_, rfl⟩
  have hS : va_S A s.heap H locs := by rw [hH, hL]; exact hS
  rw [← hH] at hP
  have hl : lv_has ls 2 [(0, .ref a), (1, .int i)] := hl
  have key : ∀ (H : Heap) (locs : List Loc), va_P G.1 vwCl [aS G a ln pg] H → va_D A [aS G a ln pg] → va_S A s.heap H locs → W p l e rm_X3_entry s m args below meth c H locs 0 0 (Q_X3_entry G a ln pg tgt below args s A) (F0 m 0 ls []) := by
    clear hP hD hS hH hL
    intro H locs hP hD hS
    unfold P_X3_entry at hq
    refine lv_iload_n hx hb dX3_entry_0 rfl (lv_at hl 1 rfl) ?_
    have J16 : ∀ (_ : Unit), none = tgt → ∀ (H : Heap) (locs : List Loc) (ls : Array Slot), va_P G.1 vwCl [aS G a ln pg] H → va_D A [aS G a ln pg] → va_S A s.heap H locs → lv_has ls 2 [(0, .ref a)] → W p l e rm_X3_entry s m args below meth c H locs 0 0 (Q_X3_entry G a ln pg tgt below args s A) (F0 m 16 ls []) := by
      intro _ hq H locs ls hP hD hS hl
      refine lv_null hx hb dX3_entry_16 ?_
      subst hq
      exact k_qret cx hP hS dX3_entry_17
    refine lv_if_lt (tgt := 16) hx hb dX3_entry_1 (by decide) (fun c_1 => ?_) (fun c_1 => ?_)
    · replace hq := (if_pos c_1).symm.trans hq
      exact J16 () hq H locs ls hP hD hS (lv_sub hl [0] rfl)
    · replace hq := (if_neg c_1).symm.trans hq
      refine lv_iload_n hx hb dX3_entry_4 rfl (lv_at hl 1 rfl) ?_
      refine lv_aload_n hx hb dX3_entry_5 rfl (lv_at hl 0 rfl) ?_
      refine k_alenI (v := (Int32.ofNat ln)) (t0 := 3) cx hP 0 rfl rfl rfl dX3_entry_6 ?_
      refine lv_icmp_ge (tgt := 16) hx hb dX3_entry_7 (by decide) (fun c_7 => ?_) (fun c_7 => ?_)
      · replace hq := (if_pos c_7).symm.trans hq
        exact J16 () hq H locs ls hP hD hS (lv_sub hl [0] rfl)
      · replace hq := (if_neg c_7).symm.trans hq
        refine lv_aload_n hx hb dX3_entry_10 rfl (lv_at hl 0 rfl) ?_
        refine lv_iload_n hx hb dX3_entry_11 rfl (lv_at hl 1 rfl) ?_
        refine k_aald (j := i.toNatClampNeg) cx hP 0 rfl rfl (ix_lenN hln (by assumption) (by assumption)) dX3_entry_12 ?_
        refine lv_goto (tgt := 17) hx hb dX3_entry_13 (by decide) ?_
        subst hq
        exact k_qret cx hP hS dX3_entry_17
  subst hL
  subst hH
  subst hq
  exact key _ _ hP hD hS

/-! X3_remember -/
theorem hi_X3_remember_3 : ∀ w ∈ u_ws RX3 TX3 8, w ∈ wsX3_remember := by decide +kernel
abbrev rm_X3_remember : Room := { frames := 2, cells := 0, slots := 0, locals := 44 }
abbrev Q_X3_remember (G : gG) (b : Nat) (tx : Nat) (h : Nat) (ht : Nat) (pa : Nat) (sl : Nat) (fi : Nat) (o : Nat) (g : Nat) (k : Nat) (h2 : Nat) (o2 : Nat) (g2 : Nat) (k2 : Nat)  (pg : Nat → Option Nat) (f : Nat → Int32) (oh : Nat → Int32) (lf : Nat → Int32) (ce : Nat → Int32) (tgt : (Nat → Int32) × (Nat → Int32) × (Nat → Int32) × (Nat → Int32) × (Nat → Int32)) (below : List Frame) (args : Array Value) (s : State) (A : Nat → Prop) : State → Prop := MQ below (qV G [oBr b tx h ht pa sl fi tgt.1, aS G pa 14 pg, oSt h o g f, aI G o 6 oh, oLed g k lf, aI G k 80 ce, oSt h2 o2 g2 tgt.2.1, aI G o2 6 tgt.2.2.1, oLed g2 k2 tgt.2.2.2.1, aI G k2 80 tgt.2.2.2.2] A) args s 0 0 A
def P_X3_remember (bf : Nat → Int32) (pg : Nat → Option Nat) (f : Nat → Int32) (oh : Nat → Int32) (lf : Nat → Int32) (ce : Nat → Int32) (f2 : Nat → Int32) (oh2 : Nat → Int32) (lf2 : Nat → Int32) (ce2 : Nat → Int32) : (Nat → Int32) × (Nat → Int32) × (Nat → Int32) × (Nat → Int32) × (Nat → Int32) := (let u21 := P_X1_copyFrom f2 oh2 lf2 ce2 f oh lf ce; let j44 := fun (j44_s0 : Int32) => ((upd (upd bf 5 j44_s0) 4 (jmin 14 ((bf 4) + 1))), u21.1, u21.2.1, u21.2.2.1, u21.2.2.2); (if 13 ≤ (bf 5) then (j44 0) else (j44 ((bf 5) + 1))))
set_option maxHeartbeats 4000000 in
set_option maxRecDepth 100000 in
theorem c_X3_remember (l : Launch) (G : gG) (b : Nat) (tx : Nat) (h : Nat) (ht : Nat) (pa : Nat) (sl : Nat) (fi : Nat) (o : Nat) (g : Nat) (k : Nat) (h2 : Nat) (o2 : Nat) (g2 : Nat) (k2 : Nat) (bf : Nat → Int32) (pg : Nat → Option Nat) (f : Nat → Int32) (oh : Nat → Int32) (lf : Nat → Int32) (ce : Nat → Int32) (f2 : Nat → Int32) (oh2 : Nat → Int32) (lf2 : Nat → Int32) (ce2 : Nat → Int32) (hst : f 9 = 0 ∨ f 9 = 1) (hpg : P_X3_entry 14 pg (bf 5) = some h2) : kM l G yX3_remember wsX3_remember rm_X3_remember [.ref b] [oBr b tx h ht pa sl fi bf, aS G pa 14 pg, oSt h o g f, aI G o 6 oh, oLed g k lf, aI G k 80 ce, oSt h2 o2 g2 f2, aI G o2 6 oh2, oLed g2 k2 lf2, aI G k2 80 ce2] (qV G [oBr b tx h ht pa sl fi ((P_X3_remember bf pg f oh lf ce f2 oh2 lf2 ce2).1), aS G pa 14 pg, oSt h o g f, aI G o 6 oh, oLed g k lf, aI G k 80 ce, oSt h2 o2 g2 ((P_X3_remember bf pg f oh lf ce f2 oh2 lf2 ce2).2.1), aI G o2 6 ((P_X3_remember bf pg f oh lf ce f2 oh2 lf2 ce2).2.2.1), oLed g2 k2 ((P_X3_remember bf pg f oh lf ce f2 oh2 lf2 ce2).2.2.2.1), aI G k2 80 ((P_X3_remember bf pg f oh lf ce f2 oh2 lf2 ce2).2.2.2.2)]) := by
  refine k_body (cc := cX3_remember) (nL := 2) (ret := none) (by decide) rfl (Nat.le_of_ble_eq_true rfl) ?_
  intro p e s m args below meth c A cx hP hD hS ls hl
  obtain ⟨hx, hb, hml, hown, hts, hr, hlocks, hK, hA⟩ := id cx
  obtain ⟨H, hH⟩ : ∃ H, H = s.heap := ⟨_, rfl⟩
  obtain ⟨locs, hL⟩ : ∃ locs : List Loc, locs = [] := ⟨_, rfl⟩
  obtain ⟨tgt, hq⟩ : ∃ tgt, (P_X3_remember bf pg f oh lf ce f2 oh2 lf2 ce2) = tgt := ⟨_, rfl⟩
  have hS : va_S A s.heap H locs := by rw [hH, hL]; exact hS
  rw [← hH] at hP
  have hl : lv_has ls 2 [(0, .ref b)] := hl
  have key : ∀ (H : Heap) (locs : List Loc), va_P G.1 vwCl [oBr b tx h ht pa sl fi bf, aS G pa 14 pg, oSt h o g f, aI G o 6 oh, oLed g k lf, aI G k 80 ce, oSt h2 o2 g2 f2, aI G o2 6 oh2, oLed g2 k2 lf2, aI G k2 80 ce2] H → va_D A [oBr b tx h ht pa sl fi bf, aS G pa 14 pg, oSt h o g f, aI G o 6 oh, oLed g k lf, aI G k 80 ce, oSt h2 o2 g2 f2, aI G o2 6 oh2, oLed g2 k2 lf2, aI G k2 80 ce2] → va_S A s.heap H locs → W p l e rm_X3_remember s m args below meth c H locs 0 0 (Q_X3_remember G b tx h ht pa sl fi o g k h2 o2 g2 k2 pg f oh lf ce tgt below args s A) (F0 m 0 ls []) := by
    clear hP hD hS hH hL
    intro H locs hP hD hS
    unfold P_X3_remember at hq
    refine lv_aload_n hx hb dX3_remember_0 rfl (lv_at hl 0 rfl) ?_
    refine k_get (v := .ref pa) (T := TX3) (C := RX3) (N := 8) cx hi_X3_remember_3 hP 0 rfl rfl 3 (by decide) (by decide +kernel) rfl dX3_remember_1 ?_
    refine lv_aload_n hx hb dX3_remember_4 rfl (lv_at hl 0 rfl) ?_
    refine k_get (v := .int (bf 5)) (T := TX3) (C := RX3) (N := 8) cx hi_X3_remember_3 hP 0 rfl rfl 5 (by decide) (by decide +kernel) rfl dX3_remember_5 ?_
    have hC := c_X3_entry l G pa 14 pg (bf 5) (by decide)
    refine k_q (ws' := [oBr b tx h ht pa sl fi bf, aS G pa 14 pg, oSt h o g f, aI G o 6 oh, oLed g k lf, aI G k 80 ce, oSt h2 o2 g2 f2, aI G o2 6 oh2, oLed g2 k2 lf2, aI G k2 80 ce2]) (as := [pa]) cx hP hD hS [1] rfl (kr_S (n := 2) (As := [.ref pa, .int (bf 5)]) cx hC gX3_remember_X3_entry rfl rfl rfl (by decide +kernel) ⟨Nat.le_of_ble_eq_true rfl, Nat.le_of_ble_eq_true rfl⟩ hP hD [1] rfl rfl rfl rfl hl (Nat.le_of_ble_eq_true rfl) dX3_remember_8 ⟨Nat.le_refl _, Nat.le_refl _⟩) ⟨rfl, rfl⟩ rfl (fun H locs hP hD hS => ?_)
    refine k_known (a := h2) hpg ?_
    refine lv_astore_n (lv' := [(1, .ref h2), (0, .ref b)]) hx hb dX3_remember_11 rfl hl (by decide) rfl (fun ls hl => ?_)
    refine lv_aload_n hx hb dX3_remember_12 rfl (lv_at hl 0 rfl) ?_
    refine lv_ifnull hx hb dX3_remember_13 ?_
    refine lv_aload_n hx hb dX3_remember_16 rfl (lv_at hl 0 rfl) ?_
    refine lv_aload_n hx hb dX3_remember_17 rfl (lv_at hl 1 rfl) ?_
    refine k_get (v := .ref h) (T := TX3) (C := RX3) (N := 8) cx hi_X3_remember_3 hP 0 rfl rfl 1 (by decide) (by decide +kernel) rfl dX3_remember_18 ?_
    have hC := c_X1_copyFrom l G h2 o2 g2 k2 h o g k f2 oh2 lf2 ce2 f oh lf ce (hst)
    generalize hu21 : P_X1_copyFrom f2 oh2 lf2 ce2 f oh lf ce = u21 at hC hq
    refine k_v (ws' := [oBr b tx h ht pa sl fi bf, aS G pa 14 pg, oSt h o g f, aI G o 6 oh, oLed g k lf, aI G k 80 ce, oSt h2 o2 g2 u21.1, aI G o2 6 u21.2.1, oLed g2 k2 u21.2.2.1, aI G k2 80 u21.2.2.2]) (as := [h2, o2, g2, k2, h, o, g, k]) cx hP hD hS [6, 7, 8, 9, 2, 3, 4, 5] rfl (kr_VN (n := 1) (As := [.ref h]) (ci := 1) cx hC gX3_remember_X1_copyFrom_n181 rfl rfl rfl nn_X3_181 (by decide +kernel) (by decide +kernel) (by decide +kernel) (by decide +kernel) ⟨Nat.le_of_ble_eq_true rfl, Nat.le_of_ble_eq_true rfl⟩ rfl rfl rfl hP hD [6, 7, 8, 9, 2, 3, 4, 5] rfl rfl rfl rfl hl (Nat.le_of_ble_eq_true rfl) dX3_remember_21 ⟨Nat.le_refl _, Nat.le_refl _⟩) ⟨rfl, rfl⟩ rfl (fun H locs hP hD hS => ?_)
    refine lv_aload_n hx hb dX3_remember_24 rfl (lv_at hl 1 rfl) ?_
    refine lv_aload_n hx hb dX3_remember_25 rfl (lv_at hl 1 rfl) ?_
    refine k_get (v := .int (bf 5)) (T := TX3) (C := RX3) (N := 8) cx hi_X3_remember_3 hP 0 rfl rfl 5 (by decide) (by decide +kernel) rfl dX3_remember_26 ?_
    refine lv_bipush (v := 13) hx hb dX3_remember_29 (by decide) ?_
    have J44 : ∀ (j44_s0 : Int32), ((upd (upd bf 5 j44_s0) 4 (jmin 14 ((bf 4) + 1))), u21.1, u21.2.1, u21.2.2.1, u21.2.2.2) = tgt → ∀ (H : Heap) (locs : List Loc) (ls : Array Slot), va_P G.1 vwCl [oBr b tx h ht pa sl fi bf, aS G pa 14 pg, oSt h o g f, aI G o 6 oh, oLed g k lf, aI G k 80 ce, oSt h2 o2 g2 u21.1, aI G o2 6 u21.2.1, oLed g2 k2 u21.2.2.1, aI G k2 80 u21.2.2.2] H → va_D A [oBr b tx h ht pa sl fi bf, aS G pa 14 pg, oSt h o g f, aI G o 6 oh, oLed g k lf, aI G k 80 ce, oSt h2 o2 g2 u21.1, aI G o2 6 u21.2.1, oLed g2 k2 u21.2.2.1, aI G k2 80 u21.2.2.2] → va_S A s.heap H locs → lv_has ls 2 [(0, .ref b), (1, .ref h2)] → W p l e rm_X3_remember s m args below meth c H locs 0 0 (Q_X3_remember G b tx h ht pa sl fi o g k h2 o2 g2 k2 pg f oh lf ce tgt below args s A) (F0 m 44 ls [.int j44_s0, .ref b]) := by
      intro j44_s0 hq H locs ls hP hD hS hl
      refine k_put (ws' := [oBr b tx h ht pa sl fi (upd bf 5 j44_s0), aS G pa 14 pg, oSt h o g f, aI G o 6 oh, oLed g k lf, aI G k 80 ce, oSt h2 o2 g2 u21.1, aI G o2 6 u21.2.1, oLed g2 k2 u21.2.2.1, aI G k2 80 u21.2.2.2]) (ty := .int) (T := TX3) (C := RX3) (N := 8) cx hi_X3_remember_3 tyX3_ok nmX3 hP hD hS 0 rfl rfl 5 (by decide) (by decide +kernel) rfl rfl rfl rfl (Nat.le_of_ble_eq_true rfl) rfl dX3_remember_44 (fun H locs hP hD hS => ?_)
      refine lv_aload_n hx hb dX3_remember_47 rfl (lv_at hl 0 rfl) ?_
      refine lv_bipush (v := 14) hx hb dX3_remember_48 (by decide) ?_
      refine lv_aload_n hx hb dX3_remember_50 rfl (lv_at hl 0 rfl) ?_
      refine k_get (v := .int (bf 4)) (T := TX3) (C := RX3) (N := 8) cx hi_X3_remember_3 hP 0 rfl rfl 4 (by decide) (by decide +kernel) rfl dX3_remember_51 ?_
      refine lv_iconst (v := 1) hx hb dX3_remember_54 (by decide) ?_
      refine lv_iadd hx hb dX3_remember_55 ?_
      refine k_min cx hl (by decide +kernel) (by decide +kernel) (by decide +kernel) (by decide +kernel) ⟨Nat.le_of_ble_eq_true rfl, Nat.le_of_ble_eq_true rfl, Nat.zero_le _, Nat.zero_le _⟩ dX3_remember_56 ?_
      refine k_put (ws' := [oBr b tx h ht pa sl fi (upd (upd bf 5 j44_s0) 4 (jmin 14 ((bf 4) + 1))), aS G pa 14 pg, oSt h o g f, aI G o 6 oh, oLed g k lf, aI G k 80 ce, oSt h2 o2 g2 u21.1, aI G o2 6 u21.2.1, oLed g2 k2 u21.2.2.1, aI G k2 80 u21.2.2.2]) (ty := .int) (T := TX3) (C := RX3) (N := 8) cx hi_X3_remember_3 tyX3_ok nmX3 hP hD hS 0 rfl rfl 4 (by decide) (by decide +kernel) rfl rfl rfl rfl (Nat.le_of_ble_eq_true rfl) rfl dX3_remember_59 (fun H locs hP hD hS => ?_)
      subst hq
      exact k_vret cx hP hS dX3_remember_62
    refine lv_icmp_ge (tgt := 43) hx hb dX3_remember_31 (by decide) (fun c_31 => ?_) (fun c_31 => ?_)
    · replace hq := (if_pos c_31).symm.trans hq
      refine lv_iconst (v := 0) hx hb dX3_remember_43 (by decide) ?_
      exact J44 0 hq H locs ls hP hD hS (lv_sub hl [1, 0] rfl)
    · replace hq := (if_neg c_31).symm.trans hq
      refine lv_aload_n hx hb dX3_remember_34 rfl (lv_at hl 1 rfl) ?_
      refine k_get (v := .int (bf 5)) (T := TX3) (C := RX3) (N := 8) cx hi_X3_remember_3 hP 0 rfl rfl 5 (by decide) (by decide +kernel) rfl dX3_remember_35 ?_
      refine lv_iconst (v := 1) hx hb dX3_remember_38 (by decide) ?_
      refine lv_iadd hx hb dX3_remember_39 ?_
      refine lv_goto (tgt := 44) hx hb dX3_remember_40 (by decide) ?_
      exact J44 ((bf 5) + 1) hq H locs ls hP hD hS (lv_sub hl [1, 0] rfl)
  subst hL
  subst hH
  subst hq
  exact key _ _ hP hD hS

/-! X3_forgetPast -/
theorem hi_X3_forgetPast_3 : ∀ w ∈ u_ws RX3 TX3 8, w ∈ wsX3_forgetPast := by decide +kernel
abbrev rm_X3_forgetPast : Room := { frames := 0, cells := 0, slots := 0, locals := 0 }
abbrev Q_X3_forgetPast (G : gG) (b : Nat) (tx : Nat) (h : Nat) (ht : Nat) (pa : Nat) (sl : Nat) (fi : Nat)   (tgt : (Nat → Int32)) (below : List Frame) (args : Array Value) (s : State) (A : Nat → Prop) : State → Prop := MQ below (qV G [oBr b tx h ht pa sl fi tgt] A) args s 0 0 A
def P_X3_forgetPast (bf : Nat → Int32) : (Nat → Int32) := (upd (upd bf 4 0) 5 0)
set_option maxHeartbeats 4000000 in
set_option maxRecDepth 100000 in
theorem c_X3_forgetPast (l : Launch) (G : gG) (b : Nat) (tx : Nat) (h : Nat) (ht : Nat) (pa : Nat) (sl : Nat) (fi : Nat) (bf : Nat → Int32)  : kM l G yX3_forgetPast wsX3_forgetPast rm_X3_forgetPast [.ref b] [oBr b tx h ht pa sl fi bf] (qV G [oBr b tx h ht pa sl fi (P_X3_forgetPast bf)]) := by
  refine k_body (cc := cX3_forgetPast) (nL := 1) (ret := none) (by decide) rfl (Nat.le_of_ble_eq_true rfl) ?_
  intro p e s m args below meth c A cx hP hD hS ls hl
  obtain ⟨hx, hb, hml, hown, hts, hr, hlocks, hK, hA⟩ := id cx
  obtain ⟨H, hH⟩ : ∃ H, H = s.heap := ⟨_, rfl⟩
  obtain ⟨locs, hL⟩ : ∃ locs : List Loc, locs = [] := ⟨_, rfl⟩
  obtain ⟨tgt, hq⟩ : ∃ tgt, (P_X3_forgetPast bf) = tgt := ⟨_, rfl⟩
  have hS : va_S A s.heap H locs := by rw [hH, hL]; exact hS
  rw [← hH] at hP
  have hl : lv_has ls 1 [(0, .ref b)] := hl
  have key : ∀ (H : Heap) (locs : List Loc), va_P G.1 vwCl [oBr b tx h ht pa sl fi bf] H → va_D A [oBr b tx h ht pa sl fi bf] → va_S A s.heap H locs → W p l e rm_X3_forgetPast s m args below meth c H locs 0 0 (Q_X3_forgetPast G b tx h ht pa sl fi tgt below args s A) (F0 m 0 ls []) := by
    clear hP hD hS hH hL
    intro H locs hP hD hS
    unfold P_X3_forgetPast at hq
    refine lv_aload_n hx hb dX3_forgetPast_0 rfl (lv_at hl 0 rfl) ?_
    refine lv_iconst (v := 0) hx hb dX3_forgetPast_1 (by decide) ?_
    refine k_put (ws' := [oBr b tx h ht pa sl fi (upd bf 4 0)]) (ty := .int) (T := TX3) (C := RX3) (N := 8) cx hi_X3_forgetPast_3 tyX3_ok nmX3 hP hD hS 0 rfl rfl 4 (by decide) (by decide +kernel) rfl rfl rfl rfl (Nat.le_of_ble_eq_true rfl) rfl dX3_forgetPast_2 (fun H locs hP hD hS => ?_)
    refine lv_aload_n hx hb dX3_forgetPast_5 rfl (lv_at hl 0 rfl) ?_
    refine lv_iconst (v := 0) hx hb dX3_forgetPast_6 (by decide) ?_
    refine k_put (ws' := [oBr b tx h ht pa sl fi (upd (upd bf 4 0) 5 0)]) (ty := .int) (T := TX3) (C := RX3) (N := 8) cx hi_X3_forgetPast_3 tyX3_ok nmX3 hP hD hS 0 rfl rfl 5 (by decide) (by decide +kernel) rfl rfl rfl rfl (Nat.le_of_ble_eq_true rfl) rfl dX3_forgetPast_7 (fun H locs hP hD hS => ?_)
    subst hq
    exact k_vret cx hP hS dX3_forgetPast_10
  subst hL
  subst hH
  subst hq
  exact key _ _ hP hD hS

/-! X3_pressesOften -/
theorem hi_X3_pressesOften_1 : ∀ w ∈ u_ws RX1 TX1 16, w ∈ wsX3_pressesOften := by decide +kernel
theorem hi_X3_pressesOften_3 : ∀ w ∈ u_ws RX3 TX3 8, w ∈ wsX3_pressesOften := by decide +kernel
abbrev rm_X3_pressesOften : Room := { frames := 3, cells := 0, slots := 0, locals := 68 }
abbrev Q_X3_pressesOften (G : gG) (b : Nat) (tx : Nat) (h : Nat) (ht : Nat) (pa : Nat) (sl : Nat) (fi : Nat) (ot : Nat) (gt : Nat) (kt : Nat)  (bf : Nat → Int32) (oht : Nat → Int32) (tgt : Int32 × (Nat → Int32) × (Nat → Int32) × (Nat → Int32)) (below : List Frame) (args : Array Value) (s : State) (A : Nat → Prop) : State → Prop := MQ below (qI G tgt.1 [oBr b tx h ht pa sl fi bf, oSt ht ot gt tgt.2.1, aI G ot 6 oht, oLed gt kt tgt.2.2.1, aI G kt 80 tgt.2.2.2] A) args s 0 0 A
def P_X3_pressesOften_14 (bf : Nat → Int32) (oht : Nat → Int32) (rv : Int32) (tm : Int32) : Nat → Int32 → (Nat → Int32) → (Nat → Int32) → (Nat → Int32) → Int32 × (Nat → Int32) × (Nat → Int32) × (Nat → Int32)
  | 0, _, _, _, _ => (0, (fun _ => 0), (fun _ => 0), (fun _ => 0))
  | n + 1, v3, ft, lft, cet => (if tm ≤ v3 then (1, ft, lft, cet) else (if (ft 9) = 0 then (let u36 := P_X1_pressKey ft oht lft cet rv; (P_X3_pressesOften_14 bf oht rv tm n (v3 + 1) u36.2.1 u36.2.2.1 u36.2.2.2)) else (0, ft, lft, cet)))
set_option maxHeartbeats 4000000 in
set_option maxRecDepth 100000 in
theorem b_X3_pressesOften_14 {p : Program} {l : Launch} {e : Env} {s : State} {m : MethodId} {args : Array Value} {below : List Frame} {meth : Method} {c : Code} {G : gG} {A : Nat → Prop} (cx : Cx p s m args meth c cX3_pressesOften 4 yX3_pressesOften.cls wsX3_pressesOften (some .boolean) G A) (b : Nat) (tx : Nat) (h : Nat) (ht : Nat) (pa : Nat) (sl : Nat) (fi : Nat) (ot : Nat) (gt : Nat) (kt : Nat) (bf : Nat → Int32) (oht : Nat → Int32) (rv : Int32) (tm : Int32)   (tgt : Int32 × (Nat → Int32) × (Nat → Int32) × (Nat → Int32)) : ∀ (n : Nat) (v3 : Int32) (ft : Nat → Int32) (lft : Nat → Int32) (cet : Nat → Int32) (h0 : ¬ v3 < 0) (hm : ((tm).toInt - (v3 : Int32).toInt).toNat < n) (hq : P_X3_pressesOften_14  bf oht rv tm n v3 ft lft cet = tgt) (H : Heap) (locs : List Loc) (hP : va_P G.1 vwCl [oBr b tx h ht pa sl fi bf, oSt ht ot gt ft, aI G ot 6 oht, oLed gt kt lft, aI G kt 80 cet] H) (hD : va_D A [oBr b tx h ht pa sl fi bf, oSt ht ot gt ft, aI G ot 6 oht, oLed gt kt lft, aI G kt 80 cet]) (hS : va_S A s.heap H locs) (ls : Array Slot) (hl : lv_has ls 4 [(0, .ref b), (1, .int rv), (2, .int tm), (3, .int v3)]), W p l e rm_X3_pressesOften s m args below meth c H locs 0 0 (Q_X3_pressesOften G b tx h ht pa sl fi ot gt kt bf oht tgt below args s A) (F0 m 14 ls []) := by
  obtain ⟨hx, hb, hml, hown, hts, hr, hlocks, hK, hA⟩ := id cx
  intro n
  induction n with
  | zero => intros; omega
  | succ n ih =>
    intro v3 ft lft cet h0 hm hq H locs hP hD hS ls hl
    unfold P_X3_pressesOften_14 at hq
    refine lv_iload_n hx hb dX3_pressesOften_14 rfl (lv_at hl 3 rfl) ?_
    refine lv_iload_n hx hb dX3_pressesOften_15 rfl (lv_at hl 2 rfl) ?_
    refine lv_icmp_ge (tgt := 46) hx hb dX3_pressesOften_16 (by decide) (fun c_16 => ?_) (fun c_16 => ?_)
    · replace hq := (if_pos c_16).symm.trans hq
      refine lv_iconst (v := 1) hx hb dX3_pressesOften_46 (by decide) ?_
      subst hq
      exact k_zret (v := 1) (w1 := [oBr b tx h ht pa sl fi bf, oSt ht ot gt ft, aI G ot 6 oht, oLed gt kt lft, aI G kt 80 cet]) cx (rfl) hP hS dX3_pressesOften_47
    · replace hq := (if_neg c_16).symm.trans hq
      refine lv_aload_n hx hb dX3_pressesOften_19 rfl (lv_at hl 0 rfl) ?_
      refine k_get (v := .ref ht) (T := TX3) (C := RX3) (N := 8) cx hi_X3_pressesOften_3 hP 0 rfl rfl 2 (by decide) (by decide +kernel) rfl dX3_pressesOften_20 ?_
      refine k_getN (v := .int (ft 9)) (T := TX1) (C := RX1) (N := 16) (host := RX3) cx hi_X3_pressesOften_1 hP 1 rfl rfl 9 (by decide) nn_X3_112 rfl dX3_pressesOften_23 ?_
      refine lv_if_eq (tgt := 31) hx hb dX3_pressesOften_26 (by decide) (fun c_26 => ?_) (fun c_26 => ?_)
      · replace hq := (if_pos c_26).symm.trans hq
        refine lv_aload_n hx hb dX3_pressesOften_31 rfl (lv_at hl 0 rfl) ?_
        refine k_get (v := .ref ht) (T := TX3) (C := RX3) (N := 8) cx hi_X3_pressesOften_3 hP 0 rfl rfl 2 (by decide) (by decide +kernel) rfl dX3_pressesOften_32 ?_
        refine lv_iload_n hx hb dX3_pressesOften_35 rfl (lv_at hl 1 rfl) ?_
        have hC := c_X1_pressKey l G ht ot gt kt ft oht lft cet rv
        generalize hu36 : P_X1_pressKey ft oht lft cet rv = u36 at hC hq
        refine k_i (ws' := [oBr b tx h ht pa sl fi bf, oSt ht ot gt u36.2.1, aI G ot 6 oht, oLed gt kt u36.2.2.1, aI G kt 80 u36.2.2.2]) (as := [ht, ot, gt, kt]) cx hP hD hS [1, 2, 3, 4] rfl (kr_VN (n := 1) (As := [.int rv]) (ci := 1) cx hC gX3_pressesOften_X1_pressKey_n121 rfl rfl rfl nn_X3_121 (by decide +kernel) (by decide +kernel) (by decide +kernel) (by decide +kernel) ⟨Nat.le_of_ble_eq_true rfl, Nat.le_of_ble_eq_true rfl⟩ rfl rfl rfl hP hD [1, 2, 3, 4] rfl rfl rfl rfl hl (Nat.le_of_ble_eq_true rfl) dX3_pressesOften_36 ⟨Nat.le_refl _, Nat.le_refl _⟩) ⟨rfl, rfl⟩ rfl (fun H locs hP hD hS => ?_)
        refine lv_pop hx hb dX3_pressesOften_39 rfl ?_
        refine lv_iinc (v := (v3 + 1)) (lv' := [(3, .int (v3 + 1)), (0, .ref b), (1, .int rv), (2, .int tm)]) hx hb dX3_pressesOften_40 hl (k := 3) rfl rfl (by decide) rfl (fun ls hl => ?_)
        refine lv_goto (tgt := 14) hx hb dX3_pressesOften_43 (by decide) ?_
        exact ih (v3 + 1) u36.2.1 u36.2.2.1 u36.2.2.2 (nn_inc h0 (N := tm) (by assumption)) (by have hmd := mu_up (N := tm) (by assumption); omega) hq H locs hP hD hS _ (lv_sub hl [1, 2, 3, 0] rfl)
      · replace hq := (if_neg c_26).symm.trans hq
        refine lv_iconst (v := 0) hx hb dX3_pressesOften_29 (by decide) ?_
        subst hq
        exact k_zret (v := 0) (w1 := [oBr b tx h ht pa sl fi bf, oSt ht ot gt ft, aI G ot 6 oht, oLed gt kt lft, aI G kt 80 cet]) cx (rfl) hP hS dX3_pressesOften_30
def P_X3_pressesOften (bf : Nat → Int32) (ft : Nat → Int32) (oht : Nat → Int32) (lft : Nat → Int32) (cet : Nat → Int32) (rv : Int32) (tm : Int32) : Int32 × (Nat → Int32) × (Nat → Int32) × (Nat → Int32) := (if (P_X3_outside tm 1 99) = 0 then (P_X3_pressesOften_14 bf oht rv tm (((tm).toInt - (0 : Int32).toInt).toNat + 1) 0 ft lft cet) else (0, ft, lft, cet))
set_option maxHeartbeats 4000000 in
set_option maxRecDepth 100000 in
theorem c_X3_pressesOften (l : Launch) (G : gG) (b : Nat) (tx : Nat) (h : Nat) (ht : Nat) (pa : Nat) (sl : Nat) (fi : Nat) (ot : Nat) (gt : Nat) (kt : Nat) (bf : Nat → Int32) (ft : Nat → Int32) (oht : Nat → Int32) (lft : Nat → Int32) (cet : Nat → Int32) (rv : Int32) (tm : Int32)  : kM l G yX3_pressesOften wsX3_pressesOften rm_X3_pressesOften [.ref b, .int rv, .int tm] [oBr b tx h ht pa sl fi bf, oSt ht ot gt ft, aI G ot 6 oht, oLed gt kt lft, aI G kt 80 cet] (qI G ((P_X3_pressesOften bf ft oht lft cet rv tm).1) [oBr b tx h ht pa sl fi bf, oSt ht ot gt ((P_X3_pressesOften bf ft oht lft cet rv tm).2.1), aI G ot 6 oht, oLed gt kt ((P_X3_pressesOften bf ft oht lft cet rv tm).2.2.1), aI G kt 80 ((P_X3_pressesOften bf ft oht lft cet rv tm).2.2.2)]) := by
  refine k_body (cc := cX3_pressesOften) (nL := 4) (ret := (some .boolean)) (by decide) rfl (Nat.le_of_ble_eq_true rfl) ?_
  intro p e s m args below meth c A cx hP hD hS ls hl
  obtain ⟨hx, hb, hml, hown, hts, hr, hlocks, hK, hA⟩ := id cx
  obtain ⟨H, hH⟩ : ∃ H, H = s.heap := ⟨_, rfl⟩
  obtain ⟨locs, hL⟩ : ∃ locs : List Loc, locs = [] := ⟨_, rfl⟩
  obtain ⟨tgt, hq⟩ : ∃ tgt, (P_X3_pressesOften bf ft oht lft cet rv tm) = tgt := ⟨_, rfl⟩
  have hS : va_S A s.heap H locs := by rw [hH, hL]; exact hS
  rw [← hH] at hP
  have hl : lv_has ls 4 [(0, .ref b), (1, .int rv), (2, .int tm)] := hl
  have key : ∀ (H : Heap) (locs : List Loc), va_P G.1 vwCl [oBr b tx h ht pa sl fi bf, oSt ht ot gt ft, aI G ot 6 oht, oLed gt kt lft, aI G kt 80 cet] H → va_D A [oBr b tx h ht pa sl fi bf, oSt ht ot gt ft, aI G ot 6 oht, oLed gt kt lft, aI G kt 80 cet] → va_S A s.heap H locs → W p l e rm_X3_pressesOften s m args below meth c H locs 0 0 (Q_X3_pressesOften G b tx h ht pa sl fi ot gt kt bf oht tgt below args s A) (F0 m 0 ls []) := by
    clear hP hD hS hH hL
    intro H locs hP hD hS
    unfold P_X3_pressesOften at hq
    refine lv_iload_n hx hb dX3_pressesOften_0 rfl (lv_at hl 2 rfl) ?_
    refine lv_iconst (v := 1) hx hb dX3_pressesOften_1 (by decide) ?_
    refine lv_bipush (v := 99) hx hb dX3_pressesOften_2 (by decide) ?_
    have hC := c_X3_outside l G tm 1 99
    refine k_i (ws' := [oBr b tx h ht pa sl fi bf, oSt ht ot gt ft, aI G ot 6 oht, oLed gt kt lft, aI G kt 80 cet]) (as := []) cx hP hD hS [] rfl (kr_S (n := 3) (As := [.int tm, .int 1, .int 99]) cx hC gX3_pressesOften_X3_outside rfl rfl rfl (by decide +kernel) ⟨Nat.le_of_ble_eq_true rfl, Nat.le_of_ble_eq_true rfl⟩ hP hD [] rfl rfl rfl rfl hl (Nat.le_of_ble_eq_true rfl) dX3_pressesOften_4 ⟨Nat.le_refl _, Nat.le_refl _⟩) ⟨rfl, rfl⟩ rfl (fun H locs hP hD hS => ?_)
    refine lv_if_eq (tgt := 12) hx hb dX3_pressesOften_7 (by decide) (fun c_7 => ?_) (fun c_7 => ?_)
    · replace hq := (if_pos c_7).symm.trans hq
      refine lv_iconst (v := 0) hx hb dX3_pressesOften_12 (by decide) ?_
      refine lv_istore_n (lv' := [(3, .int 0), (0, .ref b), (1, .int rv), (2, .int tm)]) hx hb dX3_pressesOften_13 rfl hl (by decide) rfl (fun ls hl => ?_)
      exact b_X3_pressesOften_14 cx b tx h ht pa sl fi ot gt kt bf oht rv tm  tgt (((tm).toInt - (0 : Int32).toInt).toNat + 1) 0 ft lft cet (by decide) (Nat.lt_succ_self _) hq H locs hP hD hS _ (lv_sub hl [1, 2, 3, 0] rfl)
    · replace hq := (if_neg c_7).symm.trans hq
      refine lv_iconst (v := 0) hx hb dX3_pressesOften_10 (by decide) ?_
      subst hq
      exact k_zret (v := 0) (w1 := [oBr b tx h ht pa sl fi bf, oSt ht ot gt ft, aI G ot 6 oht, oLed gt kt lft, aI G kt 80 cet]) cx (rfl) hP hS dX3_pressesOften_11
  subst hL
  subst hH
  subst hq
  exact key _ _ hP hD hS

/-! X3_waits -/
theorem hi_X3_waits_3 : ∀ w ∈ u_ws RX3 TX3 8, w ∈ wsX3_waits := by decide +kernel
abbrev rm_X3_waits : Room := { frames := 3, cells := 0, slots := 0, locals := 55 }
abbrev Q_X3_waits (G : gG) (b : Nat) (tx : Nat) (h : Nat) (ht : Nat) (pa : Nat) (sl : Nat) (fi : Nat) (ot : Nat) (gt : Nat)  (bf : Nat → Int32) (tgt : Int32 × (Nat → Int32)) (below : List Frame) (args : Array Value) (s : State) (A : Nat → Prop) : State → Prop := MQ below (qI G tgt.1 [oBr b tx h ht pa sl fi bf, oSt ht ot gt tgt.2] A) args s 0 0 A
def P_X3_waits (bf : Nat → Int32) (ft : Nat → Int32) (tk : Int32) : Int32 × (Nat → Int32) := (if (P_X3_outside tk 1 200) = 0 then (let u18 := P_X1_waitTicks ft tk; (1, u18)) else (0, ft))
set_option maxHeartbeats 4000000 in
set_option maxRecDepth 100000 in
theorem c_X3_waits (l : Launch) (G : gG) (b : Nat) (tx : Nat) (h : Nat) (ht : Nat) (pa : Nat) (sl : Nat) (fi : Nat) (ot : Nat) (gt : Nat) (bf : Nat → Int32) (ft : Nat → Int32) (tk : Int32)  : kM l G yX3_waits wsX3_waits rm_X3_waits [.ref b, .int tk] [oBr b tx h ht pa sl fi bf, oSt ht ot gt ft] (qI G ((P_X3_waits bf ft tk).1) [oBr b tx h ht pa sl fi bf, oSt ht ot gt ((P_X3_waits bf ft tk).2)]) := by
  refine k_body (cc := cX3_waits) (nL := 2) (ret := (some .boolean)) (by decide) rfl (Nat.le_of_ble_eq_true rfl) ?_
  intro p e s m args below meth c A cx hP hD hS ls hl
  obtain ⟨hx, hb, hml, hown, hts, hr, hlocks, hK, hA⟩ := id cx
  obtain ⟨H, hH⟩ : ∃ H, H = s.heap := ⟨_, rfl⟩
  obtain ⟨locs, hL⟩ : ∃ locs : List Loc, locs = [] := ⟨_, rfl⟩
  obtain ⟨tgt, hq⟩ : ∃ tgt, (P_X3_waits bf ft tk) = tgt := ⟨_, rfl⟩
  have hS : va_S A s.heap H locs := by rw [hH, hL]; exact hS
  rw [← hH] at hP
  have hl : lv_has ls 2 [(0, .ref b), (1, .int tk)] := hl
  have key : ∀ (H : Heap) (locs : List Loc), va_P G.1 vwCl [oBr b tx h ht pa sl fi bf, oSt ht ot gt ft] H → va_D A [oBr b tx h ht pa sl fi bf, oSt ht ot gt ft] → va_S A s.heap H locs → W p l e rm_X3_waits s m args below meth c H locs 0 0 (Q_X3_waits G b tx h ht pa sl fi ot gt bf tgt below args s A) (F0 m 0 ls []) := by
    clear hP hD hS hH hL
    intro H locs hP hD hS
    unfold P_X3_waits at hq
    refine lv_iload_n hx hb dX3_waits_0 rfl (lv_at hl 1 rfl) ?_
    refine lv_iconst (v := 1) hx hb dX3_waits_1 (by decide) ?_
    refine lv_sipush (v := 200) hx hb dX3_waits_2 (by decide) ?_
    have hC := c_X3_outside l G tk 1 200
    refine k_i (ws' := [oBr b tx h ht pa sl fi bf, oSt ht ot gt ft]) (as := []) cx hP hD hS [] rfl (kr_S (n := 3) (As := [.int tk, .int 1, .int 200]) cx hC gX3_waits_X3_outside rfl rfl rfl (by decide +kernel) ⟨Nat.le_of_ble_eq_true rfl, Nat.le_of_ble_eq_true rfl⟩ hP hD [] rfl rfl rfl rfl hl (Nat.le_of_ble_eq_true rfl) dX3_waits_5 ⟨Nat.le_refl _, Nat.le_refl _⟩) ⟨rfl, rfl⟩ rfl (fun H locs hP hD hS => ?_)
    refine lv_if_eq (tgt := 13) hx hb dX3_waits_8 (by decide) (fun c_8 => ?_) (fun c_8 => ?_)
    · replace hq := (if_pos c_8).symm.trans hq
      refine lv_aload_n hx hb dX3_waits_13 rfl (lv_at hl 0 rfl) ?_
      refine k_get (v := .ref ht) (T := TX3) (C := RX3) (N := 8) cx hi_X3_waits_3 hP 0 rfl rfl 2 (by decide) (by decide +kernel) rfl dX3_waits_14 ?_
      refine lv_iload_n hx hb dX3_waits_17 rfl (lv_at hl 1 rfl) ?_
      have hC := c_X1_waitTicks l G ht ot gt ft tk
      generalize hu18 : P_X1_waitTicks ft tk = u18 at hC hq
      refine k_v (ws' := [oBr b tx h ht pa sl fi bf, oSt ht ot gt u18]) (as := [ht]) cx hP hD hS [1] rfl (kr_VN (n := 1) (As := [.int tk]) (ci := 1) cx hC gX3_waits_X1_waitTicks_n130 rfl rfl rfl nn_X3_130 (by decide +kernel) (by decide +kernel) (by decide +kernel) (by decide +kernel) ⟨Nat.le_of_ble_eq_true rfl, Nat.le_of_ble_eq_true rfl⟩ rfl rfl rfl hP hD [1] rfl rfl rfl rfl hl (Nat.le_of_ble_eq_true rfl) dX3_waits_18 ⟨Nat.le_refl _, Nat.le_refl _⟩) ⟨rfl, rfl⟩ rfl (fun H locs hP hD hS => ?_)
      refine lv_iconst (v := 1) hx hb dX3_waits_21 (by decide) ?_
      subst hq
      exact k_zret (v := 1) (w1 := [oBr b tx h ht pa sl fi bf, oSt ht ot gt u18]) cx (rfl) hP hS dX3_waits_22
    · replace hq := (if_neg c_8).symm.trans hq
      refine lv_iconst (v := 0) hx hb dX3_waits_11 (by decide) ?_
      subst hq
      exact k_zret (v := 0) (w1 := [oBr b tx h ht pa sl fi bf, oSt ht ot gt ft]) cx (rfl) hP hS dX3_waits_12
  subst hL
  subst hH
  subst hq
  exact key _ _ hP hD hS

/-! X3_changes -/
theorem hi_X3_changes_3 : ∀ w ∈ u_ws RX3 TX3 8, w ∈ wsX3_changes := by decide +kernel
abbrev rm_X3_changes : Room := { frames := 1, cells := 0, slots := 0, locals := 22 }
abbrev Q_X3_changes (G : gG) (b : Nat) (tx : Nat) (h : Nat) (ht : Nat) (pa : Nat) (sl : Nat) (fi : Nat) (ot : Nat) (gt : Nat)  (bf : Nat → Int32) (tgt : Int32 × (Nat → Int32)) (below : List Frame) (args : Array Value) (s : State) (A : Nat → Prop) : State → Prop := MQ below (qI G tgt.1 [oBr b tx h ht pa sl fi bf, oSt ht ot gt tgt.2] A) args s 0 0 A
def P_X3_changes (bf : Nat → Int32) (ft : Nat → Int32) (what : Int32) (v : Int32) : Int32 × (Nat → Int32) := (if (P_X1_mayBe what v) = 0 then (0, ft) else (let u16 := P_X1_change ft what v; (1, u16)))
set_option maxHeartbeats 4000000 in
set_option maxRecDepth 100000 in
theorem c_X3_changes (l : Launch) (G : gG) (b : Nat) (tx : Nat) (h : Nat) (ht : Nat) (pa : Nat) (sl : Nat) (fi : Nat) (ot : Nat) (gt : Nat) (bf : Nat → Int32) (ft : Nat → Int32) (what : Int32) (v : Int32)  : kM l G yX3_changes wsX3_changes rm_X3_changes [.ref b, .int what, .int v] [oBr b tx h ht pa sl fi bf, oSt ht ot gt ft] (qI G ((P_X3_changes bf ft what v).1) [oBr b tx h ht pa sl fi bf, oSt ht ot gt ((P_X3_changes bf ft what v).2)]) := by
  refine k_body (cc := cX3_changes) (nL := 3) (ret := (some .boolean)) (by decide) rfl (Nat.le_of_ble_eq_true rfl) ?_
  intro p e s m args below meth c A cx hP hD hS ls hl
  obtain ⟨hx, hb, hml, hown, hts, hr, hlocks, hK, hA⟩ := id cx
  obtain ⟨H, hH⟩ : ∃ H, H = s.heap := ⟨_, rfl⟩
  obtain ⟨locs, hL⟩ : ∃ locs : List Loc, locs = [] := ⟨_, rfl⟩
  obtain ⟨tgt, hq⟩ : ∃ tgt, (P_X3_changes bf ft what v) = tgt := ⟨_, rfl⟩
  have hS : va_S A s.heap H locs := by rw [hH, hL]; exact hS
  rw [← hH] at hP
  have hl : lv_has ls 3 [(0, .ref b), (1, .int what), (2, .int v)] := hl
  have key : ∀ (H : Heap) (locs : List Loc), va_P G.1 vwCl [oBr b tx h ht pa sl fi bf, oSt ht ot gt ft] H → va_D A [oBr b tx h ht pa sl fi bf, oSt ht ot gt ft] → va_S A s.heap H locs → W p l e rm_X3_changes s m args below meth c H locs 0 0 (Q_X3_changes G b tx h ht pa sl fi ot gt bf tgt below args s A) (F0 m 0 ls []) := by
    clear hP hD hS hH hL
    intro H locs hP hD hS
    unfold P_X3_changes at hq
    refine lv_iload_n hx hb dX3_changes_0 rfl (lv_at hl 1 rfl) ?_
    refine lv_iload_n hx hb dX3_changes_1 rfl (lv_at hl 2 rfl) ?_
    have hC := c_X1_mayBe l G what v
    refine k_i (ws' := [oBr b tx h ht pa sl fi bf, oSt ht ot gt ft]) (as := []) cx hP hD hS [] rfl (kr_SN (n := 2) (As := [.int what, .int v]) cx hC gX3_changes_X1_mayBe_n134 rfl rfl rfl nn_X3_134 (by decide +kernel) (by decide +kernel) (by decide +kernel) ⟨Nat.le_of_ble_eq_true rfl, Nat.le_of_ble_eq_true rfl⟩ hP hD [] rfl rfl rfl rfl hl (Nat.le_of_ble_eq_true rfl) dX3_changes_2 ⟨Nat.le_refl _, Nat.le_refl _⟩) ⟨rfl, rfl⟩ rfl (fun H locs hP hD hS => ?_)
    refine lv_if_ne (tgt := 10) hx hb dX3_changes_5 (by decide) (fun c_5 => ?_) (fun c_5 => ?_)
    · replace hq := (if_neg c_5).symm.trans hq
      refine lv_aload_n hx hb dX3_changes_10 rfl (lv_at hl 0 rfl) ?_
      refine k_get (v := .ref ht) (T := TX3) (C := RX3) (N := 8) cx hi_X3_changes_3 hP 0 rfl rfl 2 (by decide) (by decide +kernel) rfl dX3_changes_11 ?_
      refine lv_iload_n hx hb dX3_changes_14 rfl (lv_at hl 1 rfl) ?_
      refine lv_iload_n hx hb dX3_changes_15 rfl (lv_at hl 2 rfl) ?_
      have hC := c_X1_change l G ht ot gt ft what v
      generalize hu16 : P_X1_change ft what v = u16 at hC hq
      refine k_v (ws' := [oBr b tx h ht pa sl fi bf, oSt ht ot gt u16]) (as := [ht]) cx hP hD hS [1] rfl (kr_VN (n := 2) (As := [.int what, .int v]) (ci := 1) cx hC gX3_changes_X1_change_n140 rfl rfl rfl nn_X3_140 (by decide +kernel) (by decide +kernel) (by decide +kernel) (by decide +kernel) ⟨Nat.le_of_ble_eq_true rfl, Nat.le_of_ble_eq_true rfl⟩ rfl rfl rfl hP hD [1] rfl rfl rfl rfl hl (Nat.le_of_ble_eq_true rfl) dX3_changes_16 ⟨Nat.le_refl _, Nat.le_refl _⟩) ⟨rfl, rfl⟩ rfl (fun H locs hP hD hS => ?_)
      refine lv_iconst (v := 1) hx hb dX3_changes_19 (by decide) ?_
      subst hq
      exact k_zret (v := 1) (w1 := [oBr b tx h ht pa sl fi bf, oSt ht ot gt u16]) cx (rfl) hP hS dX3_changes_20
    · replace hq := (if_pos c_5).symm.trans hq
      refine lv_iconst (v := 0) hx hb dX3_changes_8 (by decide) ?_
      subst hq
      exact k_zret (v := 0) (w1 := [oBr b tx h ht pa sl fi bf, oSt ht ot gt ft]) cx (rfl) hP hS dX3_changes_9
  subst hL
  subst hH
  subst hq
  exact key _ _ hP hD hS

/-! X3_puts -/
theorem hi_X3_puts_1 : ∀ w ∈ u_ws RX1 TX1 16, w ∈ wsX3_puts := by decide +kernel
theorem hi_X3_puts_3 : ∀ w ∈ u_ws RX3 TX3 8, w ∈ wsX3_puts := by decide +kernel
abbrev rm_X3_puts : Room := { frames := 1, cells := 0, slots := 0, locals := 21 }
abbrev Q_X3_puts (G : gG) (b : Nat) (tx : Nat) (h : Nat) (ht : Nat) (pa : Nat) (sl : Nat) (fi : Nat) (ot : Nat) (gt : Nat)  (bf : Nat → Int32) (tgt : Int32 × (Nat → Int32)) (below : List Frame) (args : Array Value) (s : State) (A : Nat → Prop) : State → Prop := MQ below (qI G tgt.1 [oBr b tx h ht pa sl fi bf, oSt ht ot gt tgt.2] A) args s 0 0 A
def P_X3_puts (bf : Nat → Int32) (ft : Nat → Int32) (i : Int32) : Int32 × (Nat → Int32) := (if (P_X1_hasUnknown ft i) = 0 then (0, ft) else (1, (upd ft 14 i)))
set_option maxHeartbeats 4000000 in
set_option maxRecDepth 100000 in
theorem c_X3_puts (l : Launch) (G : gG) (b : Nat) (tx : Nat) (h : Nat) (ht : Nat) (pa : Nat) (sl : Nat) (fi : Nat) (ot : Nat) (gt : Nat) (bf : Nat → Int32) (ft : Nat → Int32) (i : Int32)  : kM l G yX3_puts wsX3_puts rm_X3_puts [.ref b, .int i] [oBr b tx h ht pa sl fi bf, oSt ht ot gt ft] (qI G ((P_X3_puts bf ft i).1) [oBr b tx h ht pa sl fi bf, oSt ht ot gt ((P_X3_puts bf ft i).2)]) := by
  refine k_body (cc := cX3_puts) (nL := 2) (ret := (some .boolean)) (by decide) rfl (Nat.le_of_ble_eq_true rfl) ?_
  intro p e s m args below meth c A cx hP hD hS ls hl
  obtain ⟨hx, hb, hml, hown, hts, hr, hlocks, hK, hA⟩ := id cx
  obtain ⟨H, hH⟩ : ∃ H, H = s.heap := ⟨_, rfl⟩
  obtain ⟨locs, hL⟩ : ∃ locs : List Loc, locs = [] := ⟨_, rfl⟩
  obtain ⟨tgt, hq⟩ : ∃ tgt, (P_X3_puts bf ft i) = tgt := ⟨_, rfl⟩
  have hS : va_S A s.heap H locs := by rw [hH, hL]; exact hS
  rw [← hH] at hP
  have hl : lv_has ls 2 [(0, .ref b), (1, .int i)] := hl
  have key : ∀ (H : Heap) (locs : List Loc), va_P G.1 vwCl [oBr b tx h ht pa sl fi bf, oSt ht ot gt ft] H → va_D A [oBr b tx h ht pa sl fi bf, oSt ht ot gt ft] → va_S A s.heap H locs → W p l e rm_X3_puts s m args below meth c H locs 0 0 (Q_X3_puts G b tx h ht pa sl fi ot gt bf tgt below args s A) (F0 m 0 ls []) := by
    clear hP hD hS hH hL
    intro H locs hP hD hS
    unfold P_X3_puts at hq
    refine lv_aload_n hx hb dX3_puts_0 rfl (lv_at hl 0 rfl) ?_
    refine k_get (v := .ref ht) (T := TX3) (C := RX3) (N := 8) cx hi_X3_puts_3 hP 0 rfl rfl 2 (by decide) (by decide +kernel) rfl dX3_puts_1 ?_
    refine lv_iload_n hx hb dX3_puts_4 rfl (lv_at hl 1 rfl) ?_
    have hC := c_X1_hasUnknown l G ht ot gt ft i
    refine k_i (ws' := [oBr b tx h ht pa sl fi bf, oSt ht ot gt ft]) (as := [ht]) cx hP hD hS [1] rfl (kr_VN (n := 1) (As := [.int i]) (ci := 1) cx hC gX3_puts_X1_hasUnknown_n144 rfl rfl rfl nn_X3_144 (by decide +kernel) (by decide +kernel) (by decide +kernel) (by decide +kernel) ⟨Nat.le_of_ble_eq_true rfl, Nat.le_of_ble_eq_true rfl⟩ rfl rfl rfl hP hD [1] rfl rfl rfl rfl hl (Nat.le_of_ble_eq_true rfl) dX3_puts_5 ⟨Nat.le_refl _, Nat.le_refl _⟩) ⟨rfl, rfl⟩ rfl (fun H locs hP hD hS => ?_)
    refine lv_if_ne (tgt := 13) hx hb dX3_puts_8 (by decide) (fun c_8 => ?_) (fun c_8 => ?_)
    · replace hq := (if_neg c_8).symm.trans hq
      refine lv_aload_n hx hb dX3_puts_13 rfl (lv_at hl 0 rfl) ?_
      refine k_get (v := .ref ht) (T := TX3) (C := RX3) (N := 8) cx hi_X3_puts_3 hP 0 rfl rfl 2 (by decide) (by decide +kernel) rfl dX3_puts_14 ?_
      refine lv_iload_n hx hb dX3_puts_17 rfl (lv_at hl 1 rfl) ?_
      refine k_putN (ws' := [oBr b tx h ht pa sl fi bf, oSt ht ot gt (upd ft 14 i)]) (ty := .int) (T := TX1) (C := RX1) (N := 16) (host := RX3) cx hi_X3_puts_1 tyX1_ok nmX1 hP hD hS 1 rfl rfl 14 (by decide) nn_X3_153 rfl rfl rfl rfl (Nat.le_of_ble_eq_true rfl) rfl dX3_puts_18 (fun H locs hP hD hS => ?_)
      refine lv_iconst (v := 1) hx hb dX3_puts_21 (by decide) ?_
      subst hq
      exact k_zret (v := 1) (w1 := [oBr b tx h ht pa sl fi bf, oSt ht ot gt (upd ft 14 i)]) cx (rfl) hP hS dX3_puts_22
    · replace hq := (if_pos c_8).symm.trans hq
      refine lv_iconst (v := 0) hx hb dX3_puts_11 (by decide) ?_
      subst hq
      exact k_zret (v := 0) (w1 := [oBr b tx h ht pa sl fi bf, oSt ht ot gt ft]) cx (rfl) hP hS dX3_puts_12
  subst hL
  subst hH
  subst hq
  exact key _ _ hP hD hS

/-! X3_playRound -/
theorem hi_X3_playRound_1 : ∀ w ∈ u_ws RX1 TX1 16, w ∈ wsX3_playRound := by decide +kernel
theorem hi_X3_playRound_3 : ∀ w ∈ u_ws RX3 TX3 8, w ∈ wsX3_playRound := by decide +kernel
abbrev rm_X3_playRound : Room := { frames := 4, cells := 0, slots := 0, locals := 75 }
abbrev Q_X3_playRound (G : gG) (b : Nat) (tx : Nat) (h : Nat) (ht : Nat) (pa : Nat) (sl : Nat) (fi : Nat) (ot : Nat) (gt : Nat) (kt : Nat)  (bf : Nat → Int32) (oht : Nat → Int32) (tgt : Int32 × (Nat → Int32) × (Nat → Int32) × (Nat → Int32)) (below : List Frame) (args : Array Value) (s : State) (A : Nat → Prop) : State → Prop := MQ below (qI G tgt.1 [oBr b tx h ht pa sl fi bf, oSt ht ot gt tgt.2.1, aI G ot 6 oht, oLed gt kt tgt.2.2.1, aI G kt 80 tgt.2.2.2] A) args s 0 0 A
def P_X3_playRound (bf : Nat → Int32) (ft : Nat → Int32) (oht : Nat → Int32) (lft : Nat → Int32) (cet : Nat → Int32) (rn : Int32) : Int32 × (Nat → Int32) × (Nat → Int32) × (Nat → Int32) := (if (rn - rn / 4 * 4) = 0 then (0, (upd ft 2 ((rn / 4) - (rn / 4) / 10000 * 10000)), lft, cet) else if (rn - rn / 4 * 4) = 1 then (let u51 := P_X1_waitTicks ft 1; (0, u51, lft, cet)) else (if (ft 9) = 0 then (let j91 := fun (j91_s0 : Int32) => (let u91 := P_X1_pressKey ft oht lft cet j91_s0; (u91.1, u91.2.1, u91.2.2.1, u91.2.2.2)); (if ((rn / 4) - (rn / 4) / 2 * 2) = 1 then (j91 1) else (j91 0))) else (let u70 := P_X1_loosen ft; (0, u70, lft, cet))))
set_option maxHeartbeats 4000000 in
set_option maxRecDepth 100000 in
theorem c_X3_playRound (l : Launch) (G : gG) (b : Nat) (tx : Nat) (h : Nat) (ht : Nat) (pa : Nat) (sl : Nat) (fi : Nat) (ot : Nat) (gt : Nat) (kt : Nat) (bf : Nat → Int32) (ft : Nat → Int32) (oht : Nat → Int32) (lft : Nat → Int32) (cet : Nat → Int32) (rn : Int32)  : kM l G yX3_playRound wsX3_playRound rm_X3_playRound [.ref b, .int rn] [oBr b tx h ht pa sl fi bf, oSt ht ot gt ft, aI G ot 6 oht, oLed gt kt lft, aI G kt 80 cet] (qI G ((P_X3_playRound bf ft oht lft cet rn).1) [oBr b tx h ht pa sl fi bf, oSt ht ot gt ((P_X3_playRound bf ft oht lft cet rn).2.1), aI G ot 6 oht, oLed gt kt ((P_X3_playRound bf ft oht lft cet rn).2.2.1), aI G kt 80 ((P_X3_playRound bf ft oht lft cet rn).2.2.2)]) := by
  refine k_body (cc := cX3_playRound) (nL := 3) (ret := (some .int)) (by decide) rfl (Nat.le_of_ble_eq_true rfl) ?_
  intro p e s m args below meth c A cx hP hD hS ls hl
  obtain ⟨hx, hb, hml, hown, hts, hr, hlocks, hK, hA⟩ := id cx
  obtain ⟨H, hH⟩ : ∃ H, H = s.heap := ⟨_, rfl⟩
  obtain ⟨locs, hL⟩ : ∃ locs : List Loc, locs = [] := ⟨_, rfl⟩
  obtain ⟨tgt, hq⟩ : ∃ tgt, (P_X3_playRound bf ft oht lft cet rn) = tgt := ⟨_, rfl⟩
  have hS : va_S A s.heap H locs := by rw [hH, hL]; exact hS
  rw [← hH] at hP
  have hl : lv_has ls 3 [(0, .ref b), (1, .int rn)] := hl
  have key : ∀ (H : Heap) (locs : List Loc), va_P G.1 vwCl [oBr b tx h ht pa sl fi bf, oSt ht ot gt ft, aI G ot 6 oht, oLed gt kt lft, aI G kt 80 cet] H → va_D A [oBr b tx h ht pa sl fi bf, oSt ht ot gt ft, aI G ot 6 oht, oLed gt kt lft, aI G kt 80 cet] → va_S A s.heap H locs → W p l e rm_X3_playRound s m args below meth c H locs 0 0 (Q_X3_playRound G b tx h ht pa sl fi ot gt kt bf oht tgt below args s A) (F0 m 0 ls []) := by
    clear hP hD hS hH hL
    intro H locs hP hD hS
    unfold P_X3_playRound at hq
    refine lv_iload_n hx hb dX3_playRound_0 rfl (lv_at hl 1 rfl) ?_
    refine lv_iconst (v := 4) hx hb dX3_playRound_1 (by decide) ?_
    refine lv_idiv hx hb dX3_playRound_2 (by decide) ?_
    refine lv_istore_n (lv' := [(2, .int (rn / 4)), (0, .ref b), (1, .int rn)]) hx hb dX3_playRound_3 rfl hl (by decide) rfl (fun ls hl => ?_)
    refine lv_iload_n hx hb dX3_playRound_4 rfl (lv_at hl 2 rfl) ?_
    refine lv_iconst (v := 4) hx hb dX3_playRound_5 (by decide) ?_
    refine lv_irem hx hb dX3_playRound_6 (by decide) ?_
    by_cases c_7_0 : (rn - rn / 4 * 4) = 0
    · replace hq := (if_pos c_7_0).symm.trans hq
      refine lv_lookup (tgt := 32) (off := 25) hx hb dX3_playRound_7 (by decide) (by rw [c_7_0]; decide) (by decide) ?_
      refine lv_aload_n hx hb dX3_playRound_32 rfl (lv_at hl 1 rfl) ?_
      refine k_get (v := .ref ht) (T := TX3) (C := RX3) (N := 8) cx hi_X3_playRound_3 hP 0 rfl rfl 2 (by decide) (by decide +kernel) rfl dX3_playRound_33 ?_
      refine lv_iload_n hx hb dX3_playRound_36 rfl (lv_at hl 0 rfl) ?_
      refine lv_sipush (v := 10000) hx hb dX3_playRound_37 (by decide) ?_
      refine lv_irem hx hb dX3_playRound_40 (by decide) ?_
      refine k_putN (ws' := [oBr b tx h ht pa sl fi bf, oSt ht ot gt (upd ft 2 ((rn / 4) - (rn / 4) / 10000 * 10000)), aI G ot 6 oht, oLed gt kt lft, aI G kt 80 cet]) (ty := .int) (T := TX1) (C := RX1) (N := 16) (host := RX3) cx hi_X3_playRound_1 tyX1_ok nmX1 hP hD hS 1 rfl rfl 2 (by decide) nn_X3_97 rfl rfl rfl rfl (Nat.le_of_ble_eq_true rfl) rfl dX3_playRound_41 (fun H locs hP hD hS => ?_)
      refine lv_iconst (v := 0) hx hb dX3_playRound_44 (by decide) ?_
      subst hq
      exact k_iret cx hP hS dX3_playRound_45
    replace hq := (if_neg c_7_0).symm.trans hq
    by_cases c_7_1 : (rn - rn / 4 * 4) = 1
    · replace hq := (if_pos c_7_1).symm.trans hq
      refine lv_lookup (tgt := 46) (off := 39) hx hb dX3_playRound_7 (by decide) (by rw [c_7_1]; decide) (by decide) ?_
      refine lv_aload_n hx hb dX3_playRound_46 rfl (lv_at hl 1 rfl) ?_
      refine k_get (v := .ref ht) (T := TX3) (C := RX3) (N := 8) cx hi_X3_playRound_3 hP 0 rfl rfl 2 (by decide) (by decide +kernel) rfl dX3_playRound_47 ?_
      refine lv_iconst (v := 1) hx hb dX3_playRound_50 (by decide) ?_
      have hC := c_X1_waitTicks l G ht ot gt ft 1
      generalize hu51 : P_X1_waitTicks ft 1 = u51 at hC hq
      refine k_v (ws' := [oBr b tx h ht pa sl fi bf, oSt ht ot gt u51, aI G ot 6 oht, oLed gt kt lft, aI G kt 80 cet]) (as := [ht]) cx hP hD hS [1] rfl (kr_VN (n := 1) (As := [.int 1]) (ci := 1) cx hC gX3_playRound_X1_waitTicks_n130 rfl rfl rfl nn_X3_130 (by decide +kernel) (by decide +kernel) (by decide +kernel) (by decide +kernel) ⟨Nat.le_of_ble_eq_true rfl, Nat.le_of_ble_eq_true rfl⟩ rfl rfl rfl hP hD [1] rfl rfl rfl rfl hl (Nat.le_of_ble_eq_true rfl) dX3_playRound_51 ⟨Nat.le_refl _, Nat.le_refl _⟩) ⟨rfl, rfl⟩ rfl (fun H locs hP hD hS => ?_)
      refine lv_iconst (v := 0) hx hb dX3_playRound_54 (by decide) ?_
      subst hq
      exact k_iret cx hP hS dX3_playRound_55
    replace hq := (if_neg c_7_1).symm.trans hq
    refine lv_lookup (tgt := 56) (off := 49) hx hb dX3_playRound_7 (by decide) ((lv_osw c_7_0 (by decide)).trans ((lv_osw c_7_1 (by decide)).trans (rfl))) (by decide) ?_
    refine lv_aload_n hx hb dX3_playRound_56 rfl (lv_at hl 1 rfl) ?_
    refine k_get (v := .ref ht) (T := TX3) (C := RX3) (N := 8) cx hi_X3_playRound_3 hP 0 rfl rfl 2 (by decide) (by decide +kernel) rfl dX3_playRound_57 ?_
    refine k_getN (v := .int (ft 9)) (T := TX1) (C := RX1) (N := 16) (host := RX3) cx hi_X3_playRound_1 hP 1 rfl rfl 9 (by decide) nn_X3_112 rfl dX3_playRound_60 ?_
    refine lv_if_eq (tgt := 75) hx hb dX3_playRound_63 (by decide) (fun c_63 => ?_) (fun c_63 => ?_)
    · replace hq := (if_pos c_63).symm.trans hq
      refine lv_aload_n hx hb dX3_playRound_75 rfl (lv_at hl 1 rfl) ?_
      refine k_get (v := .ref ht) (T := TX3) (C := RX3) (N := 8) cx hi_X3_playRound_3 hP 0 rfl rfl 2 (by decide) (by decide +kernel) rfl dX3_playRound_76 ?_
      refine lv_iload_n hx hb dX3_playRound_79 rfl (lv_at hl 0 rfl) ?_
      refine lv_iconst (v := 2) hx hb dX3_playRound_80 (by decide) ?_
      refine lv_irem hx hb dX3_playRound_81 (by decide) ?_
      refine lv_iconst (v := 1) hx hb dX3_playRound_82 (by decide) ?_
      have J91 : ∀ (j91_s0 : Int32), (let u91 := P_X1_pressKey ft oht lft cet j91_s0; (u91.1, u91.2.1, u91.2.2.1, u91.2.2.2)) = tgt → ∀ (H : Heap) (locs : List Loc) (ls : Array Slot), va_P G.1 vwCl [oBr b tx h ht pa sl fi bf, oSt ht ot gt ft, aI G ot 6 oht, oLed gt kt lft, aI G kt 80 cet] H → va_D A [oBr b tx h ht pa sl fi bf, oSt ht ot gt ft, aI G ot 6 oht, oLed gt kt lft, aI G kt 80 cet] → va_S A s.heap H locs → lv_has ls 3 [(0, .ref b)] → W p l e rm_X3_playRound s m args below meth c H locs 0 0 (Q_X3_playRound G b tx h ht pa sl fi ot gt kt bf oht tgt below args s A) (F0 m 91 ls [.int j91_s0, .ref ht]) := by
        intro j91_s0 hq H locs ls hP hD hS hl
        have hC := c_X1_pressKey l G ht ot gt kt ft oht lft cet j91_s0
        generalize hu91 : P_X1_pressKey ft oht lft cet j91_s0 = u91 at hC hq
        refine k_i (ws' := [oBr b tx h ht pa sl fi bf, oSt ht ot gt u91.2.1, aI G ot 6 oht, oLed gt kt u91.2.2.1, aI G kt 80 u91.2.2.2]) (as := [ht, ot, gt, kt]) cx hP hD hS [1, 2, 3, 4] rfl (kr_VN (n := 1) (As := [.int j91_s0]) (ci := 1) cx hC gX3_playRound_X1_pressKey_n121 rfl rfl rfl nn_X3_121 (by decide +kernel) (by decide +kernel) (by decide +kernel) (by decide +kernel) ⟨Nat.le_of_ble_eq_true rfl, Nat.le_of_ble_eq_true rfl⟩ rfl rfl rfl hP hD [1, 2, 3, 4] rfl rfl rfl rfl hl (Nat.le_of_ble_eq_true rfl) dX3_playRound_91 ⟨Nat.le_refl _, Nat.le_refl _⟩) ⟨rfl, rfl⟩ rfl (fun H locs hP hD hS => ?_)
        subst hq
        exact k_iret cx hP hS dX3_playRound_94
      refine lv_icmp_ne (tgt := 90) hx hb dX3_playRound_83 (by decide) (fun c_83 => ?_) (fun c_83 => ?_)
      · replace hq := (if_neg c_83).symm.trans hq
        refine lv_iconst (v := 0) hx hb dX3_playRound_90 (by decide) ?_
        exact J91 0 hq H locs ls hP hD hS (lv_sub hl [1] rfl)
      · replace hq := (if_pos c_83).symm.trans hq
        refine lv_iconst (v := 1) hx hb dX3_playRound_86 (by decide) ?_
        refine lv_goto (tgt := 91) hx hb dX3_playRound_87 (by decide) ?_
        exact J91 1 hq H locs ls hP hD hS (lv_sub hl [1] rfl)
    · replace hq := (if_neg c_63).symm.trans hq
      refine lv_aload_n hx hb dX3_playRound_66 rfl (lv_at hl 1 rfl) ?_
      refine k_get (v := .ref ht) (T := TX3) (C := RX3) (N := 8) cx hi_X3_playRound_3 hP 0 rfl rfl 2 (by decide) (by decide +kernel) rfl dX3_playRound_67 ?_
      have hC := c_X1_loosen l G ht ot gt ft
      generalize hu70 : P_X1_loosen ft = u70 at hC hq
      refine k_v (ws' := [oBr b tx h ht pa sl fi bf, oSt ht ot gt u70, aI G ot 6 oht, oLed gt kt lft, aI G kt 80 cet]) (as := [ht]) cx hP hD hS [1] rfl (kr_VN (n := 0) (As := []) (ci := 1) cx hC gX3_playRound_X1_loosen_n163 rfl rfl rfl nn_X3_163 (by decide +kernel) (by decide +kernel) (by decide +kernel) (by decide +kernel) ⟨Nat.le_of_ble_eq_true rfl, Nat.le_of_ble_eq_true rfl⟩ rfl rfl rfl hP hD [1] rfl rfl rfl rfl hl (Nat.le_of_ble_eq_true rfl) dX3_playRound_70 ⟨Nat.le_refl _, Nat.le_refl _⟩) ⟨rfl, rfl⟩ rfl (fun H locs hP hD hS => ?_)
      refine lv_iconst (v := 0) hx hb dX3_playRound_73 (by decide) ?_
      subst hq
      exact k_iret cx hP hS dX3_playRound_74
  subst hL
  subst hH
  subst hq
  exact key _ _ hP hD hS

/-! X3_succeeds -/
theorem hi_X3_succeeds_0 : ∀ w ∈ u_ws RX0 TX0 3, w ∈ wsX3_succeeds := by decide +kernel
theorem hi_X3_succeeds_1 : ∀ w ∈ u_ws RX1 TX1 16, w ∈ wsX3_succeeds := by decide +kernel
theorem hi_X3_succeeds_3 : ∀ w ∈ u_ws RX3 TX3 8, w ∈ wsX3_succeeds := by decide +kernel
abbrev rm_X3_succeeds : Room := { frames := 5, cells := 0, slots := 0, locals := 113 }
abbrev Q_X3_succeeds (G : gG) (b : Nat) (tx : Nat) (h : Nat) (ht : Nat) (pa : Nat) (sl : Nat) (fi : Nat) (ot : Nat) (gt : Nat) (kt : Nat)  (bf : Nat → Int32) (oht : Nat → Int32) (tgt : Int32 × (Nat → Int32) × (Nat → Int32) × (Nat → Int32)) (below : List Frame) (args : Array Value) (s : State) (A : Nat → Prop) : State → Prop := MQ below (qI G tgt.1 [oBr b tx h ht pa sl fi bf, oSt ht ot gt tgt.2.1, aI G ot 6 oht, oLed gt kt tgt.2.2.1, aI G kt 80 tgt.2.2.2] A) args s 0 0 A
def P_X3_succeeds (bf : Nat → Int32) (ft : Nat → Int32) (oht : Nat → Int32) (lft : Nat → Int32) (cet : Nat → Int32) (gp : Int32) : Int32 × (Nat → Int32) × (Nat → Int32) × (Nat → Int32) := (if (gp / 10000) = 1 then (if 1 < ((gp / 1000) - (gp / 1000) / 10 * 10) then (0, ft, lft, cet) else (let j100 := fun (j100_s0 : Int32) => (let u102 := P_X3_pressesOften bf ft oht lft cet j100_s0 (gp - gp / 1000 * 1000); (if u102.1 = 0 then (0, u102.2.1, u102.2.2.1, u102.2.2.2) else (1, u102.2.1, u102.2.2.1, u102.2.2.2))); (if ((gp / 1000) - (gp / 1000) / 10 * 10) = 1 then (j100 1) else (j100 0)))) else if (gp / 10000) = 2 then (if ((gp / 1000) - (gp / 1000) / 10 * 10) = 0 then (let u121 := P_X3_waits bf ft (gp - gp / 1000 * 1000); (if u121.1 = 0 then (0, u121.2, lft, cet) else (1, u121.2, lft, cet))) else (0, ft, lft, cet)) else if (gp / 10000) = 3 then (1, (upd ft 2 (gp - gp / 10000 * 10000)), lft, cet) else if (gp / 10000) = 4 then (if ((gp / 1000) - (gp / 1000) / 10 * 10) = 2 then (0, ft, lft, cet) else (if 100 ≤ (gp - gp / 1000 * 1000) then (0, ft, lft, cet) else (let u159 := P_X3_changes bf ft ((gp / 1000) - (gp / 1000) / 10 * 10) (gp - gp / 100 * 100); (if u159.1 = 0 then (0, u159.2, lft, cet) else (1, u159.2, lft, cet))))) else if (gp / 10000) = 5 then (if (gp - gp / 1000 * 1000) = 0 then (let u178 := P_X3_puts bf ft ((gp / 1000) - (gp / 1000) / 10 * 10); (if u178.1 = 0 then (0, u178.2, lft, cet) else (1, u178.2, lft, cet))) else (0, ft, lft, cet)) else if (gp / 10000) = 6 then (if (gp - gp / 10000 * 10000) = 0 then (if (ft 9) = 0 then (let u210 := P_X1_balanceBox ft oht lft cet; (1, u210.1, u210.2.1, u210.2.2)) else (0, ft, lft, cet)) else (0, ft, lft, cet)) else if (gp / 10000) = 7 then (if (ft 2) = (gp - gp / 10000 * 10000) then (1, ft, lft, cet) else (0, ft, lft, cet)) else if (gp / 10000) = 8 then (if 1 < ((gp / 1000) - (gp / 1000) / 10 * 10) then (0, ft, lft, cet) else (if (lft 1) ≤ 0 then (0, ft, lft, cet) else (let j275 := fun (j275_s0 : Int32) => (if (P_X0_cell lft cet 0 0) = j275_s0 then (1, ft, lft, cet) else (0, ft, lft, cet)); (if ((gp / 1000) - (gp / 1000) / 10 * 10) = 1 then (j275 (-(gp - gp / 1000 * 1000))) else (j275 (gp - gp / 1000 * 1000)))))) else if (gp / 10000) = 9 then (if 1 < ((gp / 1000) - (gp / 1000) / 10 * 10) then (0, ft, lft, cet) else (if 100 ≤ (gp - gp / 1000 * 1000) then (0, ft, lft, cet) else (let j316 := fun (j316_s0 : Int32) => (if j316_s0 < (P_X1_offset ft) then (0, ft, lft, cet) else (1, ft, lft, cet)); (if ((gp / 1000) - (gp / 1000) / 10 * 10) = 1 then (j316 (-(gp - gp / 100 * 100))) else (j316 (gp - gp / 100 * 100)))))) else (0, ft, lft, cet))
set_option maxHeartbeats 4000000 in
set_option maxRecDepth 100000 in
theorem c_X3_succeeds (l : Launch) (G : gG) (b : Nat) (tx : Nat) (h : Nat) (ht : Nat) (pa : Nat) (sl : Nat) (fi : Nat) (ot : Nat) (gt : Nat) (kt : Nat) (bf : Nat → Int32) (ft : Nat → Int32) (oht : Nat → Int32) (lft : Nat → Int32) (cet : Nat → Int32) (gp : Int32)  : kM l G yX3_succeeds wsX3_succeeds rm_X3_succeeds [.ref b, .int gp] [oBr b tx h ht pa sl fi bf, oSt ht ot gt ft, aI G ot 6 oht, oLed gt kt lft, aI G kt 80 cet] (qI G ((P_X3_succeeds bf ft oht lft cet gp).1) [oBr b tx h ht pa sl fi bf, oSt ht ot gt ((P_X3_succeeds bf ft oht lft cet gp).2.1), aI G ot 6 oht, oLed gt kt ((P_X3_succeeds bf ft oht lft cet gp).2.2.1), aI G kt 80 ((P_X3_succeeds bf ft oht lft cet gp).2.2.2)]) := by
  refine k_body (cc := cX3_succeeds) (nL := 6) (ret := (some .boolean)) (by decide) rfl (Nat.le_of_ble_eq_true rfl) ?_
  intro p e s m args below meth c A cx hP hD hS ls hl
  obtain ⟨hx, hb, hml, hown, hts, hr, hlocks, hK, hA⟩ := id cx
  obtain ⟨H, hH⟩ : ∃ H, H = s.heap := ⟨_, rfl⟩
  obtain ⟨locs, hL⟩ : ∃ locs : List Loc, locs = [] := ⟨_, rfl⟩
  obtain ⟨tgt, hq⟩ : ∃ tgt, (P_X3_succeeds bf ft oht lft cet gp) = tgt := ⟨_, rfl⟩
  have hS : va_S A s.heap H locs := by rw [hH, hL]; exact hS
  rw [← hH] at hP
  have hl : lv_has ls 6 [(0, .ref b), (1, .int gp)] := hl
  have key : ∀ (H : Heap) (locs : List Loc), va_P G.1 vwCl [oBr b tx h ht pa sl fi bf, oSt ht ot gt ft, aI G ot 6 oht, oLed gt kt lft, aI G kt 80 cet] H → va_D A [oBr b tx h ht pa sl fi bf, oSt ht ot gt ft, aI G ot 6 oht, oLed gt kt lft, aI G kt 80 cet] → va_S A s.heap H locs → W p l e rm_X3_succeeds s m args below meth c H locs 0 0 (Q_X3_succeeds G b tx h ht pa sl fi ot gt kt bf oht tgt below args s A) (F0 m 0 ls []) := by
    clear hP hD hS hH hL
    intro H locs hP hD hS
    unfold P_X3_succeeds at hq
    refine lv_iload_n hx hb dX3_succeeds_0 rfl (lv_at hl 1 rfl) ?_
    refine lv_sipush (v := 1000) hx hb dX3_succeeds_1 (by decide) ?_
    refine lv_idiv hx hb dX3_succeeds_4 (by decide) ?_
    refine lv_bipush (v := 10) hx hb dX3_succeeds_5 (by decide) ?_
    refine lv_irem hx hb dX3_succeeds_7 (by decide) ?_
    refine lv_istore_n (lv' := [(2, .int ((gp / 1000) - (gp / 1000) / 10 * 10)), (0, .ref b), (1, .int gp)]) hx hb dX3_succeeds_8 rfl hl (by decide) rfl (fun ls hl => ?_)
    refine lv_iload_n hx hb dX3_succeeds_9 rfl (lv_at hl 2 rfl) ?_
    refine lv_sipush (v := 10000) hx hb dX3_succeeds_10 (by decide) ?_
    refine lv_irem hx hb dX3_succeeds_13 (by decide) ?_
    refine lv_istore_n (lv' := [(3, .int (gp - gp / 10000 * 10000)), (2, .int ((gp / 1000) - (gp / 1000) / 10 * 10)), (0, .ref b), (1, .int gp)]) hx hb dX3_succeeds_14 rfl hl (by decide) rfl (fun ls hl => ?_)
    refine lv_iload_n hx hb dX3_succeeds_15 rfl (lv_at hl 3 rfl) ?_
    refine lv_sipush (v := 1000) hx hb dX3_succeeds_16 (by decide) ?_
    refine lv_irem hx hb dX3_succeeds_19 (by decide) ?_
    refine lv_istore (lv' := [(4, .int (gp - gp / 1000 * 1000)), (3, .int (gp - gp / 10000 * 10000)), (2, .int ((gp / 1000) - (gp / 1000) / 10 * 10)), (0, .ref b), (1, .int gp)]) hx hb dX3_succeeds_20 hl (by decide) rfl (fun ls hl => ?_)
    refine lv_iload_n hx hb dX3_succeeds_22 rfl (lv_at hl 4 rfl) ?_
    refine lv_bipush (v := 100) hx hb dX3_succeeds_23 (by decide) ?_
    refine lv_irem hx hb dX3_succeeds_25 (by decide) ?_
    refine lv_istore (lv' := [(5, .int (gp - gp / 100 * 100)), (4, .int (gp - gp / 1000 * 1000)), (3, .int (gp - gp / 10000 * 10000)), (2, .int ((gp / 1000) - (gp / 1000) / 10 * 10)), (0, .ref b), (1, .int gp)]) hx hb dX3_succeeds_26 hl (by decide) rfl (fun ls hl => ?_)
    refine lv_iload_n hx hb dX3_succeeds_28 rfl (lv_at hl 5 rfl) ?_
    refine lv_sipush (v := 10000) hx hb dX3_succeeds_29 (by decide) ?_
    refine lv_idiv hx hb dX3_succeeds_32 (by decide) ?_
    by_cases c_33_1 : (gp / 10000) = 1
    · replace hq := (if_pos c_33_1).symm.trans hq
      refine lv_tableIn (tgt := 84) (off := 51) hx hb dX3_succeeds_33 (sw_lo c_33_1 (by decide)) (sw_hi c_33_1 (by decide)) (sw_at c_33_1 (by decide)) (by decide) ?_
      refine lv_iload_n hx hb dX3_succeeds_84 rfl (lv_at hl 3 rfl) ?_
      refine lv_iconst (v := 1) hx hb dX3_succeeds_85 (by decide) ?_
      refine lv_icmp_gt (tgt := 112) hx hb dX3_succeeds_86 (by decide) (fun c_86 => ?_) (fun c_86 => ?_)
      · replace hq := (if_pos c_86).symm.trans hq
        refine lv_iconst (v := 0) hx hb dX3_succeeds_112 (by decide) ?_
        subst hq
        exact k_zret (v := 0) (w1 := [oBr b tx h ht pa sl fi bf, oSt ht ot gt ft, aI G ot 6 oht, oLed gt kt lft, aI G kt 80 cet]) cx (rfl) hP hS dX3_succeeds_113
      · replace hq := (if_neg c_86).symm.trans hq
        refine lv_aload_n hx hb dX3_succeeds_89 rfl (lv_at hl 4 rfl) ?_
        refine lv_iload_n hx hb dX3_succeeds_90 rfl (lv_at hl 3 rfl) ?_
        refine lv_iconst (v := 1) hx hb dX3_succeeds_91 (by decide) ?_
        have J100 : ∀ (j100_s0 : Int32), (let u102 := P_X3_pressesOften bf ft oht lft cet j100_s0 (gp - gp / 1000 * 1000); (if u102.1 = 0 then (0, u102.2.1, u102.2.2.1, u102.2.2.2) else (1, u102.2.1, u102.2.2.1, u102.2.2.2))) = tgt → ∀ (H : Heap) (locs : List Loc) (ls : Array Slot), va_P G.1 vwCl [oBr b tx h ht pa sl fi bf, oSt ht ot gt ft, aI G ot 6 oht, oLed gt kt lft, aI G kt 80 cet] H → va_D A [oBr b tx h ht pa sl fi bf, oSt ht ot gt ft, aI G ot 6 oht, oLed gt kt lft, aI G kt 80 cet] → va_S A s.heap H locs → lv_has ls 6 [(0, .ref b), (4, .int (gp - gp / 1000 * 1000))] → W p l e rm_X3_succeeds s m args below meth c H locs 0 0 (Q_X3_succeeds G b tx h ht pa sl fi ot gt kt bf oht tgt below args s A) (F0 m 100 ls [.int j100_s0, .ref b]) := by
          intro j100_s0 hq H locs ls hP hD hS hl
          refine lv_iload hx hb dX3_succeeds_100 (lv_at hl 1 rfl) ?_
          have hC := c_X3_pressesOften l G b tx h ht pa sl fi ot gt kt bf ft oht lft cet j100_s0 (gp - gp / 1000 * 1000)
          generalize hu102 : P_X3_pressesOften bf ft oht lft cet j100_s0 (gp - gp / 1000 * 1000) = u102 at hC hq
          refine k_i (ws' := [oBr b tx h ht pa sl fi bf, oSt ht ot gt u102.2.1, aI G ot 6 oht, oLed gt kt u102.2.2.1, aI G kt 80 u102.2.2.2]) (as := [b, ht, ot, gt, kt]) cx hP hD hS [0, 1, 2, 3, 4] rfl (kr_V (n := 2) (As := [.int j100_s0, .int (gp - gp / 1000 * 1000)]) (ci := 3) cx hC gX3_succeeds_X3_pressesOften rfl rfl rfl (by decide +kernel) ⟨Nat.le_of_ble_eq_true rfl, Nat.le_of_ble_eq_true rfl⟩ rfl rfl rfl hP hD [0, 1, 2, 3, 4] rfl rfl rfl rfl hl (Nat.le_of_ble_eq_true rfl) dX3_succeeds_102 ⟨Nat.le_refl _, Nat.le_refl _⟩) ⟨rfl, rfl⟩ rfl (fun H locs hP hD hS => ?_)
          refine lv_if_eq (tgt := 112) hx hb dX3_succeeds_105 (by decide) (fun c_105 => ?_) (fun c_105 => ?_)
          · replace hq := (if_pos c_105).symm.trans hq
            refine lv_iconst (v := 0) hx hb dX3_succeeds_112 (by decide) ?_
            subst hq
            exact k_zret (v := 0) (w1 := [oBr b tx h ht pa sl fi bf, oSt ht ot gt u102.2.1, aI G ot 6 oht, oLed gt kt u102.2.2.1, aI G kt 80 u102.2.2.2]) cx (rfl) hP hS dX3_succeeds_113
          · replace hq := (if_neg c_105).symm.trans hq
            refine lv_iconst (v := 1) hx hb dX3_succeeds_108 (by decide) ?_
            refine lv_goto (tgt := 113) hx hb dX3_succeeds_109 (by decide) ?_
            subst hq
            exact k_zret (v := 1) (w1 := [oBr b tx h ht pa sl fi bf, oSt ht ot gt u102.2.1, aI G ot 6 oht, oLed gt kt u102.2.2.1, aI G kt 80 u102.2.2.2]) cx (rfl) hP hS dX3_succeeds_113
        refine lv_icmp_ne (tgt := 99) hx hb dX3_succeeds_92 (by decide) (fun c_92 => ?_) (fun c_92 => ?_)
        · replace hq := (if_neg c_92).symm.trans hq
          refine lv_iconst (v := 0) hx hb dX3_succeeds_99 (by decide) ?_
          exact J100 0 hq H locs ls hP hD hS (lv_sub hl [4, 1] rfl)
        · replace hq := (if_pos c_92).symm.trans hq
          refine lv_iconst (v := 1) hx hb dX3_succeeds_95 (by decide) ?_
          refine lv_goto (tgt := 100) hx hb dX3_succeeds_96 (by decide) ?_
          exact J100 1 hq H locs ls hP hD hS (lv_sub hl [4, 1] rfl)
    replace hq := (if_neg c_33_1).symm.trans hq
    by_cases c_33_2 : (gp / 10000) = 2
    · replace hq := (if_pos c_33_2).symm.trans hq
      refine lv_tableIn (tgt := 114) (off := 81) hx hb dX3_succeeds_33 (sw_lo c_33_2 (by decide)) (sw_hi c_33_2 (by decide)) (sw_at c_33_2 (by decide)) (by decide) ?_
      refine lv_iload_n hx hb dX3_succeeds_114 rfl (lv_at hl 3 rfl) ?_
      refine lv_if_ne (tgt := 131) hx hb dX3_succeeds_115 (by decide) (fun c_115 => ?_) (fun c_115 => ?_)
      · replace hq := (if_neg c_115).symm.trans hq
        refine lv_iconst (v := 0) hx hb dX3_succeeds_131 (by decide) ?_
        subst hq
        exact k_zret (v := 0) (w1 := [oBr b tx h ht pa sl fi bf, oSt ht ot gt ft, aI G ot 6 oht, oLed gt kt lft, aI G kt 80 cet]) cx (rfl) hP hS dX3_succeeds_132
      · replace hq := (if_pos c_115).symm.trans hq
        refine lv_aload_n hx hb dX3_succeeds_118 rfl (lv_at hl 4 rfl) ?_
        refine lv_iload hx hb dX3_succeeds_119 (lv_at hl 1 rfl) ?_
        have hC := c_X3_waits l G b tx h ht pa sl fi ot gt bf ft (gp - gp / 1000 * 1000)
        generalize hu121 : P_X3_waits bf ft (gp - gp / 1000 * 1000) = u121 at hC hq
        refine k_i (ws' := [oBr b tx h ht pa sl fi bf, oSt ht ot gt u121.2, aI G ot 6 oht, oLed gt kt lft, aI G kt 80 cet]) (as := [b, ht]) cx hP hD hS [0, 1] rfl (kr_V (n := 1) (As := [.int (gp - gp / 1000 * 1000)]) (ci := 3) cx hC gX3_succeeds_X3_waits rfl rfl rfl (by decide +kernel) ⟨Nat.le_of_ble_eq_true rfl, Nat.le_of_ble_eq_true rfl⟩ rfl rfl rfl hP hD [0, 1] rfl rfl rfl rfl hl (Nat.le_of_ble_eq_true rfl) dX3_succeeds_121 ⟨Nat.le_refl _, Nat.le_refl _⟩) ⟨rfl, rfl⟩ rfl (fun H locs hP hD hS => ?_)
        refine lv_if_eq (tgt := 131) hx hb dX3_succeeds_124 (by decide) (fun c_124 => ?_) (fun c_124 => ?_)
        · replace hq := (if_pos c_124).symm.trans hq
          refine lv_iconst (v := 0) hx hb dX3_succeeds_131 (by decide) ?_
          subst hq
          exact k_zret (v := 0) (w1 := [oBr b tx h ht pa sl fi bf, oSt ht ot gt u121.2, aI G ot 6 oht, oLed gt kt lft, aI G kt 80 cet]) cx (rfl) hP hS dX3_succeeds_132
        · replace hq := (if_neg c_124).symm.trans hq
          refine lv_iconst (v := 1) hx hb dX3_succeeds_127 (by decide) ?_
          refine lv_goto (tgt := 132) hx hb dX3_succeeds_128 (by decide) ?_
          subst hq
          exact k_zret (v := 1) (w1 := [oBr b tx h ht pa sl fi bf, oSt ht ot gt u121.2, aI G ot 6 oht, oLed gt kt lft, aI G kt 80 cet]) cx (rfl) hP hS dX3_succeeds_132
    replace hq := (if_neg c_33_2).symm.trans hq
    by_cases c_33_3 : (gp / 10000) = 3
    · replace hq := (if_pos c_33_3).symm.trans hq
      refine lv_tableIn (tgt := 133) (off := 100) hx hb dX3_succeeds_33 (sw_lo c_33_3 (by decide)) (sw_hi c_33_3 (by decide)) (sw_at c_33_3 (by decide)) (by decide) ?_
      refine lv_aload_n hx hb dX3_succeeds_133 rfl (lv_at hl 4 rfl) ?_
      refine k_get (v := .ref ht) (T := TX3) (C := RX3) (N := 8) cx hi_X3_succeeds_3 hP 0 rfl rfl 2 (by decide) (by decide +kernel) rfl dX3_succeeds_134 ?_
      refine lv_iload_n hx hb dX3_succeeds_137 rfl (lv_at hl 2 rfl) ?_
      refine k_putN (ws' := [oBr b tx h ht pa sl fi bf, oSt ht ot gt (upd ft 2 (gp - gp / 10000 * 10000)), aI G ot 6 oht, oLed gt kt lft, aI G kt 80 cet]) (ty := .int) (T := TX1) (C := RX1) (N := 16) (host := RX3) cx hi_X3_succeeds_1 tyX1_ok nmX1 hP hD hS 1 rfl rfl 2 (by decide) nn_X3_97 rfl rfl rfl rfl (Nat.le_of_ble_eq_true rfl) rfl dX3_succeeds_138 (fun H locs hP hD hS => ?_)
      refine lv_iconst (v := 1) hx hb dX3_succeeds_141 (by decide) ?_
      subst hq
      exact k_zret (v := 1) (w1 := [oBr b tx h ht pa sl fi bf, oSt ht ot gt (upd ft 2 (gp - gp / 10000 * 10000)), aI G ot 6 oht, oLed gt kt lft, aI G kt 80 cet]) cx (rfl) hP hS dX3_succeeds_142
    replace hq := (if_neg c_33_3).symm.trans hq
    by_cases c_33_4 : (gp / 10000) = 4
    · replace hq := (if_pos c_33_4).symm.trans hq
      refine lv_tableIn (tgt := 143) (off := 110) hx hb dX3_succeeds_33 (sw_lo c_33_4 (by decide)) (sw_hi c_33_4 (by decide)) (sw_at c_33_4 (by decide)) (by decide) ?_
      refine lv_iload_n hx hb dX3_succeeds_143 rfl (lv_at hl 3 rfl) ?_
      refine lv_iconst (v := 2) hx hb dX3_succeeds_144 (by decide) ?_
      refine lv_icmp_eq (tgt := 169) hx hb dX3_succeeds_145 (by decide) (fun c_145 => ?_) (fun c_145 => ?_)
      · replace hq := (if_pos c_145).symm.trans hq
        refine lv_iconst (v := 0) hx hb dX3_succeeds_169 (by decide) ?_
        subst hq
        exact k_zret (v := 0) (w1 := [oBr b tx h ht pa sl fi bf, oSt ht ot gt ft, aI G ot 6 oht, oLed gt kt lft, aI G kt 80 cet]) cx (rfl) hP hS dX3_succeeds_170
      · replace hq := (if_neg c_145).symm.trans hq
        refine lv_iload hx hb dX3_succeeds_148 (lv_at hl 1 rfl) ?_
        refine lv_bipush (v := 100) hx hb dX3_succeeds_150 (by decide) ?_
        refine lv_icmp_ge (tgt := 169) hx hb dX3_succeeds_152 (by decide) (fun c_152 => ?_) (fun c_152 => ?_)
        · replace hq := (if_pos c_152).symm.trans hq
          refine lv_iconst (v := 0) hx hb dX3_succeeds_169 (by decide) ?_
          subst hq
          exact k_zret (v := 0) (w1 := [oBr b tx h ht pa sl fi bf, oSt ht ot gt ft, aI G ot 6 oht, oLed gt kt lft, aI G kt 80 cet]) cx (rfl) hP hS dX3_succeeds_170
        · replace hq := (if_neg c_152).symm.trans hq
          refine lv_aload_n hx hb dX3_succeeds_155 rfl (lv_at hl 4 rfl) ?_
          refine lv_iload_n hx hb dX3_succeeds_156 rfl (lv_at hl 3 rfl) ?_
          refine lv_iload hx hb dX3_succeeds_157 (lv_at hl 0 rfl) ?_
          have hC := c_X3_changes l G b tx h ht pa sl fi ot gt bf ft ((gp / 1000) - (gp / 1000) / 10 * 10) (gp - gp / 100 * 100)
          generalize hu159 : P_X3_changes bf ft ((gp / 1000) - (gp / 1000) / 10 * 10) (gp - gp / 100 * 100) = u159 at hC hq
          refine k_i (ws' := [oBr b tx h ht pa sl fi bf, oSt ht ot gt u159.2, aI G ot 6 oht, oLed gt kt lft, aI G kt 80 cet]) (as := [b, ht]) cx hP hD hS [0, 1] rfl (kr_V (n := 2) (As := [.int ((gp / 1000) - (gp / 1000) / 10 * 10), .int (gp - gp / 100 * 100)]) (ci := 3) cx hC gX3_succeeds_X3_changes rfl rfl rfl (by decide +kernel) ⟨Nat.le_of_ble_eq_true rfl, Nat.le_of_ble_eq_true rfl⟩ rfl rfl rfl hP hD [0, 1] rfl rfl rfl rfl hl (Nat.le_of_ble_eq_true rfl) dX3_succeeds_159 ⟨Nat.le_refl _, Nat.le_refl _⟩) ⟨rfl, rfl⟩ rfl (fun H locs hP hD hS => ?_)
          refine lv_if_eq (tgt := 169) hx hb dX3_succeeds_162 (by decide) (fun c_162 => ?_) (fun c_162 => ?_)
          · replace hq := (if_pos c_162).symm.trans hq
            refine lv_iconst (v := 0) hx hb dX3_succeeds_169 (by decide) ?_
            subst hq
            exact k_zret (v := 0) (w1 := [oBr b tx h ht pa sl fi bf, oSt ht ot gt u159.2, aI G ot 6 oht, oLed gt kt lft, aI G kt 80 cet]) cx (rfl) hP hS dX3_succeeds_170
          · replace hq := (if_neg c_162).symm.trans hq
            refine lv_iconst (v := 1) hx hb dX3_succeeds_165 (by decide) ?_
            refine lv_goto (tgt := 170) hx hb dX3_succeeds_166 (by decide) ?_
            subst hq
            exact k_zret (v := 1) (w1 := [oBr b tx h ht pa sl fi bf, oSt ht ot gt u159.2, aI G ot 6 oht, oLed gt kt lft, aI G kt 80 cet]) cx (rfl) hP hS dX3_succeeds_170
    replace hq := (if_neg c_33_4).symm.trans hq
    by_cases c_33_5 : (gp / 10000) = 5
    · replace hq := (if_pos c_33_5).symm.trans hq
      refine lv_tableIn (tgt := 171) (off := 138) hx hb dX3_succeeds_33 (sw_lo c_33_5 (by decide)) (sw_hi c_33_5 (by decide)) (sw_at c_33_5 (by decide)) (by decide) ?_
      refine lv_iload hx hb dX3_succeeds_171 (lv_at hl 1 rfl) ?_
      refine lv_if_ne (tgt := 188) hx hb dX3_succeeds_173 (by decide) (fun c_173 => ?_) (fun c_173 => ?_)
      · replace hq := (if_neg c_173).symm.trans hq
        refine lv_iconst (v := 0) hx hb dX3_succeeds_188 (by decide) ?_
        subst hq
        exact k_zret (v := 0) (w1 := [oBr b tx h ht pa sl fi bf, oSt ht ot gt ft, aI G ot 6 oht, oLed gt kt lft, aI G kt 80 cet]) cx (rfl) hP hS dX3_succeeds_189
      · replace hq := (if_pos c_173).symm.trans hq
        refine lv_aload_n hx hb dX3_succeeds_176 rfl (lv_at hl 4 rfl) ?_
        refine lv_iload_n hx hb dX3_succeeds_177 rfl (lv_at hl 3 rfl) ?_
        have hC := c_X3_puts l G b tx h ht pa sl fi ot gt bf ft ((gp / 1000) - (gp / 1000) / 10 * 10)
        generalize hu178 : P_X3_puts bf ft ((gp / 1000) - (gp / 1000) / 10 * 10) = u178 at hC hq
        refine k_i (ws' := [oBr b tx h ht pa sl fi bf, oSt ht ot gt u178.2, aI G ot 6 oht, oLed gt kt lft, aI G kt 80 cet]) (as := [b, ht]) cx hP hD hS [0, 1] rfl (kr_V (n := 1) (As := [.int ((gp / 1000) - (gp / 1000) / 10 * 10)]) (ci := 3) cx hC gX3_succeeds_X3_puts rfl rfl rfl (by decide +kernel) ⟨Nat.le_of_ble_eq_true rfl, Nat.le_of_ble_eq_true rfl⟩ rfl rfl rfl hP hD [0, 1] rfl rfl rfl rfl hl (Nat.le_of_ble_eq_true rfl) dX3_succeeds_178 ⟨Nat.le_refl _, Nat.le_refl _⟩) ⟨rfl, rfl⟩ rfl (fun H locs hP hD hS => ?_)
        refine lv_if_eq (tgt := 188) hx hb dX3_succeeds_181 (by decide) (fun c_181 => ?_) (fun c_181 => ?_)
        · replace hq := (if_pos c_181).symm.trans hq
          refine lv_iconst (v := 0) hx hb dX3_succeeds_188 (by decide) ?_
          subst hq
          exact k_zret (v := 0) (w1 := [oBr b tx h ht pa sl fi bf, oSt ht ot gt u178.2, aI G ot 6 oht, oLed gt kt lft, aI G kt 80 cet]) cx (rfl) hP hS dX3_succeeds_189
        · replace hq := (if_neg c_181).symm.trans hq
          refine lv_iconst (v := 1) hx hb dX3_succeeds_184 (by decide) ?_
          refine lv_goto (tgt := 189) hx hb dX3_succeeds_185 (by decide) ?_
          subst hq
          exact k_zret (v := 1) (w1 := [oBr b tx h ht pa sl fi bf, oSt ht ot gt u178.2, aI G ot 6 oht, oLed gt kt lft, aI G kt 80 cet]) cx (rfl) hP hS dX3_succeeds_189
    replace hq := (if_neg c_33_5).symm.trans hq
    by_cases c_33_6 : (gp / 10000) = 6
    · replace hq := (if_pos c_33_6).symm.trans hq
      refine lv_tableIn (tgt := 190) (off := 157) hx hb dX3_succeeds_33 (sw_lo c_33_6 (by decide)) (sw_hi c_33_6 (by decide)) (sw_at c_33_6 (by decide)) (by decide) ?_
      refine lv_iload_n hx hb dX3_succeeds_190 rfl (lv_at hl 2 rfl) ?_
      refine lv_if_ne (tgt := 204) hx hb dX3_succeeds_191 (by decide) (fun c_191 => ?_) (fun c_191 => ?_)
      · replace hq := (if_neg c_191).symm.trans hq
        refine lv_iconst (v := 0) hx hb dX3_succeeds_204 (by decide) ?_
        subst hq
        exact k_zret (v := 0) (w1 := [oBr b tx h ht pa sl fi bf, oSt ht ot gt ft, aI G ot 6 oht, oLed gt kt lft, aI G kt 80 cet]) cx (rfl) hP hS dX3_succeeds_205
      · replace hq := (if_pos c_191).symm.trans hq
        refine lv_aload_n hx hb dX3_succeeds_194 rfl (lv_at hl 4 rfl) ?_
        refine k_get (v := .ref ht) (T := TX3) (C := RX3) (N := 8) cx hi_X3_succeeds_3 hP 0 rfl rfl 2 (by decide) (by decide +kernel) rfl dX3_succeeds_195 ?_
        refine k_getN (v := .int (ft 9)) (T := TX1) (C := RX1) (N := 16) (host := RX3) cx hi_X3_succeeds_1 hP 1 rfl rfl 9 (by decide) nn_X3_112 rfl dX3_succeeds_198 ?_
        refine lv_if_eq (tgt := 206) hx hb dX3_succeeds_201 (by decide) (fun c_201 => ?_) (fun c_201 => ?_)
        · replace hq := (if_pos c_201).symm.trans hq
          refine lv_aload_n hx hb dX3_succeeds_206 rfl (lv_at hl 4 rfl) ?_
          refine k_get (v := .ref ht) (T := TX3) (C := RX3) (N := 8) cx hi_X3_succeeds_3 hP 0 rfl rfl 2 (by decide) (by decide +kernel) rfl dX3_succeeds_207 ?_
          have hC := c_X1_balanceBox l G ht ot gt kt ft oht lft cet
          generalize hu210 : P_X1_balanceBox ft oht lft cet = u210 at hC hq
          refine k_v (ws' := [oBr b tx h ht pa sl fi bf, oSt ht ot gt u210.1, aI G ot 6 oht, oLed gt kt u210.2.1, aI G kt 80 u210.2.2]) (as := [ht, ot, gt, kt]) cx hP hD hS [1, 2, 3, 4] rfl (kr_VN (n := 0) (As := []) (ci := 1) cx hC gX3_succeeds_X1_balanceBox_n166 rfl rfl rfl nn_X3_166 (by decide +kernel) (by decide +kernel) (by decide +kernel) (by decide +kernel) ⟨Nat.le_of_ble_eq_true rfl, Nat.le_of_ble_eq_true rfl⟩ rfl rfl rfl hP hD [1, 2, 3, 4] rfl rfl rfl rfl hl (Nat.le_of_ble_eq_true rfl) dX3_succeeds_210 ⟨Nat.le_refl _, Nat.le_refl _⟩) ⟨rfl, rfl⟩ rfl (fun H locs hP hD hS => ?_)
          refine lv_iconst (v := 1) hx hb dX3_succeeds_213 (by decide) ?_
          subst hq
          exact k_zret (v := 1) (w1 := [oBr b tx h ht pa sl fi bf, oSt ht ot gt u210.1, aI G ot 6 oht, oLed gt kt u210.2.1, aI G kt 80 u210.2.2]) cx (rfl) hP hS dX3_succeeds_214
        · replace hq := (if_neg c_201).symm.trans hq
          refine lv_iconst (v := 0) hx hb dX3_succeeds_204 (by decide) ?_
          subst hq
          exact k_zret (v := 0) (w1 := [oBr b tx h ht pa sl fi bf, oSt ht ot gt ft, aI G ot 6 oht, oLed gt kt lft, aI G kt 80 cet]) cx (rfl) hP hS dX3_succeeds_205
    replace hq := (if_neg c_33_6).symm.trans hq
    by_cases c_33_7 : (gp / 10000) = 7
    · replace hq := (if_pos c_33_7).symm.trans hq
      refine lv_tableIn (tgt := 215) (off := 182) hx hb dX3_succeeds_33 (sw_lo c_33_7 (by decide)) (sw_hi c_33_7 (by decide)) (sw_at c_33_7 (by decide)) (by decide) ?_
      refine lv_aload_n hx hb dX3_succeeds_215 rfl (lv_at hl 4 rfl) ?_
      refine k_get (v := .ref ht) (T := TX3) (C := RX3) (N := 8) cx hi_X3_succeeds_3 hP 0 rfl rfl 2 (by decide) (by decide +kernel) rfl dX3_succeeds_216 ?_
      refine k_getN (v := .int (ft 2)) (T := TX1) (C := RX1) (N := 16) (host := RX3) cx hi_X3_succeeds_1 hP 1 rfl rfl 2 (by decide) nn_X3_97 rfl dX3_succeeds_219 ?_
      refine lv_iload_n hx hb dX3_succeeds_222 rfl (lv_at hl 2 rfl) ?_
      refine lv_icmp_ne (tgt := 230) hx hb dX3_succeeds_223 (by decide) (fun c_223 => ?_) (fun c_223 => ?_)
      · replace hq := (if_neg c_223).symm.trans hq
        refine lv_iconst (v := 0) hx hb dX3_succeeds_230 (by decide) ?_
        subst hq
        exact k_zret (v := 0) (w1 := [oBr b tx h ht pa sl fi bf, oSt ht ot gt ft, aI G ot 6 oht, oLed gt kt lft, aI G kt 80 cet]) cx (rfl) hP hS dX3_succeeds_231
      · replace hq := (if_pos c_223).symm.trans hq
        refine lv_iconst (v := 1) hx hb dX3_succeeds_226 (by decide) ?_
        refine lv_goto (tgt := 231) hx hb dX3_succeeds_227 (by decide) ?_
        subst hq
        exact k_zret (v := 1) (w1 := [oBr b tx h ht pa sl fi bf, oSt ht ot gt ft, aI G ot 6 oht, oLed gt kt lft, aI G kt 80 cet]) cx (rfl) hP hS dX3_succeeds_231
    replace hq := (if_neg c_33_7).symm.trans hq
    by_cases c_33_8 : (gp / 10000) = 8
    · replace hq := (if_pos c_33_8).symm.trans hq
      refine lv_tableIn (tgt := 232) (off := 199) hx hb dX3_succeeds_33 (sw_lo c_33_8 (by decide)) (sw_hi c_33_8 (by decide)) (sw_at c_33_8 (by decide)) (by decide) ?_
      refine lv_iload_n hx hb dX3_succeeds_232 rfl (lv_at hl 3 rfl) ?_
      refine lv_iconst (v := 1) hx hb dX3_succeeds_233 (by decide) ?_
      refine lv_icmp_gt (tgt := 282) hx hb dX3_succeeds_234 (by decide) (fun c_234 => ?_) (fun c_234 => ?_)
      · replace hq := (if_pos c_234).symm.trans hq
        refine lv_iconst (v := 0) hx hb dX3_succeeds_282 (by decide) ?_
        subst hq
        exact k_zret (v := 0) (w1 := [oBr b tx h ht pa sl fi bf, oSt ht ot gt ft, aI G ot 6 oht, oLed gt kt lft, aI G kt 80 cet]) cx (rfl) hP hS dX3_succeeds_283
      · replace hq := (if_neg c_234).symm.trans hq
        refine lv_aload_n hx hb dX3_succeeds_237 rfl (lv_at hl 4 rfl) ?_
        refine k_get (v := .ref ht) (T := TX3) (C := RX3) (N := 8) cx hi_X3_succeeds_3 hP 0 rfl rfl 2 (by decide) (by decide +kernel) rfl dX3_succeeds_238 ?_
        refine k_getN (v := .ref gt) (T := TX1) (C := RX1) (N := 16) (host := RX3) cx hi_X3_succeeds_1 hP 1 rfl rfl 15 (by decide) nn_X3_87 rfl dX3_succeeds_241 ?_
        refine k_getN (v := .int (lft 1)) (T := TX0) (C := RX0) (N := 3) (host := RX3) cx hi_X3_succeeds_0 hP 3 rfl rfl 1 (by decide) nn_X3_283 rfl dX3_succeeds_244 ?_
        refine lv_if_le (tgt := 282) hx hb dX3_succeeds_247 (by decide) (fun c_247 => ?_) (fun c_247 => ?_)
        · replace hq := (if_pos c_247).symm.trans hq
          refine lv_iconst (v := 0) hx hb dX3_succeeds_282 (by decide) ?_
          subst hq
          exact k_zret (v := 0) (w1 := [oBr b tx h ht pa sl fi bf, oSt ht ot gt ft, aI G ot 6 oht, oLed gt kt lft, aI G kt 80 cet]) cx (rfl) hP hS dX3_succeeds_283
        · replace hq := (if_neg c_247).symm.trans hq
          refine lv_aload_n hx hb dX3_succeeds_250 rfl (lv_at hl 4 rfl) ?_
          refine k_get (v := .ref ht) (T := TX3) (C := RX3) (N := 8) cx hi_X3_succeeds_3 hP 0 rfl rfl 2 (by decide) (by decide +kernel) rfl dX3_succeeds_251 ?_
          refine k_getN (v := .ref gt) (T := TX1) (C := RX1) (N := 16) (host := RX3) cx hi_X3_succeeds_1 hP 1 rfl rfl 15 (by decide) nn_X3_87 rfl dX3_succeeds_254 ?_
          refine lv_iconst (v := 0) hx hb dX3_succeeds_257 (by decide) ?_
          refine lv_iconst (v := 0) hx hb dX3_succeeds_258 (by decide) ?_
          have hC := c_X0_cell l G gt kt lft cet 0 0
          refine k_i (ws' := [oBr b tx h ht pa sl fi bf, oSt ht ot gt ft, aI G ot 6 oht, oLed gt kt lft, aI G kt 80 cet]) (as := [gt, kt]) cx hP hD hS [3, 4] rfl (kr_VN (n := 2) (As := [.int 0, .int 0]) (ci := 0) cx hC gX3_succeeds_X0_cell_n91 rfl rfl rfl nn_X3_91 (by decide +kernel) (by decide +kernel) (by decide +kernel) (by decide +kernel) ⟨Nat.le_of_ble_eq_true rfl, Nat.le_of_ble_eq_true rfl⟩ rfl rfl rfl hP hD [3, 4] rfl rfl rfl rfl hl (Nat.le_of_ble_eq_true rfl) dX3_succeeds_259 ⟨Nat.le_refl _, Nat.le_refl _⟩) ⟨rfl, rfl⟩ rfl (fun H locs hP hD hS => ?_)
          refine lv_iload_n hx hb dX3_succeeds_262 rfl (lv_at hl 3 rfl) ?_
          refine lv_iconst (v := 1) hx hb dX3_succeeds_263 (by decide) ?_
          have J275 : ∀ (j275_s0 : Int32), (if (P_X0_cell lft cet 0 0) = j275_s0 then (1, ft, lft, cet) else (0, ft, lft, cet)) = tgt → ∀ (H : Heap) (locs : List Loc) (ls : Array Slot), va_P G.1 vwCl [oBr b tx h ht pa sl fi bf, oSt ht ot gt ft, aI G ot 6 oht, oLed gt kt lft, aI G kt 80 cet] H → va_D A [oBr b tx h ht pa sl fi bf, oSt ht ot gt ft, aI G ot 6 oht, oLed gt kt lft, aI G kt 80 cet] → va_S A s.heap H locs → lv_has ls 6 [(0, .ref b)] → W p l e rm_X3_succeeds s m args below meth c H locs 0 0 (Q_X3_succeeds G b tx h ht pa sl fi ot gt kt bf oht tgt below args s A) (F0 m 275 ls [.int j275_s0, .int (P_X0_cell lft cet 0 0)]) := by
            intro j275_s0 hq H locs ls hP hD hS hl
            refine lv_icmp_ne (tgt := 282) hx hb dX3_succeeds_275 (by decide) (fun c_275 => ?_) (fun c_275 => ?_)
            · replace hq := (if_neg c_275).symm.trans hq
              refine lv_iconst (v := 0) hx hb dX3_succeeds_282 (by decide) ?_
              subst hq
              exact k_zret (v := 0) (w1 := [oBr b tx h ht pa sl fi bf, oSt ht ot gt ft, aI G ot 6 oht, oLed gt kt lft, aI G kt 80 cet]) cx (rfl) hP hS dX3_succeeds_283
            · replace hq := (if_pos c_275).symm.trans hq
              refine lv_iconst (v := 1) hx hb dX3_succeeds_278 (by decide) ?_
              refine lv_goto (tgt := 283) hx hb dX3_succeeds_279 (by decide) ?_
              subst hq
              exact k_zret (v := 1) (w1 := [oBr b tx h ht pa sl fi bf, oSt ht ot gt ft, aI G ot 6 oht, oLed gt kt lft, aI G kt 80 cet]) cx (rfl) hP hS dX3_succeeds_283
          refine lv_icmp_ne (tgt := 273) hx hb dX3_succeeds_264 (by decide) (fun c_264 => ?_) (fun c_264 => ?_)
          · replace hq := (if_neg c_264).symm.trans hq
            refine lv_iload hx hb dX3_succeeds_273 (lv_at hl 1 rfl) ?_
            exact J275 (gp - gp / 1000 * 1000) hq H locs ls hP hD hS (lv_sub hl [4] rfl)
          · replace hq := (if_pos c_264).symm.trans hq
            refine lv_iload hx hb dX3_succeeds_267 (lv_at hl 1 rfl) ?_
            refine lv_ineg hx hb dX3_succeeds_269 ?_
            refine lv_goto (tgt := 275) hx hb dX3_succeeds_270 (by decide) ?_
            exact J275 (-(gp - gp / 1000 * 1000)) hq H locs ls hP hD hS (lv_sub hl [4] rfl)
    replace hq := (if_neg c_33_8).symm.trans hq
    by_cases c_33_9 : (gp / 10000) = 9
    · replace hq := (if_pos c_33_9).symm.trans hq
      refine lv_tableIn (tgt := 284) (off := 251) hx hb dX3_succeeds_33 (sw_lo c_33_9 (by decide)) (sw_hi c_33_9 (by decide)) (sw_at c_33_9 (by decide)) (by decide) ?_
      refine lv_iload_n hx hb dX3_succeeds_284 rfl (lv_at hl 3 rfl) ?_
      refine lv_iconst (v := 1) hx hb dX3_succeeds_285 (by decide) ?_
      refine lv_icmp_gt (tgt := 323) hx hb dX3_succeeds_286 (by decide) (fun c_286 => ?_) (fun c_286 => ?_)
      · replace hq := (if_pos c_286).symm.trans hq
        refine lv_iconst (v := 0) hx hb dX3_succeeds_323 (by decide) ?_
        subst hq
        exact k_zret (v := 0) (w1 := [oBr b tx h ht pa sl fi bf, oSt ht ot gt ft, aI G ot 6 oht, oLed gt kt lft, aI G kt 80 cet]) cx (rfl) hP hS dX3_succeeds_324
      · replace hq := (if_neg c_286).symm.trans hq
        refine lv_iload hx hb dX3_succeeds_289 (lv_at hl 1 rfl) ?_
        refine lv_bipush (v := 100) hx hb dX3_succeeds_291 (by decide) ?_
        refine lv_icmp_ge (tgt := 323) hx hb dX3_succeeds_293 (by decide) (fun c_293 => ?_) (fun c_293 => ?_)
        · replace hq := (if_pos c_293).symm.trans hq
          refine lv_iconst (v := 0) hx hb dX3_succeeds_323 (by decide) ?_
          subst hq
          exact k_zret (v := 0) (w1 := [oBr b tx h ht pa sl fi bf, oSt ht ot gt ft, aI G ot 6 oht, oLed gt kt lft, aI G kt 80 cet]) cx (rfl) hP hS dX3_succeeds_324
        · replace hq := (if_neg c_293).symm.trans hq
          refine lv_aload_n hx hb dX3_succeeds_296 rfl (lv_at hl 4 rfl) ?_
          refine k_get (v := .ref ht) (T := TX3) (C := RX3) (N := 8) cx hi_X3_succeeds_3 hP 0 rfl rfl 2 (by decide) (by decide +kernel) rfl dX3_succeeds_297 ?_
          have hC := c_X1_offset l G ht ot gt ft
          refine k_i (ws' := [oBr b tx h ht pa sl fi bf, oSt ht ot gt ft, aI G ot 6 oht, oLed gt kt lft, aI G kt 80 cet]) (as := [ht]) cx hP hD hS [1] rfl (kr_VN (n := 0) (As := []) (ci := 1) cx hC gX3_succeeds_X1_offset_n109 rfl rfl rfl nn_X3_109 (by decide +kernel) (by decide +kernel) (by decide +kernel) (by decide +kernel) ⟨Nat.le_of_ble_eq_true rfl, Nat.le_of_ble_eq_true rfl⟩ rfl rfl rfl hP hD [1] rfl rfl rfl rfl hl (Nat.le_of_ble_eq_true rfl) dX3_succeeds_300 ⟨Nat.le_refl _, Nat.le_refl _⟩) ⟨rfl, rfl⟩ rfl (fun H locs hP hD hS => ?_)
          refine lv_iload_n hx hb dX3_succeeds_303 rfl (lv_at hl 3 rfl) ?_
          refine lv_iconst (v := 1) hx hb dX3_succeeds_304 (by decide) ?_
          have J316 : ∀ (j316_s0 : Int32), (if j316_s0 < (P_X1_offset ft) then (0, ft, lft, cet) else (1, ft, lft, cet)) = tgt → ∀ (H : Heap) (locs : List Loc) (ls : Array Slot), va_P G.1 vwCl [oBr b tx h ht pa sl fi bf, oSt ht ot gt ft, aI G ot 6 oht, oLed gt kt lft, aI G kt 80 cet] H → va_D A [oBr b tx h ht pa sl fi bf, oSt ht ot gt ft, aI G ot 6 oht, oLed gt kt lft, aI G kt 80 cet] → va_S A s.heap H locs → lv_has ls 6 [(0, .ref b)] → W p l e rm_X3_succeeds s m args below meth c H locs 0 0 (Q_X3_succeeds G b tx h ht pa sl fi ot gt kt bf oht tgt below args s A) (F0 m 316 ls [.int j316_s0, .int (P_X1_offset ft)]) := by
            intro j316_s0 hq H locs ls hP hD hS hl
            refine lv_icmp_gt (tgt := 323) hx hb dX3_succeeds_316 (by decide) (fun c_316 => ?_) (fun c_316 => ?_)
            · replace hq := (if_pos c_316).symm.trans hq
              refine lv_iconst (v := 0) hx hb dX3_succeeds_323 (by decide) ?_
              subst hq
              exact k_zret (v := 0) (w1 := [oBr b tx h ht pa sl fi bf, oSt ht ot gt ft, aI G ot 6 oht, oLed gt kt lft, aI G kt 80 cet]) cx (rfl) hP hS dX3_succeeds_324
            · replace hq := (if_neg c_316).symm.trans hq
              refine lv_iconst (v := 1) hx hb dX3_succeeds_319 (by decide) ?_
              refine lv_goto (tgt := 324) hx hb dX3_succeeds_320 (by decide) ?_
              subst hq
              exact k_zret (v := 1) (w1 := [oBr b tx h ht pa sl fi bf, oSt ht ot gt ft, aI G ot 6 oht, oLed gt kt lft, aI G kt 80 cet]) cx (rfl) hP hS dX3_succeeds_324
          refine lv_icmp_ne (tgt := 314) hx hb dX3_succeeds_305 (by decide) (fun c_305 => ?_) (fun c_305 => ?_)
          · replace hq := (if_neg c_305).symm.trans hq
            refine lv_iload hx hb dX3_succeeds_314 (lv_at hl 0 rfl) ?_
            exact J316 (gp - gp / 100 * 100) hq H locs ls hP hD hS (lv_sub hl [4] rfl)
          · replace hq := (if_pos c_305).symm.trans hq
            refine lv_iload hx hb dX3_succeeds_308 (lv_at hl 0 rfl) ?_
            refine lv_ineg hx hb dX3_succeeds_310 ?_
            refine lv_goto (tgt := 316) hx hb dX3_succeeds_311 (by decide) ?_
            exact J316 (-(gp - gp / 100 * 100)) hq H locs ls hP hD hS (lv_sub hl [4] rfl)
    replace hq := (if_neg c_33_9).symm.trans hq
    have e1 := lv_neT (a := 1) c_33_1 (by decide)
    have e2 := lv_neT (a := 2) c_33_2 (by decide)
    have e3 := lv_neT (a := 3) c_33_3 (by decide)
    have e4 := lv_neT (a := 4) c_33_4 (by decide)
    have e5 := lv_neT (a := 5) c_33_5 (by decide)
    have e6 := lv_neT (a := 6) c_33_6 (by decide)
    have e7 := lv_neT (a := 7) c_33_7 (by decide)
    have e8 := lv_neT (a := 8) c_33_8 (by decide)
    have e9 := lv_neT (a := 9) c_33_9 (by decide)
    refine lv_tableOut (tgt := 325) hx hb dX3_succeeds_33 (by omega) (by decide) ?_
    refine lv_iconst (v := 0) hx hb dX3_succeeds_325 (by decide) ?_
    subst hq
    exact k_zret (v := 0) (w1 := [oBr b tx h ht pa sl fi bf, oSt ht ot gt ft, aI G ot 6 oht, oLed gt kt lft, aI G kt 80 cet]) cx (rfl) hP hS dX3_succeeds_326
  subst hL
  subst hH
  subst hq
  exact key _ _ hP hD hS
