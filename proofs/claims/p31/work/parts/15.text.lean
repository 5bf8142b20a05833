/-! X2_put -/
theorem hi_X2_put_2 : ∀ w ∈ u_ws RX2 TX2 2, w ∈ wsX2_put := by decide +kernel
abbrev rm_X2_put : Room := { frames := 0, cells := 0, slots := 0, locals := 0 }
abbrev Q_X2_put (G : gG) (t : Nat) (tk : Nat)   (tgt : (Nat → Int32) × (Nat → Int32)) (below : List Frame) (args : Array Value) (s : State) (A : Nat → Prop) : State → Prop := MQ below (qV G [oTx t tk tgt.1, aC G tk 60 tgt.2] A) args s 0 0 A
def P_X2_put (tf : Nat → Int32) (tc : Nat → Int32) (ch : Int32) : (Nat → Int32) × (Nat → Int32) := (if (tf 1) < 0 then (tf, tc) else (if 60 ≤ (tf 1) then (tf, tc) else ((upd tf 1 ((tf 1) + 1)), (upd tc (tf 1).toNatClampNeg ch))))
set_option maxHeartbeats 4000000 in
set_option maxRecDepth 100000 in
theorem c_X2_put (l : Launch) (G : gG) (t : Nat) (tk : Nat) (tf : Nat → Int32) (tc : Nat → Int32) (ch : Int32) (hcc : vp_nar .char ch = ch) : kM l G yX2_put wsX2_put rm_X2_put [.ref t, .int ch] [oTx t tk tf, aC G tk 60 tc] (qV G [oTx t tk ((P_X2_put tf tc ch).1), aC G tk 60 ((P_X2_put tf tc ch).2)]) := by
  refine k_body (cc := cX2_put) (nL := 2) (ret := none) (by decide) rfl (Nat.le_of_ble_eq_true rfl) ?_
  intro p e s m args below meth c A cx hP hD hS ls hl
  obtain ⟨hx, hb, hml, hown, hts, hr, hlocks, hK, hA⟩ := id cx
  obtain ⟨H, hH⟩ : ∃ H, H = s.heap := ⟨_, rfl⟩
  obtain ⟨locs, hL⟩ : ∃ locs : List Loc, locs = [] := ⟨_, rfl⟩
  obtain ⟨tgt, hq⟩ : ∃ tgt, (P_X2_put tf tc ch) = tgt := ⟨_, rfl⟩
  have hS : va_S A s.heap H locs := by rw [hH, hL]; exact hS
  rw [← hH] at hP
  have hl : lv_has ls 2 [(0, .ref t), (1, .int ch)] := hl
  have key : ∀ (H : Heap) (locs : List Loc), va_P G.1 vwCl [oTx t tk tf, aC G tk 60 tc] H → va_D A [oTx t tk tf, aC G tk 60 tc] → va_S A s.heap H locs → W p l e rm_X2_put s m args below meth c H locs 0 0 (Q_X2_put G t tk tgt below args s A) (F0 m 0 ls []) := by
    clear hP hD hS hH hL
    intro H locs hP hD hS
    unfold P_X2_put at hq
    refine lv_aload_n hx hb dX2_put_0 rfl (lv_at hl 0 rfl) ?_
    refine k_get (v := .int (tf 1)) (T := TX2) (C := RX2) (N := 2) cx hi_X2_put_2 hP 0 rfl rfl 1 (by decide) (by decide +kernel) rfl dX2_put_1 ?_
    refine lv_if_lt (tgt := 39) hx hb dX2_put_4 (by decide) (fun c_4 => ?_) (fun c_4 => ?_)
    · replace hq := (if_pos c_4).symm.trans hq
      subst hq
      exact k_vret cx hP hS dX2_put_39
    · replace hq := (if_neg c_4).symm.trans hq
      refine lv_aload_n hx hb dX2_put_7 rfl (lv_at hl 0 rfl) ?_
      refine k_get (v := .int (tf 1)) (T := TX2) (C := RX2) (N := 2) cx hi_X2_put_2 hP 0 rfl rfl 1 (by decide) (by decide +kernel) rfl dX2_put_8 ?_
      refine lv_aload_n hx hb dX2_put_11 rfl (lv_at hl 0 rfl) ?_
      refine k_get (v := .ref tk) (T := TX2) (C := RX2) (N := 2) cx hi_X2_put_2 hP 0 rfl rfl 0 (by decide) (by decide +kernel) rfl dX2_put_12 ?_
      refine k_alenI (v := 60) (t0 := 1) cx hP 1 rfl rfl rfl dX2_put_15 ?_
      refine lv_icmp_ge (tgt := 39) hx hb dX2_put_16 (by decide) (fun c_16 => ?_) (fun c_16 => ?_)
      · replace hq := (if_pos c_16).symm.trans hq
        subst hq
        exact k_vret cx hP hS dX2_put_39
      · replace hq := (if_neg c_16).symm.trans hq
        refine lv_aload_n hx hb dX2_put_19 rfl (lv_at hl 0 rfl) ?_
        refine k_get (v := .ref tk) (T := TX2) (C := RX2) (N := 2) cx hi_X2_put_2 hP 0 rfl rfl 0 (by decide) (by decide +kernel) rfl dX2_put_20 ?_
        refine lv_aload_n hx hb dX2_put_23 rfl (lv_at hl 0 rfl) ?_
        refine k_get (v := .int (tf 1)) (T := TX2) (C := RX2) (N := 2) cx hi_X2_put_2 hP 0 rfl rfl 1 (by decide) (by decide +kernel) rfl dX2_put_24 ?_
        refine lv_iload_n hx hb dX2_put_27 rfl (lv_at hl 1 rfl) ?_
        refine k_cast (ws' := [oTx t tk tf, aC G tk 60 (upd tc (tf 1).toNatClampNeg ch)]) (j := (tf 1).toNatClampNeg) (z := ch) cx hP hD hS 1 rfl rfl (ix_le (N := 60) (by assumption) (by assumption) (by decide)) hcc rfl dX2_put_28 (fun H locs hP hD hS => ?_)
        refine lv_aload_n hx hb dX2_put_29 rfl (lv_at hl 0 rfl) ?_
        refine lv_dup hx hb dX2_put_30 rfl ?_
        refine k_get (v := .int (tf 1)) (T := TX2) (C := RX2) (N := 2) cx hi_X2_put_2 hP 0 rfl rfl 1 (by decide) (by decide +kernel) rfl dX2_put_31 ?_
        refine lv_iconst (v := 1) hx hb dX2_put_34 (by decide) ?_
        refine lv_iadd hx hb dX2_put_35 ?_
        refine k_put (ws' := [oTx t tk (upd tf 1 ((tf 1) + 1)), aC G tk 60 (upd tc (tf 1).toNatClampNeg ch)]) (ty := .int) (T := TX2) (C := RX2) (N := 2) cx hi_X2_put_2 tyX2_ok nmX2 hP hD hS 0 rfl rfl 1 (by decide) (by decide +kernel) rfl rfl rfl rfl (Nat.le_of_ble_eq_true rfl) rfl dX2_put_36 (fun H locs hP hD hS => ?_)
        subst hq
        exact k_vret cx hP hS dX2_put_39
  subst hL
  subst hH
  subst hq
  exact key _ _ hP hD hS

/-! X2_letter -/
theorem hi_X2_letter_2 : ∀ w ∈ u_ws RX2 TX2 2, w ∈ wsX2_letter := by decide +kernel
abbrev rm_X2_letter : Room := { frames := 0, cells := 0, slots := 0, locals := 0 }
abbrev Q_X2_letter (G : gG) (t : Nat) (tk : Nat)  (tf : Nat → Int32) (tc : Nat → Int32) (tgt : Int32) (below : List Frame) (args : Array Value) (s : State) (A : Nat → Prop) : State → Prop := MQ below (qI G tgt [oTx t tk tf, aC G tk 60 tc] A) args s 0 0 A
def P_X2_letter (tf : Nat → Int32) (tc : Nat → Int32) (i : Int32) : Int32 := (if i < 0 then 0 else (if (tf 1) ≤ i then 0 else (if 60 ≤ i then 0 else (tc i.toNatClampNeg))))
set_option maxHeartbeats 4000000 in
set_option maxRecDepth 100000 in
theorem c_X2_letter (l : Launch) (G : gG) (t : Nat) (tk : Nat) (tf : Nat → Int32) (tc : Nat → Int32) (i : Int32) (hch : ∀ j, narrow .char (.int (tc j)) = .int (tc j)) : kM l G yX2_letter wsX2_letter rm_X2_letter [.ref t, .int i] [oTx t tk tf, aC G tk 60 tc] (qI G ((P_X2_letter tf tc i)) [oTx t tk tf, aC G tk 60 tc]) := by
  refine k_body (cc := cX2_letter) (nL := 2) (ret := (some .char)) (by decide) rfl (Nat.le_of_ble_eq_true rfl) ?_
  intro p e s m args below meth c A cx hP hD hS ls hl
  obtain ⟨hx, hb, hml, hown, hts, hr, hlocks, hK, hA⟩ := id cx
  obtain ⟨H, hH⟩ : ∃ H, H = s.heap := ⟨_, rfl⟩
  obtain ⟨locs, hL⟩ : ∃ locs : List Loc, locs = [] := ⟨_, rfl⟩
  obtain ⟨tgt, hq⟩ : ∃ tgt, (P_X2_letter tf tc i) = tgt := ⟨_, rfl⟩
  have hS : va_S A s.heap H locs := by rw [hH, hL]; exact hS
  rw [← hH] at hP
  have hl : lv_has ls 2 [(0, .ref t), (1, .int i)] := hl
  have key : ∀ (H : Heap) (locs : List Loc), va_P G.1 vwCl [oTx t tk tf, aC G tk 60 tc] H → va_D A [oTx t tk tf, aC G tk 60 tc] → va_S A s.heap H locs → W p l e rm_X2_letter s m args below meth c H locs 0 0 (Q_X2_letter G t tk tf tc tgt below args s A) (F0 m 0 ls []) := by
    clear hP hD hS hH hL
    intro H locs hP hD hS
    unfold P_X2_letter at hq
    refine lv_iload_n hx hb dX2_letter_0 rfl (lv_at hl 1 rfl) ?_
    refine lv_if_lt (tgt := 30) hx hb dX2_letter_1 (by decide) (fun c_1 => ?_) (fun c_1 => ?_)
    · replace hq := (if_pos c_1).symm.trans hq
      refine lv_iconst (v := 0) hx hb dX2_letter_30 (by decide) ?_
      subst hq
      exact k_zret (v := 0) (w1 := [oTx t tk tf, aC G tk 60 tc]) cx (by first | with_reducible exact hch _ | exact rfl) hP hS dX2_letter_31
    · replace hq := (if_neg c_1).symm.trans hq
      refine lv_iload_n hx hb dX2_letter_4 rfl (lv_at hl 1 rfl) ?_
      refine lv_aload_n hx hb dX2_letter_5 rfl (lv_at hl 0 rfl) ?_
      refine k_get (v := .int (tf 1)) (T := TX2) (C := RX2) (N := 2) cx hi_X2_letter_2 hP 0 rfl rfl 1 (by decide) (by decide +kernel) rfl dX2_letter_6 ?_
      refine lv_icmp_ge (tgt := 30) hx hb dX2_letter_9 (by decide) (fun c_9 => ?_) (fun c_9 => ?_)
      · replace hq := (if_pos c_9).symm.trans hq
        refine lv_iconst (v := 0) hx hb dX2_letter_30 (by decide) ?_
        subst hq
        exact k_zret (v := 0) (w1 := [oTx t tk tf, aC G tk 60 tc]) cx (by first | with_reducible exact hch _ | exact rfl) hP hS dX2_letter_31
      · replace hq := (if_neg c_9).symm.trans hq
        refine lv_iload_n hx hb dX2_letter_12 rfl (lv_at hl 1 rfl) ?_
        refine lv_aload_n hx hb dX2_letter_13 rfl (lv_at hl 0 rfl) ?_
        refine k_get (v := .ref tk) (T := TX2) (C := RX2) (N := 2) cx hi_X2_letter_2 hP 0 rfl rfl 0 (by decide) (by decide +kernel) rfl dX2_letter_14 ?_
        refine k_alenI (v := 60) (t0 := 1) cx hP 1 rfl rfl rfl dX2_letter_17 ?_
        refine lv_icmp_ge (tgt := 30) hx hb dX2_letter_18 (by decide) (fun c_18 => ?_) (fun c_18 => ?_)
        · replace hq := (if_pos c_18).symm.trans hq
          refine lv_iconst (v := 0) hx hb dX2_letter_30 (by decide) ?_
          subst hq
          exact k_zret (v := 0) (w1 := [oTx t tk tf, aC G tk 60 tc]) cx (by first | with_reducible exact hch _ | exact rfl) hP hS dX2_letter_31
        · replace hq := (if_neg c_18).symm.trans hq
          refine lv_aload_n hx hb dX2_letter_21 rfl (lv_at hl 0 rfl) ?_
          refine k_get (v := .ref tk) (T := TX2) (C := RX2) (N := 2) cx hi_X2_letter_2 hP 0 rfl rfl 0 (by decide) (by decide +kernel) rfl dX2_letter_22 ?_
          refine lv_iload_n hx hb dX2_letter_25 rfl (lv_at hl 1 rfl) ?_
          refine k_cald (j := i.toNatClampNeg) cx hP 1 rfl rfl (ix_le (N := 60) (by assumption) (by assumption) (by decide)) dX2_letter_26 ?_
          refine lv_goto (tgt := 31) hx hb dX2_letter_27 (by decide) ?_
          subst hq
          exact k_zret (v := (tc i.toNatClampNeg)) (w1 := [oTx t tk tf, aC G tk 60 tc]) cx (by first | with_reducible exact hch _ | exact rfl) hP hS dX2_letter_31
  subst hL
  subst hH
  subst hq
  exact key _ _ hP hD hS

/-! X2_isDigit -/
abbrev rm_X2_isDigit : Room := { frames := 0, cells := 0, slots := 0, locals := 0 }
abbrev Q_X2_isDigit (G : gG)    (tgt : Int32) (below : List Frame) (args : Array Value) (s : State) (A : Nat → Prop) : State → Prop := MQ below (qI G tgt [] A) args s 0 0 A
def P_X2_isDigit (ch : Int32) (gr : Int32) : Int32 := (if ch < 48 then 0 else (if gr < ch then 0 else 1))
set_option maxHeartbeats 4000000 in
set_option maxRecDepth 100000 in
theorem c_X2_isDigit (l : Launch) (G : gG)  (ch : Int32) (gr : Int32)  : kM l G yX2_isDigit wsX2_isDigit rm_X2_isDigit [.int ch, .int gr] [] (qI G ((P_X2_isDigit ch gr)) []) := by
  refine k_body (cc := cX2_isDigit) (nL := 2) (ret := (some .boolean)) (by decide) rfl (Nat.le_of_ble_eq_true rfl) ?_
  intro p e s m args below meth c A cx hP hD hS ls hl
  obtain ⟨hx, hb, hml, hown, hts, hr, hlocks, hK, hA⟩ := id cx
  obtain ⟨H, hH⟩ : ∃ H, H = s.heap := ⟨_, rfl⟩
  obtain ⟨locs, hL⟩ : ∃ locs : List Loc, locs = [] := ⟨_, rfl⟩
  obtain ⟨tgt, hq⟩ : ∃ tgt, (P_X2_isDigit ch gr) = tgt := ⟨_, rfl⟩
  have hS : va_S A s.heap H locs := by rw [hH, hL]; exact hS
  rw [← hH] at hP
  have hl : lv_has ls 2 [(0, .int ch), (1, .int gr)] := hl
  have key : ∀ (H : Heap) (locs : List Loc), va_P G.1 vwCl [] H → va_D A [] → va_S A s.heap H locs → W p l e rm_X2_isDigit s m args below meth c H locs 0 0 (Q_X2_isDigit G  tgt below args s A) (F0 m 0 ls []) := by
    clear hP hD hS hH hL
    intro H locs hP hD hS
    unfold P_X2_isDigit at hq
    refine lv_iload_n hx hb dX2_isDigit_0 rfl (lv_at hl 0 rfl) ?_
    refine lv_bipush (v := 48) hx hb dX2_isDigit_1 (by decide) ?_
    refine lv_icmp_lt (tgt := 15) hx hb dX2_isDigit_3 (by decide) (fun c_3 => ?_) (fun c_3 => ?_)
    · replace hq := (if_pos c_3).symm.trans hq
      refine lv_iconst (v := 0) hx hb dX2_isDigit_15 (by decide) ?_
      subst hq
      exact k_zret (v := 0) (w1 := []) cx (rfl) hP hS dX2_isDigit_16
    · replace hq := (if_neg c_3).symm.trans hq
      refine lv_iload_n hx hb dX2_isDigit_6 rfl (lv_at hl 0 rfl) ?_
      refine lv_iload_n hx hb dX2_isDigit_7 rfl (lv_at hl 1 rfl) ?_
      refine lv_icmp_gt (tgt := 15) hx hb dX2_isDigit_8 (by decide) (fun c_8 => ?_) (fun c_8 => ?_)
      · replace hq := (if_pos c_8).symm.trans hq
        refine lv_iconst (v := 0) hx hb dX2_isDigit_15 (by decide) ?_
        subst hq
        exact k_zret (v := 0) (w1 := []) cx (rfl) hP hS dX2_isDigit_16
      · replace hq := (if_neg c_8).symm.trans hq
        refine lv_iconst (v := 1) hx hb dX2_isDigit_11 (by decide) ?_
        refine lv_goto (tgt := 16) hx hb dX2_isDigit_12 (by decide) ?_
        subst hq
        exact k_zret (v := 1) (w1 := []) cx (rfl) hP hS dX2_isDigit_16
  subst hL
  subst hH
  subst hq
  exact key _ _ hP hD hS
theorem zb_X2_isDigit (ch : Int32) (gr : Int32) : P_X2_isDigit ch gr = 0 ∨ P_X2_isDigit ch gr = 1 := by
  unfold P_X2_isDigit
  repeat' first | with_reducible refine zif ?_ ?_ | with_reducible exact Or.inl rfl | with_reducible exact Or.inr rfl 

/-! X2_digits -/
abbrev rm_X2_digits : Room := { frames := 1, cells := 0, slots := 0, locals := 21 }
abbrev Q_X2_digits (G : gG) (t : Nat) (tk : Nat)  (tf : Nat → Int32) (tc : Nat → Int32) (tgt : Int32) (below : List Frame) (args : Array Value) (s : State) (A : Nat → Prop) : State → Prop := MQ below (qI G tgt [oTx t tk tf, aC G tk 60 tc] A) args s 0 0 A
def P_X2_digits_5 (tf : Nat → Int32) (tc : Nat → Int32) (fr : Int32) (wd : Int32) : Nat → Int32 → Int32 → Int32
  | 0, _, _ => 0
  | n + 1, v3, v4 => (if wd ≤ v4 then v3 else (P_X2_digits_5 tf tc fr wd n (((10 * v3) + (P_X2_letter tf tc (fr + v4))) - 48) (v4 + 1)))
set_option maxHeartbeats 4000000 in
set_option maxRecDepth 100000 in
theorem b_X2_digits_5 {p : Program} {l : Launch} {e : Env} {s : State} {m : MethodId} {args : Array Value} {below : List Frame} {meth : Method} {c : Code} {G : gG} {A : Nat → Prop} (cx : Cx p s m args meth c cX2_digits 5 yX2_digits.cls wsX2_digits (some .int) G A) (t : Nat) (tk : Nat) (tf : Nat → Int32) (tc : Nat → Int32) (fr : Int32) (wd : Int32) (hch : ∀ j, narrow .char (.int (tc j)) = .int (tc j))  (tgt : Int32) : ∀ (n : Nat) (v3 : Int32) (v4 : Int32) (h0 : ¬ v4 < 0) (hm : ((wd).toInt - (v4 : Int32).toInt).toNat < n) (hq : P_X2_digits_5  tf tc fr wd n v3 v4 = tgt) (H : Heap) (locs : List Loc) (hP : va_P G.1 vwCl [oTx t tk tf, aC G tk 60 tc] H) (hD : va_D A [oTx t tk tf, aC G tk 60 tc]) (hS : va_S A s.heap H locs) (ls : Array Slot) (hl : lv_has ls 5 [(0, .ref t), (1, .int fr), (2, .int wd), (3, .int v3), (4, .int v4)]), W p l e rm_X2_digits s m args below meth c H locs 0 0 (Q_X2_digits G t tk tf tc tgt below args s A) (F0 m 5 ls []) := by
  obtain ⟨hx, hb, hml, hown, hts, hr, hlocks, hK, hA⟩ := id cx
  intro n
  induction n with
  | zero => intros; omega
  | succ n ih =>
    intro v3 v4 h0 hm hq H locs hP hD hS ls hl
    unfold P_X2_digits_5 at hq
    refine lv_iload hx hb dX2_digits_5 (lv_at hl 4 rfl) ?_
    refine lv_iload_n hx hb dX2_digits_7 rfl (lv_at hl 2 rfl) ?_
    refine lv_icmp_ge (tgt := 34) hx hb dX2_digits_8 (by decide) (fun c_8 => ?_) (fun c_8 => ?_)
    · replace hq := (if_pos c_8).symm.trans hq
      refine lv_iload_n hx hb dX2_digits_34 rfl (lv_at hl 3 rfl) ?_
      subst hq
      exact k_iret cx hP hS dX2_digits_35
    · replace hq := (if_neg c_8).symm.trans hq
      refine lv_bipush (v := 10) hx hb dX2_digits_11 (by decide) ?_
      refine lv_iload_n hx hb dX2_digits_13 rfl (lv_at hl 3 rfl) ?_
      refine lv_imul hx hb dX2_digits_14 ?_
      refine lv_aload_n hx hb dX2_digits_15 rfl (lv_at hl 0 rfl) ?_
      refine lv_iload_n hx hb dX2_digits_16 rfl (lv_at hl 1 rfl) ?_
      refine lv_iload hx hb dX2_digits_17 (lv_at hl 4 rfl) ?_
      refine lv_iadd hx hb dX2_digits_19 ?_
      have hC := c_X2_letter l G t tk tf tc (fr + v4) (hch)
      refine k_i (ws' := [oTx t tk tf, aC G tk 60 tc]) (as := [t, tk]) cx hP hD hS [0, 1] rfl (kr_V (n := 1) (As := [.int (fr + v4)]) (ci := 2) cx hC gX2_digits_X2_letter rfl rfl rfl (by decide +kernel) ⟨Nat.le_of_ble_eq_true rfl, Nat.le_of_ble_eq_true rfl⟩ rfl rfl rfl hP hD [0, 1] rfl rfl rfl rfl hl (Nat.le_of_ble_eq_true rfl) dX2_digits_20 ⟨Nat.le_refl _, Nat.le_refl _⟩) ⟨rfl, rfl⟩ rfl (fun H locs hP hD hS => ?_)
      refine lv_iadd hx hb dX2_digits_23 ?_
      refine lv_bipush (v := 48) hx hb dX2_digits_24 (by decide) ?_
      refine lv_isub hx hb dX2_digits_26 ?_
      refine lv_istore_n (lv' := [(3, .int (((10 * v3) + (P_X2_letter tf tc (fr + v4))) - 48)), (0, .ref t), (1, .int fr), (2, .int wd), (4, .int v4)]) hx hb dX2_digits_27 rfl hl (by decide) rfl (fun ls hl => ?_)
      refine lv_iinc (v := (v4 + 1)) (lv' := [(4, .int (v4 + 1)), (3, .int (((10 * v3) + (P_X2_letter tf tc (fr + v4))) - 48)), (0, .ref t), (1, .int fr), (2, .int wd)]) hx hb dX2_digits_28 hl (k := 4) rfl rfl (by decide) rfl (fun ls hl => ?_)
      refine lv_goto (tgt := 5) hx hb dX2_digits_31 (by decide) ?_
      exact ih (((10 * v3) + (P_X2_letter tf tc (fr + v4))) - 48) (v4 + 1) (nn_inc h0 (N := wd) (by assumption)) (by have hmd := mu_up (N := wd) (by assumption); omega) hq H locs hP hD hS _ (lv_sub hl [2, 3, 4, 1, 0] rfl)
def P_X2_digits (tf : Nat → Int32) (tc : Nat → Int32) (fr : Int32) (wd : Int32) : Int32 := (P_X2_digits_5 tf tc fr wd (((wd).toInt - (0 : Int32).toInt).toNat + 1) 0 0)
set_option maxHeartbeats 4000000 in
set_option maxRecDepth 100000 in
theorem c_X2_digits (l : Launch) (G : gG) (t : Nat) (tk : Nat) (tf : Nat → Int32) (tc : Nat → Int32) (fr : Int32) (wd : Int32) (hch : ∀ j, narrow .char (.int (tc j)) = .int (tc j)) : kM l G yX2_digits wsX2_digits rm_X2_digits [.ref t, .int fr, .int wd] [oTx t tk tf, aC G tk 60 tc] (qI G ((P_X2_digits tf tc fr wd)) [oTx t tk tf, aC G tk 60 tc]) := by
  refine k_body (cc := cX2_digits) (nL := 5) (ret := (some .int)) (by decide) rfl (Nat.le_of_ble_eq_true rfl) ?_
  intro p e s m args below meth c A cx hP hD hS ls hl
  obtain ⟨hx, hb, hml, hown, hts, hr, hlocks, hK, hA⟩ := id cx
  obtain ⟨H, hH⟩ : ∃ H, H = s.heap := ⟨_, rfl⟩
  obtain ⟨locs, hL⟩ : ∃ locs : List Loc, locs = [] := ⟨_, rfl⟩
  obtain ⟨tgt, hq⟩ : ∃ tgt, (P_X2_digits tf tc fr wd) = tgt := ⟨_, rfl⟩
  have hS : va_S A s.heap H locs := by rw [hH, hL]; exact hS
  rw [← hH] at hP
  have hl : lv_has ls 5 [(0, .ref t), (1, .int fr), (2, .int wd)] := hl
  have key : ∀ (H : Heap) (locs : List Loc), va_P G.1 vwCl [oTx t tk tf, aC G tk 60 tc] H → va_D A [oTx t tk tf, aC G tk 60 tc] → va_S A s.heap H locs → W p l e rm_X2_digits s m args below meth c H locs 0 0 (Q_X2_digits G t tk tf tc tgt below args s A) (F0 m 0 ls []) := by
    clear hP hD hS hH hL
    intro H locs hP hD hS
    unfold P_X2_digits at hq
    refine lv_iconst (v := 0) hx hb dX2_digits_0 (by decide) ?_
    refine lv_istore_n (lv' := [(3, .int 0), (0, .ref t), (1, .int fr), (2, .int wd)]) hx hb dX2_digits_1 rfl hl (by decide) rfl (fun ls hl => ?_)
    refine lv_iconst (v := 0) hx hb dX2_digits_2 (by decide) ?_
    refine lv_istore (lv' := [(4, .int 0), (3, .int 0), (0, .ref t), (1, .int fr), (2, .int wd)]) hx hb dX2_digits_3 hl (by decide) rfl (fun ls hl => ?_)
    exact b_X2_digits_5 cx t tk tf tc fr wd hch tgt (((wd).toInt - (0 : Int32).toInt).toNat + 1) 0 0 (by decide) (Nat.lt_succ_self _) hq H locs hP hD hS _ (lv_sub hl [2, 3, 4, 1, 0] rfl)
  subst hL
  subst hH
  subst hq
  exact key _ _ hP hD hS

/-! X2_fitsUnknown -/
abbrev rm_X2_fitsUnknown : Room := { frames := 2, cells := 0, slots := 0, locals := 45 }
abbrev Q_X2_fitsUnknown (G : gG) (t : Nat) (tk : Nat)  (tf : Nat → Int32) (tc : Nat → Int32) (tgt : Int32) (below : List Frame) (args : Array Value) (s : State) (A : Nat → Prop) : State → Prop := MQ below (qI G tgt [oTx t tk tf, aC G tk 60 tc] A) args s 0 0 A
def P_X2_fitsUnknown (tf : Nat → Int32) (tc : Nat → Int32) (i : Int32) (ch : Int32) : Int32 := (if (i - 15) < 30 then (if ((i - 15) - (i - 15) / 5 * 5) = 0 then (if ch = 120 then 1 else 0) else if ((i - 15) - (i - 15) / 5 * 5) = 4 then (if (P_X2_isDigit ch 57) = 0 then 0 else (if (P_X2_digits tf tc (i - 3) 4) ≤ 0 then 0 else 1)) else (P_X2_isDigit ch 57)) else 0)
set_option maxHeartbeats 4000000 in
set_option maxRecDepth 100000 in
theorem c_X2_fitsUnknown (l : Launch) (G : gG) (t : Nat) (tk : Nat) (tf : Nat → Int32) (tc : Nat → Int32) (i : Int32) (ch : Int32) (hch : ∀ j, narrow .char (.int (tc j)) = .int (tc j)) : kM l G yX2_fitsUnknown wsX2_fitsUnknown rm_X2_fitsUnknown [.ref t, .int i, .int ch] [oTx t tk tf, aC G tk 60 tc] (qI G ((P_X2_fitsUnknown tf tc i ch)) [oTx t tk tf, aC G tk 60 tc]) := by
  refine k_body (cc := cX2_fitsUnknown) (nL := 4) (ret := (some .boolean)) (by decide) rfl (Nat.le_of_ble_eq_true rfl) ?_
  intro p e s m args below meth c A cx hP hD hS ls hl
  obtain ⟨hx, hb, hml, hown, hts, hr, hlocks, hK, hA⟩ := id cx
  obtain ⟨H, hH⟩ : ∃ H, H = s.heap := ⟨_, rfl⟩
  obtain ⟨locs, hL⟩ : ∃ locs : List Loc, locs = [] := ⟨_, rfl⟩
  obtain ⟨tgt, hq⟩ : ∃ tgt, (P_X2_fitsUnknown tf tc i ch) = tgt := ⟨_, rfl⟩
  have hS : va_S A s.heap H locs := by rw [hH, hL]; exact hS
  rw [← hH] at hP
  have hl : lv_has ls 4 [(0, .ref t), (1, .int i), (2, .int ch)] := hl
  have key : ∀ (H : Heap) (locs : List Loc), va_P G.1 vwCl [oTx t tk tf, aC G tk 60 tc] H → va_D A [oTx t tk tf, aC G tk 60 tc] → va_S A s.heap H locs → W p l e rm_X2_fitsUnknown s m args below meth c H locs 0 0 (Q_X2_fitsUnknown G t tk tf tc tgt below args s A) (F0 m 0 ls []) := by
    clear hP hD hS hH hL
    intro H locs hP hD hS
    unfold P_X2_fitsUnknown at hq
    refine lv_iload_n hx hb dX2_fitsUnknown_0 rfl (lv_at hl 1 rfl) ?_
    refine lv_bipush (v := 15) hx hb dX2_fitsUnknown_1 (by decide) ?_
    refine lv_isub hx hb dX2_fitsUnknown_3 ?_
    refine lv_istore_n (lv' := [(3, .int (i - 15)), (0, .ref t), (1, .int i), (2, .int ch)]) hx hb dX2_fitsUnknown_4 rfl hl (by decide) rfl (fun ls hl => ?_)
    refine lv_iload_n hx hb dX2_fitsUnknown_5 rfl (lv_at hl 0 rfl) ?_
    refine lv_bipush (v := 30) hx hb dX2_fitsUnknown_6 (by decide) ?_
    refine lv_icmp_lt (tgt := 13) hx hb dX2_fitsUnknown_8 (by decide) (fun c_8 => ?_) (fun c_8 => ?_)
    · replace hq := (if_pos c_8).symm.trans hq
      refine lv_iload_n hx hb dX2_fitsUnknown_13 rfl (lv_at hl 0 rfl) ?_
      refine lv_iconst (v := 5) hx hb dX2_fitsUnknown_14 (by decide) ?_
      refine lv_irem hx hb dX2_fitsUnknown_15 (by decide) ?_
      by_cases c_16_0 : ((i - 15) - (i - 15) / 5 * 5) = 0
      · replace hq := (if_pos c_16_0).symm.trans hq
        refine lv_lookup (tgt := 44) (off := 28) hx hb dX2_fitsUnknown_16 (by decide) (by rw [c_16_0]; decide) (by decide) ?_
        refine lv_iload_n hx hb dX2_fitsUnknown_44 rfl (lv_at hl 3 rfl) ?_
        refine lv_bipush (v := 120) hx hb dX2_fitsUnknown_45 (by decide) ?_
        refine lv_icmp_ne (tgt := 54) hx hb dX2_fitsUnknown_47 (by decide) (fun c_47 => ?_) (fun c_47 => ?_)
        · replace hq := (if_neg c_47).symm.trans hq
          refine lv_iconst (v := 0) hx hb dX2_fitsUnknown_54 (by decide) ?_
          subst hq
          exact k_zret (v := 0) (w1 := [oTx t tk tf, aC G tk 60 tc]) cx (by first | with_reducible exact nz (zb_X2_isDigit _ _) | exact rfl) hP hS dX2_fitsUnknown_55
        · replace hq := (if_pos c_47).symm.trans hq
          refine lv_iconst (v := 1) hx hb dX2_fitsUnknown_50 (by decide) ?_
          refine lv_goto (tgt := 55) hx hb dX2_fitsUnknown_51 (by decide) ?_
          subst hq
          exact k_zret (v := 1) (w1 := [oTx t tk tf, aC G tk 60 tc]) cx (by first | with_reducible exact nz (zb_X2_isDigit _ _) | exact rfl) hP hS dX2_fitsUnknown_55
      replace hq := (if_neg c_16_0).symm.trans hq
      by_cases c_16_4 : ((i - 15) - (i - 15) / 5 * 5) = 4
      · replace hq := (if_pos c_16_4).symm.trans hq
        refine lv_lookup (tgt := 56) (off := 40) hx hb dX2_fitsUnknown_16 (by decide) (by rw [c_16_4]; decide) (by decide) ?_
        refine lv_iload_n hx hb dX2_fitsUnknown_56 rfl (lv_at hl 3 rfl) ?_
        refine lv_bipush (v := 57) hx hb dX2_fitsUnknown_57 (by decide) ?_
        have hC := c_X2_isDigit l G ch 57
        refine k_i (ws' := [oTx t tk tf, aC G tk 60 tc]) (as := []) cx hP hD hS [] rfl (kr_S (n := 2) (As := [.int ch, .int 57]) cx hC gX2_fitsUnknown_X2_isDigit rfl rfl rfl (by decide +kernel) ⟨Nat.le_of_ble_eq_true rfl, Nat.le_of_ble_eq_true rfl⟩ hP hD [] rfl rfl rfl rfl hl (Nat.le_of_ble_eq_true rfl) dX2_fitsUnknown_59 ⟨Nat.le_refl _, Nat.le_refl _⟩) ⟨rfl, rfl⟩ rfl (fun H locs hP hD hS => ?_)
        refine lv_if_eq (tgt := 80) hx hb dX2_fitsUnknown_62 (by decide) (fun c_62 => ?_) (fun c_62 => ?_)
        · replace hq := (if_pos c_62).symm.trans hq
          refine lv_iconst (v := 0) hx hb dX2_fitsUnknown_80 (by decide) ?_
          subst hq
          exact k_zret (v := 0) (w1 := [oTx t tk tf, aC G tk 60 tc]) cx (by first | with_reducible exact nz (zb_X2_isDigit _ _) | exact rfl) hP hS dX2_fitsUnknown_81
        · replace hq := (if_neg c_62).symm.trans hq
          refine lv_aload_n hx hb dX2_fitsUnknown_65 rfl (lv_at hl 1 rfl) ?_
          refine lv_iload_n hx hb dX2_fitsUnknown_66 rfl (lv_at hl 2 rfl) ?_
          refine lv_iconst (v := 3) hx hb dX2_fitsUnknown_67 (by decide) ?_
          refine lv_isub hx hb dX2_fitsUnknown_68 ?_
          refine lv_iconst (v := 4) hx hb dX2_fitsUnknown_69 (by decide) ?_
          have hC := c_X2_digits l G t tk tf tc (i - 3) 4 (hch)
          refine k_i (ws' := [oTx t tk tf, aC G tk 60 tc]) (as := [t, tk]) cx hP hD hS [0, 1] rfl (kr_V (n := 2) (As := [.int (i - 3), .int 4]) (ci := 2) cx hC gX2_fitsUnknown_X2_digits rfl rfl rfl (by decide +kernel) ⟨Nat.le_of_ble_eq_true rfl, Nat.le_of_ble_eq_true rfl⟩ rfl rfl rfl hP hD [0, 1] rfl rfl rfl rfl hl (Nat.le_of_ble_eq_true rfl) dX2_fitsUnknown_70 ⟨Nat.le_refl _, Nat.le_refl _⟩) ⟨rfl, rfl⟩ rfl (fun H locs hP hD hS => ?_)
          refine lv_if_le (tgt := 80) hx hb dX2_fitsUnknown_73 (by decide) (fun c_73 => ?_) (fun c_73 => ?_)
          · replace hq := (if_pos c_73).symm.trans hq
            refine lv_iconst (v := 0) hx hb dX2_fitsUnknown_80 (by decide) ?_
            subst hq
            exact k_zret (v := 0) (w1 := [oTx t tk tf, aC G tk 60 tc]) cx (by first | with_reducible exact nz (zb_X2_isDigit _ _) | exact rfl) hP hS dX2_fitsUnknown_81
          · replace hq := (if_neg c_73).symm.trans hq
            refine lv_iconst (v := 1) hx hb dX2_fitsUnknown_76 (by decide) ?_
            refine lv_goto (tgt := 81) hx hb dX2_fitsUnknown_77 (by decide) ?_
            subst hq
            exact k_zret (v := 1) (w1 := [oTx t tk tf, aC G tk 60 tc]) cx (by first | with_reducible exact nz (zb_X2_isDigit _ _) | exact rfl) hP hS dX2_fitsUnknown_81
      replace hq := (if_neg c_16_4).symm.trans hq
      refine lv_lookup (tgt := 82) (off := 66) hx hb dX2_fitsUnknown_16 (by decide) ((lv_osw c_16_0 (by decide)).trans ((lv_osw c_16_4 (by decide)).trans (rfl))) (by decide) ?_
      refine lv_iload_n hx hb dX2_fitsUnknown_82 rfl (lv_at hl 3 rfl) ?_
      refine lv_bipush (v := 57) hx hb dX2_fitsUnknown_83 (by decide) ?_
      have hC := c_X2_isDigit l G ch 57
      refine k_i (ws' := [oTx t tk tf, aC G tk 60 tc]) (as := []) cx hP hD hS [] rfl (kr_S (n := 2) (As := [.int ch, .int 57]) cx hC gX2_fitsUnknown_X2_isDigit rfl rfl rfl (by decide +kernel) ⟨Nat.le_of_ble_eq_true rfl, Nat.le_of_ble_eq_true rfl⟩ hP hD [] rfl rfl rfl rfl hl (Nat.le_of_ble_eq_true rfl) dX2_fitsUnknown_85 ⟨Nat.le_refl _, Nat.le_refl _⟩) ⟨rfl, rfl⟩ rfl (fun H locs hP hD hS => ?_)
      subst hq
      exact k_zret (v := (P_X2_isDigit ch 57)) (w1 := [oTx t tk tf, aC G tk 60 tc]) cx (by first | with_reducible exact nz (zb_X2_isDigit _ _) | exact rfl) hP hS dX2_fitsUnknown_88
    · replace hq := (if_neg c_8).symm.trans hq
      refine lv_iconst (v := 0) hx hb dX2_fitsUnknown_11 (by decide) ?_
      subst hq
      exact k_zret (v := 0) (w1 := [oTx t tk tf, aC G tk 60 tc]) cx (by first | with_reducible exact nz (zb_X2_isDigit _ _) | exact rfl) hP hS dX2_fitsUnknown_12
  subst hL
  subst hH
  subst hq
  exact key _ _ hP hD hS
theorem zb_X2_fitsUnknown (tf : Nat → Int32) (tc : Nat → Int32) (i : Int32) (ch : Int32) : P_X2_fitsUnknown tf tc i ch = 0 ∨ P_X2_fitsUnknown tf tc i ch = 1 := by
  unfold P_X2_fitsUnknown
  repeat' first | with_reducible refine zif ?_ ?_ | with_reducible exact Or.inl rfl | with_reducible exact Or.inr rfl | with_reducible exact zb_X2_isDigit _ _

/-! X2_fits -/
abbrev rm_X2_fits : Room := { frames := 3, cells := 0, slots := 0, locals := 68 }
abbrev Q_X2_fits (G : gG) (t : Nat) (tk : Nat)  (tf : Nat → Int32) (tc : Nat → Int32) (tgt : Int32) (below : List Frame) (args : Array Value) (s : State) (A : Nat → Prop) : State → Prop := MQ below (qI G tgt [oTx t tk tf, aC G tk 60 tc] A) args s 0 0 A
def P_X2_fits (tf : Nat → Int32) (tc : Nat → Int32) (i : Int32) : Int32 := (if i = 0 then (if (P_X2_letter tf tc i) = 71 then 1 else 0) else if i = 1 then (P_X2_isDigit (P_X2_letter tf tc i) 51) else if i = 2 then (P_X2_isDigit (P_X2_letter tf tc i) 51) else if i = 3 then (if 15 ≤ i then (P_X2_fitsUnknown tf tc i (P_X2_letter tf tc i)) else (P_X2_isDigit (P_X2_letter tf tc i) 57)) else if i = 4 then (if 15 ≤ i then (P_X2_fitsUnknown tf tc i (P_X2_letter tf tc i)) else (P_X2_isDigit (P_X2_letter tf tc i) 57)) else if i = 5 then (if 15 ≤ i then (P_X2_fitsUnknown tf tc i (P_X2_letter tf tc i)) else (P_X2_isDigit (P_X2_letter tf tc i) 57)) else if i = 6 then (if 15 ≤ i then (P_X2_fitsUnknown tf tc i (P_X2_letter tf tc i)) else (P_X2_isDigit (P_X2_letter tf tc i) 57)) else if i = 7 then (if 15 ≤ i then (P_X2_fitsUnknown tf tc i (P_X2_letter tf tc i)) else (P_X2_isDigit (P_X2_letter tf tc i) 57)) else if i = 8 then (if (P_X2_isDigit (P_X2_letter tf tc i) 57) = 0 then 0 else (if (P_X2_digits tf tc 7 2) ≤ 0 then 0 else 1)) else if i = 9 then (P_X2_isDigit (P_X2_letter tf tc i) 51) else if i = 10 then (if (P_X2_letter tf tc i) = 43 then 1 else (if (P_X2_letter tf tc i) = 45 then 1 else 0)) else if i = 11 then (P_X2_isDigit (P_X2_letter tf tc i) 53) else if i = 12 then (if (P_X2_isDigit (P_X2_letter tf tc i) 57) = 0 then 0 else (if 50 < (P_X2_digits tf tc 11 2) then 0 else 1)) else if i = 13 then (P_X2_isDigit (P_X2_letter tf tc i) 50) else if i = 14 then (if (P_X2_isDigit (P_X2_letter tf tc i) 57) = 0 then 0 else (if 20 < (P_X2_digits tf tc 13 2) then 0 else 1)) else (if 15 ≤ i then (P_X2_fitsUnknown tf tc i (P_X2_letter tf tc i)) else (P_X2_isDigit (P_X2_letter tf tc i) 57)))
set_option maxHeartbeats 4000000 in
set_option maxRecDepth 100000 in
theorem c_X2_fits (l : Launch) (G : gG) (t : Nat) (tk : Nat) (tf : Nat → Int32) (tc : Nat → Int32) (i : Int32) (hch : ∀ j, narrow .char (.int (tc j)) = .int (tc j)) : kM l G yX2_fits wsX2_fits rm_X2_fits [.ref t, .int i] [oTx t tk tf, aC G tk 60 tc] (qI G ((P_X2_fits tf tc i)) [oTx t tk tf, aC G tk 60 tc]) := by
  refine k_body (cc := cX2_fits) (nL := 3) (ret := (some .boolean)) (by decide) rfl (Nat.le_of_ble_eq_true rfl) ?_
  intro p e s m args below meth c A cx hP hD hS ls hl
  obtain ⟨hx, hb, hml, hown, hts, hr, hlocks, hK, hA⟩ := id cx
  obtain ⟨H, hH⟩ : ∃ H, H = s.heap := ⟨_, rfl⟩
  obtain ⟨locs, hL⟩ : ∃ locs : List Loc, locs = [] := ⟨_, rfl⟩
  obtain ⟨tgt, hq⟩ : ∃ tgt, (P_X2_fits tf tc i) = tgt := ⟨_, rfl⟩
  have hS : va_S A s.heap H locs := by rw [hH, hL]; exact hS
  rw [← hH] at hP
  have hl : lv_has ls 3 [(0, .ref t), (1, .int i)] := hl
  have key : ∀ (H : Heap) (locs : List Loc), va_P G.1 vwCl [oTx t tk tf, aC G tk 60 tc] H → va_D A [oTx t tk tf, aC G tk 60 tc] → va_S A s.heap H locs → W p l e rm_X2_fits s m args below meth c H locs 0 0 (Q_X2_fits G t tk tf tc tgt below args s A) (F0 m 0 ls []) := by
    clear hP hD hS hH hL
    intro H locs hP hD hS
    unfold P_X2_fits at hq
    refine lv_aload_n hx hb dX2_fits_0 rfl (lv_at hl 0 rfl) ?_
    refine lv_iload_n hx hb dX2_fits_1 rfl (lv_at hl 1 rfl) ?_
    have hC := c_X2_letter l G t tk tf tc i (hch)
    refine k_i (ws' := [oTx t tk tf, aC G tk 60 tc]) (as := [t, tk]) cx hP hD hS [0, 1] rfl (kr_V (n := 1) (As := [.int i]) (ci := 2) cx hC gX2_fits_X2_letter rfl rfl rfl (by decide +kernel) ⟨Nat.le_of_ble_eq_true rfl, Nat.le_of_ble_eq_true rfl⟩ rfl rfl rfl hP hD [0, 1] rfl rfl rfl rfl hl (Nat.le_of_ble_eq_true rfl) dX2_fits_2 ⟨Nat.le_refl _, Nat.le_refl _⟩) ⟨rfl, rfl⟩ rfl (fun H locs hP hD hS => ?_)
    refine lv_istore_n (lv' := [(2, .int (P_X2_letter tf tc i)), (0, .ref t), (1, .int i)]) hx hb dX2_fits_5 rfl hl (by decide) rfl (fun ls hl => ?_)
    refine lv_iload_n hx hb dX2_fits_6 rfl (lv_at hl 2 rfl) ?_
    by_cases c_7_0 : i = 0
    · replace hq := (if_pos c_7_0).symm.trans hq
      refine lv_tableIn (tgt := 80) (off := 73) hx hb dX2_fits_7 (sw_lo c_7_0 (by decide)) (sw_hi c_7_0 (by decide)) (sw_at c_7_0 (by decide)) (by decide) ?_
      refine lv_iload_n hx hb dX2_fits_80 rfl (lv_at hl 0 rfl) ?_
      refine lv_bipush (v := 71) hx hb dX2_fits_81 (by decide) ?_
      refine lv_icmp_ne (tgt := 90) hx hb dX2_fits_83 (by decide) (fun c_83 => ?_) (fun c_83 => ?_)
      · replace hq := (if_neg c_83).symm.trans hq
        refine lv_iconst (v := 0) hx hb dX2_fits_90 (by decide) ?_
        subst hq
        exact k_zret (v := 0) (w1 := [oTx t tk tf, aC G tk 60 tc]) cx (by first | with_reducible exact nz (zb_X2_isDigit _ _) | with_reducible exact nz (zb_X2_fitsUnknown _ _ _ _) | exact rfl) hP hS dX2_fits_91
      · replace hq := (if_pos c_83).symm.trans hq
        refine lv_iconst (v := 1) hx hb dX2_fits_86 (by decide) ?_
        refine lv_goto (tgt := 91) hx hb dX2_fits_87 (by decide) ?_
        subst hq
        exact k_zret (v := 1) (w1 := [oTx t tk tf, aC G tk 60 tc]) cx (by first | with_reducible exact nz (zb_X2_isDigit _ _) | with_reducible exact nz (zb_X2_fitsUnknown _ _ _ _) | exact rfl) hP hS dX2_fits_91
    replace hq := (if_neg c_7_0).symm.trans hq
    by_cases c_7_1 : i = 1
    · replace hq := (if_pos c_7_1).symm.trans hq
      refine lv_tableIn (tgt := 92) (off := 85) hx hb dX2_fits_7 (sw_lo c_7_1 (by decide)) (sw_hi c_7_1 (by decide)) (sw_at c_7_1 (by decide)) (by decide) ?_
      refine lv_iload_n hx hb dX2_fits_92 rfl (lv_at hl 0 rfl) ?_
      refine lv_bipush (v := 51) hx hb dX2_fits_93 (by decide) ?_
      have hC := c_X2_isDigit l G (P_X2_letter tf tc i) 51
      refine k_i (ws' := [oTx t tk tf, aC G tk 60 tc]) (as := []) cx hP hD hS [] rfl (kr_S (n := 2) (As := [.int (P_X2_letter tf tc i), .int 51]) cx hC gX2_fits_X2_isDigit rfl rfl rfl (by decide +kernel) ⟨Nat.le_of_ble_eq_true rfl, Nat.le_of_ble_eq_true rfl⟩ hP hD [] rfl rfl rfl rfl hl (Nat.le_of_ble_eq_true rfl) dX2_fits_95 ⟨Nat.le_refl _, Nat.le_refl _⟩) ⟨rfl, rfl⟩ rfl (fun H locs hP hD hS => ?_)
      subst hq
      exact k_zret (v := (P_X2_isDigit (P_X2_letter tf tc i) 51)) (w1 := [oTx t tk tf, aC G tk 60 tc]) cx (by first | with_reducible exact nz (zb_X2_isDigit _ _) | with_reducible exact nz (zb_X2_fitsUnknown _ _ _ _) | exact rfl) hP hS dX2_fits_98
    replace hq := (if_neg c_7_1).symm.trans hq
    by_cases c_7_2 : i = 2
    · replace hq := (if_pos c_7_2).symm.trans hq
      refine lv_tableIn (tgt := 92) (off := 85) hx hb dX2_fits_7 (sw_lo c_7_2 (by decide)) (sw_hi c_7_2 (by decide)) (sw_at c_7_2 (by decide)) (by decide) ?_
      refine lv_iload_n hx hb dX2_fits_92 rfl (lv_at hl 0 rfl) ?_
      refine lv_bipush (v := 51) hx hb dX2_fits_93 (by decide) ?_
      have hC := c_X2_isDigit l G (P_X2_letter tf tc i) 51
      refine k_i (ws' := [oTx t tk tf, aC G tk 60 tc]) (as := []) cx hP hD hS [] rfl (kr_S (n := 2) (As := [.int (P_X2_letter tf tc i), .int 51]) cx hC gX2_fits_X2_isDigit rfl rfl rfl (by decide +kernel) ⟨Nat.le_of_ble_eq_true rfl, Nat.le_of_ble_eq_true rfl⟩ hP hD [] rfl rfl rfl rfl hl (Nat.le_of_ble_eq_true rfl) dX2_fits_95 ⟨Nat.le_refl _, Nat.le_refl _⟩) ⟨rfl, rfl⟩ rfl (fun H locs hP hD hS => ?_)
      subst hq
      exact k_zret (v := (P_X2_isDigit (P_X2_letter tf tc i) 51)) (w1 := [oTx t tk tf, aC G tk 60 tc]) cx (by first | with_reducible exact nz (zb_X2_isDigit _ _) | with_reducible exact nz (zb_X2_fitsUnknown _ _ _ _) | exact rfl) hP hS dX2_fits_98
    replace hq := (if_neg c_7_2).symm.trans hq
    by_cases c_7_3 : i = 3
    · replace hq := (if_pos c_7_3).symm.trans hq
      refine lv_tableIn (tgt := 210) (off := 203) hx hb dX2_fits_7 (sw_lo c_7_3 (by decide)) (sw_hi c_7_3 (by decide)) (sw_at c_7_3 (by decide)) (by decide) ?_
      refine lv_iload_n hx hb dX2_fits_210 rfl (lv_at hl 2 rfl) ?_
      refine lv_bipush (v := 15) hx hb dX2_fits_211 (by decide) ?_
      refine lv_icmp_ge (tgt := 225) hx hb dX2_fits_213 (by decide) (fun c_213 => ?_) (fun c_213 => ?_)
      · replace hq := (if_pos c_213).symm.trans hq
        refine lv_aload_n hx hb dX2_fits_225 rfl (lv_at hl 1 rfl) ?_
        refine lv_iload_n hx hb dX2_fits_226 rfl (lv_at hl 2 rfl) ?_
        refine lv_iload_n hx hb dX2_fits_227 rfl (lv_at hl 0 rfl) ?_
        have hC := c_X2_fitsUnknown l G t tk tf tc i (P_X2_letter tf tc i) (hch)
        refine k_i (ws' := [oTx t tk tf, aC G tk 60 tc]) (as := [t, tk]) cx hP hD hS [0, 1] rfl (kr_V (n := 2) (As := [.int i, .int (P_X2_letter tf tc i)]) (ci := 2) cx hC gX2_fits_X2_fitsUnknown rfl rfl rfl (by decide +kernel) ⟨Nat.le_of_ble_eq_true rfl, Nat.le_of_ble_eq_true rfl⟩ rfl rfl rfl hP hD [0, 1] rfl rfl rfl rfl hl (Nat.le_of_ble_eq_true rfl) dX2_fits_228 ⟨Nat.le_refl _, Nat.le_refl _⟩) ⟨rfl, rfl⟩ rfl (fun H locs hP hD hS => ?_)
        subst hq
        exact k_zret (v := (P_X2_fitsUnknown tf tc i (P_X2_letter tf tc i))) (w1 := [oTx t tk tf, aC G tk 60 tc]) cx (by first | with_reducible exact nz (zb_X2_isDigit _ _) | with_reducible exact nz (zb_X2_fitsUnknown _ _ _ _) | exact rfl) hP hS dX2_fits_231
      · replace hq := (if_neg c_213).symm.trans hq
        refine lv_iload_n hx hb dX2_fits_216 rfl (lv_at hl 0 rfl) ?_
        refine lv_bipush (v := 57) hx hb dX2_fits_217 (by decide) ?_
        have hC := c_X2_isDigit l G (P_X2_letter tf tc i) 57
        refine k_i (ws' := [oTx t tk tf, aC G tk 60 tc]) (as := []) cx hP hD hS [] rfl (kr_S (n := 2) (As := [.int (P_X2_letter tf tc i), .int 57]) cx hC gX2_fits_X2_isDigit rfl rfl rfl (by decide +kernel) ⟨Nat.le_of_ble_eq_true rfl, Nat.le_of_ble_eq_true rfl⟩ hP hD [] rfl rfl rfl rfl hl (Nat.le_of_ble_eq_true rfl) dX2_fits_219 ⟨Nat.le_refl _, Nat.le_refl _⟩) ⟨rfl, rfl⟩ rfl (fun H locs hP hD hS => ?_)
        refine lv_goto (tgt := 231) hx hb dX2_fits_222 (by decide) ?_
        subst hq
        exact k_zret (v := (P_X2_isDigit (P_X2_letter tf tc i) 57)) (w1 := [oTx t tk tf, aC G tk 60 tc]) cx (by first | with_reducible exact nz (zb_X2_isDigit _ _) | with_reducible exact nz (zb_X2_fitsUnknown _ _ _ _) | exact rfl) hP hS dX2_fits_231
    replace hq := (if_neg c_7_3).symm.trans hq
    by_cases c_7_4 : i = 4
    · replace hq := (if_pos c_7_4).symm.trans hq
      refine lv_tableIn (tgt := 210) (off := 203) hx hb dX2_fits_7 (sw_lo c_7_4 (by decide)) (sw_hi c_7_4 (by decide)) (sw_at c_7_4 (by decide)) (by decide) ?_
      refine lv_iload_n hx hb dX2_fits_210 rfl (lv_at hl 2 rfl) ?_
      refine lv_bipush (v := 15) hx hb dX2_fits_211 (by decide) ?_
      refine lv_icmp_ge (tgt := 225) hx hb dX2_fits_213 (by decide) (fun c_213 => ?_) (fun c_213 => ?_)
      · replace hq := (if_pos c_213).symm.trans hq
        refine lv_aload_n hx hb dX2_fits_225 rfl (lv_at hl 1 rfl) ?_
        refine lv_iload_n hx hb dX2_fits_226 rfl (lv_at hl 2 rfl) ?_
        refine lv_iload_n hx hb dX2_fits_227 rfl (lv_at hl 0 rfl) ?_
        have hC := c_X2_fitsUnknown l G t tk tf tc i (P_X2_letter tf tc i) (hch)
        refine k_i (ws' := [oTx t tk tf, aC G tk 60 tc]) (as := [t, tk]) cx hP hD hS [0, 1] rfl (kr_V (n := 2) (As := [.int i, .int (P_X2_letter tf tc i)]) (ci := 2) cx hC gX2_fits_X2_fitsUnknown rfl rfl rfl (by decide +kernel) ⟨Nat.le_of_ble_eq_true rfl, Nat.le_of_ble_eq_true rfl⟩ rfl rfl rfl hP hD [0, 1] rfl rfl rfl rfl hl (Nat.le_of_ble_eq_true rfl) dX2_fits_228 ⟨Nat.le_refl _, Nat.le_refl _⟩) ⟨rfl, rfl⟩ rfl (fun H locs hP hD hS => ?_)
        subst hq
        exact k_zret (v := (P_X2_fitsUnknown tf tc i (P_X2_letter tf tc i))) (w1 := [oTx t tk tf, aC G tk 60 tc]) cx (by first | with_reducible exact nz (zb_X2_isDigit _ _) | with_reducible exact nz (zb_X2_fitsUnknown _ _ _ _) | exact rfl) hP hS dX2_fits_231
      · replace hq := (if_neg c_213).symm.trans hq
        refine lv_iload_n hx hb dX2_fits_216 rfl (lv_at hl 0 rfl) ?_
        refine lv_bipush (v := 57) hx hb dX2_fits_217 (by decide) ?_
        have hC := c_X2_isDigit l G (P_X2_letter tf tc i) 57
        refine k_i (ws' := [oTx t tk tf, aC G tk 60 tc]) (as := []) cx hP hD hS [] rfl (kr_S (n := 2) (As := [.int (P_X2_letter tf tc i), .int 57]) cx hC gX2_fits_X2_isDigit rfl rfl rfl (by decide +kernel) ⟨Nat.le_of_ble_eq_true rfl, Nat.le_of_ble_eq_true rfl⟩ hP hD [] rfl rfl rfl rfl hl (Nat.le_of_ble_eq_true rfl) dX2_fits_219 ⟨Nat.le_refl _, Nat.le_refl _⟩) ⟨rfl, rfl⟩ rfl (fun H locs hP hD hS => ?_)
        refine lv_goto (tgt := 231) hx hb dX2_fits_222 (by decide) ?_
        subst hq
        exact k_zret (v := (P_X2_isDigit (P_X2_letter tf tc i) 57)) (w1 := [oTx t tk tf, aC G tk 60 tc]) cx (by first | with_reducible exact nz (zb_X2_isDigit _ _) | with_reducible exact nz (zb_X2_fitsUnknown _ _ _ _) | exact rfl) hP hS dX2_fits_231
    replace hq := (if_neg c_7_4).symm.trans hq
    by_cases c_7_5 : i = 5
    · replace hq := (if_pos c_7_5).symm.trans hq
      refine lv_tableIn (tgt := 210) (off := 203) hx hb dX2_fits_7 (sw_lo c_7_5 (by decide)) (sw_hi c_7_5 (by decide)) (sw_at c_7_5 (by decide)) (by decide) ?_
      refine lv_iload_n hx hb dX2_fits_210 rfl (lv_at hl 2 rfl) ?_
      refine lv_bipush (v := 15) hx hb dX2_fits_211 (by decide) ?_
      refine lv_icmp_ge (tgt := 225) hx hb dX2_fits_213 (by decide) (fun c_213 => ?_) (fun c_213 => ?_)
      · replace hq := (if_pos c_213).symm.trans hq
        refine lv_aload_n hx hb dX2_fits_225 rfl (lv_at hl 1 rfl) ?_
        refine lv_iload_n hx hb dX2_fits_226 rfl (lv_at hl 2 rfl) ?_
        refine lv_iload_n hx hb dX2_fits_227 rfl (lv_at hl 0 rfl) ?_
        have hC := c_X2_fitsUnknown l G t tk tf tc i (P_X2_letter tf tc i) (hch)
        refine k_i (ws' := [oTx t tk tf, aC G tk 60 tc]) (as := [t, tk]) cx hP hD hS [0, 1] rfl (kr_V (n := 2) (As := [.int i, .int (P_X2_letter tf tc i)]) (ci := 2) cx hC gX2_fits_X2_fitsUnknown rfl rfl rfl (by decide +kernel) ⟨Nat.le_of_ble_eq_true rfl, Nat.le_of_ble_eq_true rfl⟩ rfl rfl rfl hP hD [0, 1] rfl rfl rfl rfl hl (Nat.le_of_ble_eq_true rfl) dX2_fits_228 ⟨Nat.le_refl _, Nat.le_refl _⟩) ⟨rfl, rfl⟩ rfl (fun H locs hP hD hS => ?_)
        subst hq
        exact k_zret (v := (P_X2_fitsUnknown tf tc i (P_X2_letter tf tc i))) (w1 := [oTx t tk tf, aC G tk 60 tc]) cx (by first | with_reducible exact nz (zb_X2_isDigit _ _) | with_reducible exact nz (zb_X2_fitsUnknown _ _ _ _) | exact rfl) hP hS dX2_fits_231
      · replace hq := (if_neg c_213).symm.trans hq
        refine lv_iload_n hx hb dX2_fits_216 rfl (lv_at hl 0 rfl) ?_
        refine lv_bipush (v := 57) hx hb dX2_fits_217 (by decide) ?_
        have hC := c_X2_isDigit l G (P_X2_letter tf tc i) 57
        refine k_i (ws' := [oTx t tk tf, aC G tk 60 tc]) (as := []) cx hP hD hS [] rfl (kr_S (n := 2) (As := [.int (P_X2_letter tf tc i), .int 57]) cx hC gX2_fits_X2_isDigit rfl rfl rfl (by decide +kernel) ⟨Nat.le_of_ble_eq_true rfl, Nat.le_of_ble_eq_true rfl⟩ hP hD [] rfl rfl rfl rfl hl (Nat.le_of_ble_eq_true rfl) dX2_fits_219 ⟨Nat.le_refl _, Nat.le_refl _⟩) ⟨rfl, rfl⟩ rfl (fun H locs hP hD hS => ?_)
        refine lv_goto (tgt := 231) hx hb dX2_fits_222 (by decide) ?_
        subst hq
        exact k_zret (v := (P_X2_isDigit (P_X2_letter tf tc i) 57)) (w1 := [oTx t tk tf, aC G tk 60 tc]) cx (by first | with_reducible exact nz (zb_X2_isDigit _ _) | with_reducible exact nz (zb_X2_fitsUnknown _ _ _ _) | exact rfl) hP hS dX2_fits_231
    replace hq := (if_neg c_7_5).symm.trans hq
    by_cases c_7_6 : i = 6
    · replace hq := (if_pos c_7_6).symm.trans hq
      refine lv_tableIn (tgt := 210) (off := 203) hx hb dX2_fits_7 (sw_lo c_7_6 (by decide)) (sw_hi c_7_6 (by decide)) (sw_at c_7_6 (by decide)) (by decide) ?_
      refine lv_iload_n hx hb dX2_fits_210 rfl (lv_at hl 2 rfl) ?_
      refine lv_bipush (v := 15) hx hb dX2_fits_211 (by decide) ?_
      refine lv_icmp_ge (tgt := 225) hx hb dX2_fits_213 (by decide) (fun c_213 => ?_) (fun c_213 => ?_)
      · replace hq := (if_pos c_213).symm.trans hq
        refine lv_aload_n hx hb dX2_fits_225 rfl (lv_at hl 1 rfl) ?_
        refine lv_iload_n hx hb dX2_fits_226 rfl (lv_at hl 2 rfl) ?_
        refine lv_iload_n hx hb dX2_fits_227 rfl (lv_at hl 0 rfl) ?_
        have hC := c_X2_fitsUnknown l G t tk tf tc i (P_X2_letter tf tc i) (hch)
        refine k_i (ws' := [oTx t tk tf, aC G tk 60 tc]) (as := [t, tk]) cx hP hD hS [0, 1] rfl (kr_V (n := 2) (As := [.int i, .int (P_X2_letter tf tc i)]) (ci := 2) cx hC gX2_fits_X2_fitsUnknown rfl rfl rfl (by decide +kernel) ⟨Nat.le_of_ble_eq_true rfl, Nat.le_of_ble_eq_true rfl⟩ rfl rfl rfl hP hD [0, 1] rfl rfl rfl rfl hl (Nat.le_of_ble_eq_true rfl) dX2_fits_228 ⟨Nat.le_refl _, Nat.le_refl _⟩) ⟨rfl, rfl⟩ rfl (fun H locs hP hD hS => ?_)
        subst hq
        exact k_zret (v := (P_X2_fitsUnknown tf tc i (P_X2_letter tf tc i))) (w1 := [oTx t tk tf, aC G tk 60 tc]) cx (by first | with_reducible exact nz (zb_X2_isDigit _ _) | with_reducible exact nz (zb_X2_fitsUnknown _ _ _ _) | exact rfl) hP hS dX2_fits_231
      · replace hq := (if_neg c_213).symm.trans hq
        refine lv_iload_n hx hb dX2_fits_216 rfl (lv_at hl 0 rfl) ?_
        refine lv_bipush (v := 57) hx hb dX2_fits_217 (by decide) ?_
        have hC := c_X2_isDigit l G (P_X2_letter tf tc i) 57
        refine k_i (ws' := [oTx t tk tf, aC G tk 60 tc]) (as := []) cx hP hD hS [] rfl (kr_S (n := 2) (As := [.int (P_X2_letter tf tc i), .int 57]) cx hC gX2_fits_X2_isDigit rfl rfl rfl (by decide +kernel) ⟨Nat.le_of_ble_eq_true rfl, Nat.le_of_ble_eq_true rfl⟩ hP hD [] rfl rfl rfl rfl hl (Nat.le_of_ble_eq_true rfl) dX2_fits_219 ⟨Nat.le_refl _, Nat.le_refl _⟩) ⟨rfl, rfl⟩ rfl (fun H locs hP hD hS => ?_)
        refine lv_goto (tgt := 231) hx hb dX2_fits_222 (by decide) ?_
        subst hq
        exact k_zret (v := (P_X2_isDigit (P_X2_letter tf tc i) 57)) (w1 := [oTx t tk tf, aC G tk 60 tc]) cx (by first | with_reducible exact nz (zb_X2_isDigit _ _) | with_reducible exact nz (zb_X2_fitsUnknown _ _ _ _) | exact rfl) hP hS dX2_fits_231
    replace hq := (if_neg c_7_6).symm.trans hq
    by_cases c_7_7 : i = 7
    · replace hq := (if_pos c_7_7).symm.trans hq
      refine lv_tableIn (tgt := 210) (off := 203) hx hb dX2_fits_7 (sw_lo c_7_7 (by decide)) (sw_hi c_7_7 (by decide)) (sw_at c_7_7 (by decide)) (by decide) ?_
      refine lv_iload_n hx hb dX2_fits_210 rfl (lv_at hl 2 rfl) ?_
      refine lv_bipush (v := 15) hx hb dX2_fits_211 (by decide) ?_
      refine lv_icmp_ge (tgt := 225) hx hb dX2_fits_213 (by decide) (fun c_213 => ?_) (fun c_213 => ?_)
      · replace hq := (if_pos c_213).symm.trans hq
        refine lv_aload_n hx hb dX2_fits_225 rfl (lv_at hl 1 rfl) ?_
        refine lv_iload_n hx hb dX2_fits_226 rfl (lv_at hl 2 rfl) ?_
        refine lv_iload_n hx hb dX2_fits_227 rfl (lv_at hl 0 rfl) ?_
        have hC := c_X2_fitsUnknown l G t tk tf tc i (P_X2_letter tf tc i) (hch)
        refine k_i (ws' := [oTx t tk tf, aC G tk 60 tc]) (as := [t, tk]) cx hP hD hS [0, 1] rfl (kr_V (n := 2) (As := [.int i, .int (P_X2_letter tf tc i)]) (ci := 2) cx hC gX2_fits_X2_fitsUnknown rfl rfl rfl (by decide +kernel) ⟨Nat.le_of_ble_eq_true rfl, Nat.le_of_ble_eq_true rfl⟩ rfl rfl rfl hP hD [0, 1] rfl rfl rfl rfl hl (Nat.le_of_ble_eq_true rfl) dX2_fits_228 ⟨Nat.le_refl _, Nat.le_refl _⟩) ⟨rfl, rfl⟩ rfl (fun H locs hP hD hS => ?_)
        subst hq
        exact k_zret (v := (P_X2_fitsUnknown tf tc i (P_X2_letter tf tc i))) (w1 := [oTx t tk tf, aC G tk 60 tc]) cx (by first | with_reducible exact nz (zb_X2_isDigit _ _) | with_reducible exact nz (zb_X2_fitsUnknown _ _ _ _) | exact rfl) hP hS dX2_fits_231
      · replace hq := (if_neg c_213).symm.trans hq
        refine lv_iload_n hx hb dX2_fits_216 rfl (lv_at hl 0 rfl) ?_
        refine lv_bipush (v := 57) hx hb dX2_fits_217 (by decide) ?_
        have hC := c_X2_isDigit l G (P_X2_letter tf tc i) 57
        refine k_i (ws' := [oTx t tk tf, aC G tk 60 tc]) (as := []) cx hP hD hS [] rfl (kr_S (n := 2) (As := [.int (P_X2_letter tf tc i), .int 57]) cx hC gX2_fits_X2_isDigit rfl rfl rfl (by decide +kernel) ⟨Nat.le_of_ble_eq_true rfl, Nat.le_of_ble_eq_true rfl⟩ hP hD [] rfl rfl rfl rfl hl (Nat.le_of_ble_eq_true rfl) dX2_fits_219 ⟨Nat.le_refl _, Nat.le_refl _⟩) ⟨rfl, rfl⟩ rfl (fun H locs hP hD hS => ?_)
        refine lv_goto (tgt := 231) hx hb dX2_fits_222 (by decide) ?_
        subst hq
        exact k_zret (v := (P_X2_isDigit (P_X2_letter tf tc i) 57)) (w1 := [oTx t tk tf, aC G tk 60 tc]) cx (by first | with_reducible exact nz (zb_X2_isDigit _ _) | with_reducible exact nz (zb_X2_fitsUnknown _ _ _ _) | exact rfl) hP hS dX2_fits_231
    replace hq := (if_neg c_7_7).symm.trans hq
    by_cases c_7_8 : i = 8
    · replace hq := (if_pos c_7_8).symm.trans hq
      refine lv_tableIn (tgt := 99) (off := 92) hx hb dX2_fits_7 (sw_lo c_7_8 (by decide)) (sw_hi c_7_8 (by decide)) (sw_at c_7_8 (by decide)) (by decide) ?_
      refine lv_iload_n hx hb dX2_fits_99 rfl (lv_at hl 0 rfl) ?_
      refine lv_bipush (v := 57) hx hb dX2_fits_100 (by decide) ?_
      have hC := c_X2_isDigit l G (P_X2_letter tf tc i) 57
      refine k_i (ws' := [oTx t tk tf, aC G tk 60 tc]) (as := []) cx hP hD hS [] rfl (kr_S (n := 2) (As := [.int (P_X2_letter tf tc i), .int 57]) cx hC gX2_fits_X2_isDigit rfl rfl rfl (by decide +kernel) ⟨Nat.le_of_ble_eq_true rfl, Nat.le_of_ble_eq_true rfl⟩ hP hD [] rfl rfl rfl rfl hl (Nat.le_of_ble_eq_true rfl) dX2_fits_102 ⟨Nat.le_refl _, Nat.le_refl _⟩) ⟨rfl, rfl⟩ rfl (fun H locs hP hD hS => ?_)
      refine lv_if_eq (tgt := 122) hx hb dX2_fits_105 (by decide) (fun c_105 => ?_) (fun c_105 => ?_)
      · replace hq := (if_pos c_105).symm.trans hq
        refine lv_iconst (v := 0) hx hb dX2_fits_122 (by decide) ?_
        subst hq
        exact k_zret (v := 0) (w1 := [oTx t tk tf, aC G tk 60 tc]) cx (by first | with_reducible exact nz (zb_X2_isDigit _ _) | with_reducible exact nz (zb_X2_fitsUnknown _ _ _ _) | exact rfl) hP hS dX2_fits_123
      · replace hq := (if_neg c_105).symm.trans hq
        refine lv_aload_n hx hb dX2_fits_108 rfl (lv_at hl 1 rfl) ?_
        refine lv_bipush (v := 7) hx hb dX2_fits_109 (by decide) ?_
        refine lv_iconst (v := 2) hx hb dX2_fits_111 (by decide) ?_
        have hC := c_X2_digits l G t tk tf tc 7 2 (hch)
        refine k_i (ws' := [oTx t tk tf, aC G tk 60 tc]) (as := [t, tk]) cx hP hD hS [0, 1] rfl (kr_V (n := 2) (As := [.int 7, .int 2]) (ci := 2) cx hC gX2_fits_X2_digits rfl rfl rfl (by decide +kernel) ⟨Nat.le_of_ble_eq_true rfl, Nat.le_of_ble_eq_true rfl⟩ rfl rfl rfl hP hD [0, 1] rfl rfl rfl rfl hl (Nat.le_of_ble_eq_true rfl) dX2_fits_112 ⟨Nat.le_refl _, Nat.le_refl _⟩) ⟨rfl, rfl⟩ rfl (fun H locs hP hD hS => ?_)
        refine lv_if_le (tgt := 122) hx hb dX2_fits_115 (by decide) (fun c_115 => ?_) (fun c_115 => ?_)
        · replace hq := (if_pos c_115).symm.trans hq
          refine lv_iconst (v := 0) hx hb dX2_fits_122 (by decide) ?_
          subst hq
          exact k_zret (v := 0) (w1 := [oTx t tk tf, aC G tk 60 tc]) cx (by first | with_reducible exact nz (zb_X2_isDigit _ _) | with_reducible exact nz (zb_X2_fitsUnknown _ _ _ _) | exact rfl) hP hS dX2_fits_123
        · replace hq := (if_neg c_115).symm.trans hq
          refine lv_iconst (v := 1) hx hb dX2_fits_118 (by decide) ?_
          refine lv_goto (tgt := 123) hx hb dX2_fits_119 (by decide) ?_
          subst hq
          exact k_zret (v := 1) (w1 := [oTx t tk tf, aC G tk 60 tc]) cx (by first | with_reducible exact nz (zb_X2_isDigit _ _) | with_reducible exact nz (zb_X2_fitsUnknown _ _ _ _) | exact rfl) hP hS dX2_fits_123
    replace hq := (if_neg c_7_8).symm.trans hq
    by_cases c_7_9 : i = 9
    · replace hq := (if_pos c_7_9).symm.trans hq
      refine lv_tableIn (tgt := 92) (off := 85) hx hb dX2_fits_7 (sw_lo c_7_9 (by decide)) (sw_hi c_7_9 (by decide)) (sw_at c_7_9 (by decide)) (by decide) ?_
      refine lv_iload_n hx hb dX2_fits_92 rfl (lv_at hl 0 rfl) ?_
      refine lv_bipush (v := 51) hx hb dX2_fits_93 (by decide) ?_
      have hC := c_X2_isDigit l G (P_X2_letter tf tc i) 51
      refine k_i (ws' := [oTx t tk tf, aC G tk 60 tc]) (as := []) cx hP hD hS [] rfl (kr_S (n := 2) (As := [.int (P_X2_letter tf tc i), .int 51]) cx hC gX2_fits_X2_isDigit rfl rfl rfl (by decide +kernel) ⟨Nat.le_of_ble_eq_true rfl, Nat.le_of_ble_eq_true rfl⟩ hP hD [] rfl rfl rfl rfl hl (Nat.le_of_ble_eq_true rfl) dX2_fits_95 ⟨Nat.le_refl _, Nat.le_refl _⟩) ⟨rfl, rfl⟩ rfl (fun H locs hP hD hS => ?_)
      subst hq
      exact k_zret (v := (P_X2_isDigit (P_X2_letter tf tc i) 51)) (w1 := [oTx t tk tf, aC G tk 60 tc]) cx (by first | with_reducible exact nz (zb_X2_isDigit _ _) | with_reducible exact nz (zb_X2_fitsUnknown _ _ _ _) | exact rfl) hP hS dX2_fits_98
    replace hq := (if_neg c_7_9).symm.trans hq
    by_cases c_7_10 : i = 10
    · replace hq := (if_pos c_7_10).symm.trans hq
      refine lv_tableIn (tgt := 124) (off := 117) hx hb dX2_fits_7 (sw_lo c_7_10 (by decide)) (sw_hi c_7_10 (by decide)) (sw_at c_7_10 (by decide)) (by decide) ?_
      refine lv_iload_n hx hb dX2_fits_124 rfl (lv_at hl 0 rfl) ?_
      refine lv_bipush (v := 43) hx hb dX2_fits_125 (by decide) ?_
      refine lv_icmp_eq (tgt := 136) hx hb dX2_fits_127 (by decide) (fun c_127 => ?_) (fun c_127 => ?_)
      · replace hq := (if_pos c_127).symm.trans hq
        refine lv_iconst (v := 1) hx hb dX2_fits_136 (by decide) ?_
        refine lv_goto (tgt := 141) hx hb dX2_fits_137 (by decide) ?_
        subst hq
        exact k_zret (v := 1) (w1 := [oTx t tk tf, aC G tk 60 tc]) cx (by first | with_reducible exact nz (zb_X2_isDigit _ _) | with_reducible exact nz (zb_X2_fitsUnknown _ _ _ _) | exact rfl) hP hS dX2_fits_141
      · replace hq := (if_neg c_127).symm.trans hq
        refine lv_iload_n hx hb dX2_fits_130 rfl (lv_at hl 0 rfl) ?_
        refine lv_bipush (v := 45) hx hb dX2_fits_131 (by decide) ?_
        refine lv_icmp_ne (tgt := 140) hx hb dX2_fits_133 (by decide) (fun c_133 => ?_) (fun c_133 => ?_)
        · replace hq := (if_neg c_133).symm.trans hq
          refine lv_iconst (v := 0) hx hb dX2_fits_140 (by decide) ?_
          subst hq
          exact k_zret (v := 0) (w1 := [oTx t tk tf, aC G tk 60 tc]) cx (by first | with_reducible exact nz (zb_X2_isDigit _ _) | with_reducible exact nz (zb_X2_fitsUnknown _ _ _ _) | exact rfl) hP hS dX2_fits_141
        · replace hq := (if_pos c_133).symm.trans hq
          refine lv_iconst (v := 1) hx hb dX2_fits_136 (by decide) ?_
          refine lv_goto (tgt := 141) hx hb dX2_fits_137 (by decide) ?_
          subst hq
          exact k_zret (v := 1) (w1 := [oTx t tk tf, aC G tk 60 tc]) cx (by first | with_reducible exact nz (zb_X2_isDigit _ _) | with_reducible exact nz (zb_X2_fitsUnknown _ _ _ _) | exact rfl) hP hS dX2_fits_141
    replace hq := (if_neg c_7_10).symm.trans hq
    by_cases c_7_11 : i = 11
    · replace hq := (if_pos c_7_11).symm.trans hq
      refine lv_tableIn (tgt := 142) (off := 135) hx hb dX2_fits_7 (sw_lo c_7_11 (by decide)) (sw_hi c_7_11 (by decide)) (sw_at c_7_11 (by decide)) (by decide) ?_
      refine lv_iload_n hx hb dX2_fits_142 rfl (lv_at hl 0 rfl) ?_
      refine lv_bipush (v := 53) hx hb dX2_fits_143 (by decide) ?_
      have hC := c_X2_isDigit l G (P_X2_letter tf tc i) 53
      refine k_i (ws' := [oTx t tk tf, aC G tk 60 tc]) (as := []) cx hP hD hS [] rfl (kr_S (n := 2) (As := [.int (P_X2_letter tf tc i), .int 53]) cx hC gX2_fits_X2_isDigit rfl rfl rfl (by decide +kernel) ⟨Nat.le_of_ble_eq_true rfl, Nat.le_of_ble_eq_true rfl⟩ hP hD [] rfl rfl rfl rfl hl (Nat.le_of_ble_eq_true rfl) dX2_fits_145 ⟨Nat.le_refl _, Nat.le_refl _⟩) ⟨rfl, rfl⟩ rfl (fun H locs hP hD hS => ?_)
      subst hq
      exact k_zret (v := (P_X2_isDigit (P_X2_letter tf tc i) 53)) (w1 := [oTx t tk tf, aC G tk 60 tc]) cx (by first | with_reducible exact nz (zb_X2_isDigit _ _) | with_reducible exact nz (zb_X2_fitsUnknown _ _ _ _) | exact rfl) hP hS dX2_fits_148
    replace hq := (if_neg c_7_11).symm.trans hq
    by_cases c_7_12 : i = 12
    · replace hq := (if_pos c_7_12).symm.trans hq
      refine lv_tableIn (tgt := 149) (off := 142) hx hb dX2_fits_7 (sw_lo c_7_12 (by decide)) (sw_hi c_7_12 (by decide)) (sw_at c_7_12 (by decide)) (by decide) ?_
      refine lv_iload_n hx hb dX2_fits_149 rfl (lv_at hl 0 rfl) ?_
      refine lv_bipush (v := 57) hx hb dX2_fits_150 (by decide) ?_
      have hC := c_X2_isDigit l G (P_X2_letter tf tc i) 57
      refine k_i (ws' := [oTx t tk tf, aC G tk 60 tc]) (as := []) cx hP hD hS [] rfl (kr_S (n := 2) (As := [.int (P_X2_letter tf tc i), .int 57]) cx hC gX2_fits_X2_isDigit rfl rfl rfl (by decide +kernel) ⟨Nat.le_of_ble_eq_true rfl, Nat.le_of_ble_eq_true rfl⟩ hP hD [] rfl rfl rfl rfl hl (Nat.le_of_ble_eq_true rfl) dX2_fits_152 ⟨Nat.le_refl _, Nat.le_refl _⟩) ⟨rfl, rfl⟩ rfl (fun H locs hP hD hS => ?_)
      refine lv_if_eq (tgt := 174) hx hb dX2_fits_155 (by decide) (fun c_155 => ?_) (fun c_155 => ?_)
      · replace hq := (if_pos c_155).symm.trans hq
        refine lv_iconst (v := 0) hx hb dX2_fits_174 (by decide) ?_
        subst hq
        exact k_zret (v := 0) (w1 := [oTx t tk tf, aC G tk 60 tc]) cx (by first | with_reducible exact nz (zb_X2_isDigit _ _) | with_reducible exact nz (zb_X2_fitsUnknown _ _ _ _) | exact rfl) hP hS dX2_fits_175
      · replace hq := (if_neg c_155).symm.trans hq
        refine lv_aload_n hx hb dX2_fits_158 rfl (lv_at hl 1 rfl) ?_
        refine lv_bipush (v := 11) hx hb dX2_fits_159 (by decide) ?_
        refine lv_iconst (v := 2) hx hb dX2_fits_161 (by decide) ?_
        have hC := c_X2_digits l G t tk tf tc 11 2 (hch)
        refine k_i (ws' := [oTx t tk tf, aC G tk 60 tc]) (as := [t, tk]) cx hP hD hS [0, 1] rfl (kr_V (n := 2) (As := [.int 11, .int 2]) (ci := 2) cx hC gX2_fits_X2_digits rfl rfl rfl (by decide +kernel) ⟨Nat.le_of_ble_eq_true rfl, Nat.le_of_ble_eq_true rfl⟩ rfl rfl rfl hP hD [0, 1] rfl rfl rfl rfl hl (Nat.le_of_ble_eq_true rfl) dX2_fits_162 ⟨Nat.le_refl _, Nat.le_refl _⟩) ⟨rfl, rfl⟩ rfl (fun H locs hP hD hS => ?_)
        refine lv_bipush (v := 50) hx hb dX2_fits_165 (by decide) ?_
        refine lv_icmp_gt (tgt := 174) hx hb dX2_fits_167 (by decide) (fun c_167 => ?_) (fun c_167 => ?_)
        · replace hq := (if_pos c_167).symm.trans hq
          refine lv_iconst (v := 0) hx hb dX2_fits_174 (by decide) ?_
          subst hq
          exact k_zret (v := 0) (w1 := [oTx t tk tf, aC G tk 60 tc]) cx (by first | with_reducible exact nz (zb_X2_isDigit _ _) | with_reducible exact nz (zb_X2_fitsUnknown _ _ _ _) | exact rfl) hP hS dX2_fits_175
        · replace hq := (if_neg c_167).symm.trans hq
          refine lv_iconst (v := 1) hx hb dX2_fits_170 (by decide) ?_
          refine lv_goto (tgt := 175) hx hb dX2_fits_171 (by decide) ?_
          subst hq
          exact k_zret (v := 1) (w1 := [oTx t tk tf, aC G tk 60 tc]) cx (by first | with_reducible exact nz (zb_X2_isDigit _ _) | with_reducible exact nz (zb_X2_fitsUnknown _ _ _ _) | exact rfl) hP hS dX2_fits_175
    replace hq := (if_neg c_7_12).symm.trans hq
    by_cases c_7_13 : i = 13
    · replace hq := (if_pos c_7_13).symm.trans hq
      refine lv_tableIn (tgt := 176) (off := 169) hx hb dX2_fits_7 (sw_lo c_7_13 (by decide)) (sw_hi c_7_13 (by decide)) (sw_at c_7_13 (by decide)) (by decide) ?_
      refine lv_iload_n hx hb dX2_fits_176 rfl (lv_at hl 0 rfl) ?_
      refine lv_bipush (v := 50) hx hb dX2_fits_177 (by decide) ?_
      have hC := c_X2_isDigit l G (P_X2_letter tf tc i) 50
      refine k_i (ws' := [oTx t tk tf, aC G tk 60 tc]) (as := []) cx hP hD hS [] rfl (kr_S (n := 2) (As := [.int (P_X2_letter tf tc i), .int 50]) cx hC gX2_fits_X2_isDigit rfl rfl rfl (by decide +kernel) ⟨Nat.le_of_ble_eq_true rfl, Nat.le_of_ble_eq_true rfl⟩ hP hD [] rfl rfl rfl rfl hl (Nat.le_of_ble_eq_true rfl) dX2_fits_179 ⟨Nat.le_refl _, Nat.le_refl _⟩) ⟨rfl, rfl⟩ rfl (fun H locs hP hD hS => ?_)
      subst hq
      exact k_zret (v := (P_X2_isDigit (P_X2_letter tf tc i) 50)) (w1 := [oTx t tk tf, aC G tk 60 tc]) cx (by first | with_reducible exact nz (zb_X2_isDigit _ _) | with_reducible exact nz (zb_X2_fitsUnknown _ _ _ _) | exact rfl) hP hS dX2_fits_182
    replace hq := (if_neg c_7_13).symm.trans hq
    by_cases c_7_14 : i = 14
    · replace hq := (if_pos c_7_14).symm.trans hq
      refine lv_tableIn (tgt := 183) (off := 176) hx hb dX2_fits_7 (sw_lo c_7_14 (by decide)) (sw_hi c_7_14 (by decide)) (sw_at c_7_14 (by decide)) (by decide) ?_
      refine lv_iload_n hx hb dX2_fits_183 rfl (lv_at hl 0 rfl) ?_
      refine lv_bipush (v := 57) hx hb dX2_fits_184 (by decide) ?_
      have hC := c_X2_isDigit l G (P_X2_letter tf tc i) 57
      refine k_i (ws' := [oTx t tk tf, aC G tk 60 tc]) (as := []) cx hP hD hS [] rfl (kr_S (n := 2) (As := [.int (P_X2_letter tf tc i), .int 57]) cx hC gX2_fits_X2_isDigit rfl rfl rfl (by decide +kernel) ⟨Nat.le_of_ble_eq_true rfl, Nat.le_of_ble_eq_true rfl⟩ hP hD [] rfl rfl rfl rfl hl (Nat.le_of_ble_eq_true rfl) dX2_fits_186 ⟨Nat.le_refl _, Nat.le_refl _⟩) ⟨rfl, rfl⟩ rfl (fun H locs hP hD hS => ?_)
      refine lv_if_eq (tgt := 208) hx hb dX2_fits_189 (by decide) (fun c_189 => ?_) (fun c_189 => ?_)
      · replace hq := (if_pos c_189).symm.trans hq
        refine lv_iconst (v := 0) hx hb dX2_fits_208 (by decide) ?_
        subst hq
        exact k_zret (v := 0) (w1 := [oTx t tk tf, aC G tk 60 tc]) cx (by first | with_reducible exact nz (zb_X2_isDigit _ _) | with_reducible exact nz (zb_X2_fitsUnknown _ _ _ _) | exact rfl) hP hS dX2_fits_209
      · replace hq := (if_neg c_189).symm.trans hq
        refine lv_aload_n hx hb dX2_fits_192 rfl (lv_at hl 1 rfl) ?_
        refine lv_bipush (v := 13) hx hb dX2_fits_193 (by decide) ?_
        refine lv_iconst (v := 2) hx hb dX2_fits_195 (by decide) ?_
        have hC := c_X2_digits l G t tk tf tc 13 2 (hch)
        refine k_i (ws' := [oTx t tk tf, aC G tk 60 tc]) (as := [t, tk]) cx hP hD hS [0, 1] rfl (kr_V (n := 2) (As := [.int 13, .int 2]) (ci := 2) cx hC gX2_fits_X2_digits rfl rfl rfl (by decide +kernel) ⟨Nat.le_of_ble_eq_true rfl, Nat.le_of_ble_eq_true rfl⟩ rfl rfl rfl hP hD [0, 1] rfl rfl rfl rfl hl (Nat.le_of_ble_eq_true rfl) dX2_fits_196 ⟨Nat.le_refl _, Nat.le_refl _⟩) ⟨rfl, rfl⟩ rfl (fun H locs hP hD hS => ?_)
        refine lv_bipush (v := 20) hx hb dX2_fits_199 (by decide) ?_
        refine lv_icmp_gt (tgt := 208) hx hb dX2_fits_201 (by decide) (fun c_201 => ?_) (fun c_201 => ?_)
        · replace hq := (if_pos c_201).symm.trans hq
          refine lv_iconst (v := 0) hx hb dX2_fits_208 (by decide) ?_
          subst hq
          exact k_zret (v := 0) (w1 := [oTx t tk tf, aC G tk 60 tc]) cx (by first | with_reducible exact nz (zb_X2_isDigit _ _) | with_reducible exact nz (zb_X2_fitsUnknown _ _ _ _) | exact rfl) hP hS dX2_fits_209
        · replace hq := (if_neg c_201).symm.trans hq
          refine lv_iconst (v := 1) hx hb dX2_fits_204 (by decide) ?_
          refine lv_goto (tgt := 209) hx hb dX2_fits_205 (by decide) ?_
          subst hq
          exact k_zret (v := 1) (w1 := [oTx t tk tf, aC G tk 60 tc]) cx (by first | with_reducible exact nz (zb_X2_isDigit _ _) | with_reducible exact nz (zb_X2_fitsUnknown _ _ _ _) | exact rfl) hP hS dX2_fits_209
    replace hq := (if_neg c_7_14).symm.trans hq
    have e0 := lv_neT (a := 0) c_7_0 (by decide)
    have e1 := lv_neT (a := 1) c_7_1 (by decide)
    have e2 := lv_neT (a := 2) c_7_2 (by decide)
    have e3 := lv_neT (a := 3) c_7_3 (by decide)
    have e4 := lv_neT (a := 4) c_7_4 (by decide)
    have e5 := lv_neT (a := 5) c_7_5 (by decide)
    have e6 := lv_neT (a := 6) c_7_6 (by decide)
    have e7 := lv_neT (a := 7) c_7_7 (by decide)
    have e8 := lv_neT (a := 8) c_7_8 (by decide)
    have e9 := lv_neT (a := 9) c_7_9 (by decide)
    have e10 := lv_neT (a := 10) c_7_10 (by decide)
    have e11 := lv_neT (a := 11) c_7_11 (by decide)
    have e12 := lv_neT (a := 12) c_7_12 (by decide)
    have e13 := lv_neT (a := 13) c_7_13 (by decide)
    have e14 := lv_neT (a := 14) c_7_14 (by decide)
    refine lv_tableOut (tgt := 210) hx hb dX2_fits_7 (by omega) (by decide) ?_
    refine lv_iload_n hx hb dX2_fits_210 rfl (lv_at hl 2 rfl) ?_
    refine lv_bipush (v := 15) hx hb dX2_fits_211 (by decide) ?_
    refine lv_icmp_ge (tgt := 225) hx hb dX2_fits_213 (by decide) (fun c_213 => ?_) (fun c_213 => ?_)
    · replace hq := (if_pos c_213).symm.trans hq
      refine lv_aload_n hx hb dX2_fits_225 rfl (lv_at hl 1 rfl) ?_
      refine lv_iload_n hx hb dX2_fits_226 rfl (lv_at hl 2 rfl) ?_
      refine lv_iload_n hx hb dX2_fits_227 rfl (lv_at hl 0 rfl) ?_
      have hC := c_X2_fitsUnknown l G t tk tf tc i (P_X2_letter tf tc i) (hch)
      refine k_i (ws' := [oTx t tk tf, aC G tk 60 tc]) (as := [t, tk]) cx hP hD hS [0, 1] rfl (kr_V (n := 2) (As := [.int i, .int (P_X2_letter tf tc i)]) (ci := 2) cx hC gX2_fits_X2_fitsUnknown rfl rfl rfl (by decide +kernel) ⟨Nat.le_of_ble_eq_true rfl, Nat.le_of_ble_eq_true rfl⟩ rfl rfl rfl hP hD [0, 1] rfl rfl rfl rfl hl (Nat.le_of_ble_eq_true rfl) dX2_fits_228 ⟨Nat.le_refl _, Nat.le_refl _⟩) ⟨rfl, rfl⟩ rfl (fun H locs hP hD hS => ?_)
      subst hq
      exact k_zret (v := (P_X2_fitsUnknown tf tc i (P_X2_letter tf tc i))) (w1 := [oTx t tk tf, aC G tk 60 tc]) cx (by first | with_reducible exact nz (zb_X2_isDigit _ _) | with_reducible exact nz (zb_X2_fitsUnknown _ _ _ _) | exact rfl) hP hS dX2_fits_231
    · replace hq := (if_neg c_213).symm.trans hq
      refine lv_iload_n hx hb dX2_fits_216 rfl (lv_at hl 0 rfl) ?_
      refine lv_bipush (v := 57) hx hb dX2_fits_217 (by decide) ?_
      have hC := c_X2_isDigit l G (P_X2_letter tf tc i) 57
      refine k_i (ws' := [oTx t tk tf, aC G tk 60 tc]) (as := []) cx hP hD hS [] rfl (kr_S (n := 2) (As := [.int (P_X2_letter tf tc i), .int 57]) cx hC gX2_fits_X2_isDigit rfl rfl rfl (by decide +kernel) ⟨Nat.le_of_ble_eq_true rfl, Nat.le_of_ble_eq_true rfl⟩ hP hD [] rfl rfl rfl rfl hl (Nat.le_of_ble_eq_true rfl) dX2_fits_219 ⟨Nat.le_refl _, Nat.le_refl _⟩) ⟨rfl, rfl⟩ rfl (fun H locs hP hD hS => ?_)
      refine lv_goto (tgt := 231) hx hb dX2_fits_222 (by decide) ?_
      subst hq
      exact k_zret (v := (P_X2_isDigit (P_X2_letter tf tc i) 57)) (w1 := [oTx t tk tf, aC G tk 60 tc]) cx (by first | with_reducible exact nz (zb_X2_isDigit _ _) | with_reducible exact nz (zb_X2_fitsUnknown _ _ _ _) | exact rfl) hP hS dX2_fits_231
  subst hL
  subst hH
  subst hq
  exact key _ _ hP hD hS
theorem zb_X2_fits (tf : Nat → Int32) (tc : Nat → Int32) (i : Int32) : P_X2_fits tf tc i = 0 ∨ P_X2_fits tf tc i = 1 := by
  unfold P_X2_fits
  repeat' first | with_reducible refine zif ?_ ?_ | with_reducible exact Or.inl rfl | with_reducible exact Or.inr rfl | with_reducible exact zb_X2_isDigit _ _ | with_reducible exact zb_X2_fitsUnknown _ _ _ _

/-! X2_firstError -/
theorem hi_X2_firstError_2 : ∀ w ∈ u_ws RX2 TX2 2, w ∈ wsX2_firstError := by decide +kernel
abbrev rm_X2_firstError : Room := { frames := 4, cells := 0, slots := 0, locals := 90 }
abbrev Q_X2_firstError (G : gG) (t : Nat) (tk : Nat)  (tf : Nat → Int32) (tc : Nat → Int32) (tgt : Int32) (below : List Frame) (args : Array Value) (s : State) (A : Nat → Prop) : State → Prop := MQ below (qI G tgt [oTx t tk tf, aC G tk 60 tc] A) args s 0 0 A
def P_X2_firstError_2 (tf : Nat → Int32) (tc : Nat → Int32) : Nat → Int32 → Int32
  | 0, _ => 0
  | n + 1, v1 => (if (tf 1) ≤ v1 then (let j50 := fun (_ : Unit) => (tf 1); (if ((tf 1) - 15) ≤ 0 then (j50 ()) else (if (((tf 1) - 15) - ((tf 1) - 15) / 5 * 5) = 0 then (-9999) else (j50 ())))) else (if (P_X2_fits tf tc v1) = 0 then v1 else (P_X2_firstError_2 tf tc n (v1 + 1))))
set_option maxHeartbeats 4000000 in
set_option maxRecDepth 100000 in
theorem b_X2_firstError_2 {p : Program} {l : Launch} {e : Env} {s : State} {m : MethodId} {args : Array Value} {below : List Frame} {meth : Method} {c : Code} {G : gG} {A : Nat → Prop} (cx : Cx p s m args meth c cX2_firstError 2 yX2_firstError.cls wsX2_firstError (some .int) G A) (t : Nat) (tk : Nat) (tf : Nat → Int32) (tc : Nat → Int32) (hch : ∀ j, narrow .char (.int (tc j)) = .int (tc j))  (tgt : Int32) : ∀ (n : Nat) (v1 : Int32) (h0 : ¬ v1 < 0) (hm : (((tf 1)).toInt - (v1 : Int32).toInt).toNat < n) (hq : P_X2_firstError_2  tf tc n v1 = tgt) (H : Heap) (locs : List Loc) (hP : va_P G.1 vwCl [oTx t tk tf, aC G tk 60 tc] H) (hD : va_D A [oTx t tk tf, aC G tk 60 tc]) (hS : va_S A s.heap H locs) (ls : Array Slot) (hl : lv_has ls 2 [(0, .ref t), (1, .int v1)]), W p l e rm_X2_firstError s m args below meth c H locs 0 0 (Q_X2_firstError G t tk tf tc tgt below args s A) (F0 m 2 ls []) := by
  obtain ⟨hx, hb, hml, hown, hts, hr, hlocks, hK, hA⟩ := id cx
  intro n
  induction n with
  | zero => intros; omega
  | succ n ih =>
    intro v1 h0 hm hq H locs hP hD hS ls hl
    unfold P_X2_firstError_2 at hq
    refine lv_iload_n hx hb dX2_firstError_2 rfl (lv_at hl 1 rfl) ?_
    refine lv_aload_n hx hb dX2_firstError_3 rfl (lv_at hl 0 rfl) ?_
    refine k_get (v := .int (tf 1)) (T := TX2) (C := RX2) (N := 2) cx hi_X2_firstError_2 hP 0 rfl rfl 1 (by decide) (by decide +kernel) rfl dX2_firstError_4 ?_
    refine lv_icmp_ge (tgt := 26) hx hb dX2_firstError_7 (by decide) (fun c_7 => ?_) (fun c_7 => ?_)
    · replace hq := (if_pos c_7).symm.trans hq
      refine lv_aload_n hx hb dX2_firstError_26 rfl (lv_at hl 0 rfl) ?_
      refine k_get (v := .int (tf 1)) (T := TX2) (C := RX2) (N := 2) cx hi_X2_firstError_2 hP 0 rfl rfl 1 (by decide) (by decide +kernel) rfl dX2_firstError_27 ?_
      refine lv_bipush (v := 15) hx hb dX2_firstError_30 (by decide) ?_
      refine lv_isub hx hb dX2_firstError_32 ?_
      refine lv_istore_n (lv' := [(1, .int ((tf 1) - 15)), (0, .ref t)]) hx hb dX2_firstError_33 rfl hl (by decide) rfl (fun ls hl => ?_)
      refine lv_iload_n hx hb dX2_firstError_34 rfl (lv_at hl 0 rfl) ?_
      have J50 : ∀ (_ : Unit), (tf 1) = tgt → ∀ (H : Heap) (locs : List Loc) (ls : Array Slot), va_P G.1 vwCl [oTx t tk tf, aC G tk 60 tc] H → va_D A [oTx t tk tf, aC G tk 60 tc] → va_S A s.heap H locs → lv_has ls 2 [(0, .ref t)] → W p l e rm_X2_firstError s m args below meth c H locs 0 0 (Q_X2_firstError G t tk tf tc tgt below args s A) (F0 m 50 ls []) := by
        intro _ hq H locs ls hP hD hS hl
        refine lv_aload_n hx hb dX2_firstError_50 rfl (lv_at hl 0 rfl) ?_
        refine k_get (v := .int (tf 1)) (T := TX2) (C := RX2) (N := 2) cx hi_X2_firstError_2 hP 0 rfl rfl 1 (by decide) (by decide +kernel) rfl dX2_firstError_51 ?_
        subst hq
        exact k_iret cx hP hS dX2_firstError_54
      refine lv_if_le (tgt := 50) hx hb dX2_firstError_35 (by decide) (fun c_35 => ?_) (fun c_35 => ?_)
      · replace hq := (if_pos c_35).symm.trans hq
        exact J50 () hq H locs ls hP hD hS (lv_sub hl [1] rfl)
      · replace hq := (if_neg c_35).symm.trans hq
        refine lv_iload_n hx hb dX2_firstError_38 rfl (lv_at hl 0 rfl) ?_
        refine lv_iconst (v := 5) hx hb dX2_firstError_39 (by decide) ?_
        refine lv_irem hx hb dX2_firstError_40 (by decide) ?_
        refine lv_if_ne (tgt := 50) hx hb dX2_firstError_41 (by decide) (fun c_41 => ?_) (fun c_41 => ?_)
        · replace hq := (if_neg c_41).symm.trans hq
          exact J50 () hq H locs ls hP hD hS (lv_sub hl [1] rfl)
        · replace hq := (if_pos c_41).symm.trans hq
          refine lv_sipush (v := (-9999)) hx hb dX2_firstError_44 (by decide) ?_
          refine lv_goto (tgt := 54) hx hb dX2_firstError_47 (by decide) ?_
          subst hq
          exact k_iret cx hP hS dX2_firstError_54
    · replace hq := (if_neg c_7).symm.trans hq
      refine lv_aload_n hx hb dX2_firstError_10 rfl (lv_at hl 0 rfl) ?_
      refine lv_iload_n hx hb dX2_firstError_11 rfl (lv_at hl 1 rfl) ?_
      have hC := c_X2_fits l G t tk tf tc v1 (hch)
      refine k_i (ws' := [oTx t tk tf, aC G tk 60 tc]) (as := [t, tk]) cx hP hD hS [0, 1] rfl (kr_V (n := 1) (As := [.int v1]) (ci := 2) cx hC gX2_firstError_X2_fits rfl rfl rfl (by decide +kernel) ⟨Nat.le_of_ble_eq_true rfl, Nat.le_of_ble_eq_true rfl⟩ rfl rfl rfl hP hD [0, 1] rfl rfl rfl rfl hl (Nat.le_of_ble_eq_true rfl) dX2_firstError_12 ⟨Nat.le_refl _, Nat.le_refl _⟩) ⟨rfl, rfl⟩ rfl (fun H locs hP hD hS => ?_)
      refine lv_if_ne (tgt := 20) hx hb dX2_firstError_15 (by decide) (fun c_15 => ?_) (fun c_15 => ?_)
      · replace hq := (if_neg c_15).symm.trans hq
        refine lv_iinc (v := (v1 + 1)) (lv' := [(1, .int (v1 + 1)), (0, .ref t)]) hx hb dX2_firstError_20 hl (k := 1) rfl rfl (by decide) rfl (fun ls hl => ?_)
        refine lv_goto (tgt := 2) hx hb dX2_firstError_23 (by decide) ?_
        exact ih (v1 + 1) (nn_inc h0 (N := (tf 1)) (by assumption)) (by have hmd := mu_up (N := (tf 1)) (by assumption); omega) hq H locs hP hD hS _ (lv_sub hl [1, 0] rfl)
      · replace hq := (if_pos c_15).symm.trans hq
        refine lv_iload_n hx hb dX2_firstError_18 rfl (lv_at hl 1 rfl) ?_
        subst hq
        exact k_iret cx hP hS dX2_firstError_19
def P_X2_firstError (tf : Nat → Int32) (tc : Nat → Int32) : Int32 := (P_X2_firstError_2 tf tc ((((tf 1)).toInt - (0 : Int32).toInt).toNat + 1) 0)
set_option maxHeartbeats 4000000 in
set_option maxRecDepth 100000 in
theorem c_X2_firstError (l : Launch) (G : gG) (t : Nat) (tk : Nat) (tf : Nat → Int32) (tc : Nat → Int32) (hch : ∀ j, narrow .char (.int (tc j)) = .int (tc j)) : kM l G yX2_firstError wsX2_firstError rm_X2_firstError [.ref t] [oTx t tk tf, aC G tk 60 tc] (qI G ((P_X2_firstError tf tc)) [oTx t tk tf, aC G tk 60 tc]) := by
  refine k_body (cc := cX2_firstError) (nL := 2) (ret := (some .int)) (by decide) rfl (Nat.le_of_ble_eq_true rfl) ?_
  intro p e s m args below meth c A cx hP hD hS ls hl
  obtain ⟨hx, hb, hml, hown, hts, hr, hlocks, hK, hA⟩ := id cx
  obtain ⟨H, hH⟩ : ∃ H, H = s.heap := ⟨_, rfl⟩
  obtain ⟨locs, hL⟩ : ∃ locs : List Loc, locs = [] := ⟨_, rfl⟩
  obtain ⟨tgt, hq⟩ : ∃ tgt, (P_X2_firstError tf tc) = tgt := ⟨_, rfl⟩
  have hS : va_S A s.heap H locs := by rw [hH, hL]; exact hS
  rw [← hH] at hP
  have hl : lv_has ls 2 [(0, .ref t)] := hl
  have key : ∀ (H : Heap) (locs : List Loc), va_P G.1 vwCl [oTx t tk tf, aC G tk 60 tc] H → va_D A [oTx t tk tf, aC G tk 60 tc] → va_S A s.heap H locs → W p l e rm_X2_firstError s m args below meth c H locs 0 0 (Q_X2_firstError G t tk tf tc tgt below args s A) (F0 m 0 ls []) := by
    clear hP hD hS hH hL
    intro H locs hP hD hS
    unfold P_X2_firstError at hq
    refine lv_iconst (v := 0) hx hb dX2_firstError_0 (by decide) ?_
    refine lv_istore_n (lv' := [(1, .int 0), (0, .ref t)]) hx hb dX2_firstError_1 rfl hl (by decide) rfl (fun ls hl => ?_)
    exact b_X2_firstError_2 cx t tk tf tc hch tgt ((((tf 1)).toInt - (0 : Int32).toInt).toNat + 1) 0 (by decide) (Nat.lt_succ_self _) hq H locs hP hD hS _ (lv_sub hl [1, 0] rfl)
  subst hL
  subst hH
  subst hq
  exact key _ _ hP hD hS

/-! X2_unknowns -/
theorem hi_X2_unknowns_2 : ∀ w ∈ u_ws RX2 TX2 2, w ∈ wsX2_unknowns := by decide +kernel
abbrev rm_X2_unknowns : Room := { frames := 0, cells := 0, slots := 0, locals := 0 }
abbrev Q_X2_unknowns (G : gG) (t : Nat) (tk : Nat)  (tf : Nat → Int32) (tgt : Int32) (below : List Frame) (args : Array Value) (s : State) (A : Nat → Prop) : State → Prop := MQ below (qI G tgt [oTx t tk tf] A) args s 0 0 A
def P_X2_unknowns (tf : Nat → Int32) : Int32 := (((tf 1) - 15) / 5)
set_option maxHeartbeats 4000000 in
set_option maxRecDepth 100000 in
theorem c_X2_unknowns (l : Launch) (G : gG) (t : Nat) (tk : Nat) (tf : Nat → Int32)  : kM l G yX2_unknowns wsX2_unknowns rm_X2_unknowns [.ref t] [oTx t tk tf] (qI G ((P_X2_unknowns tf)) [oTx t tk tf]) := by
  refine k_body (cc := cX2_unknowns) (nL := 1) (ret := (some .int)) (by decide) rfl (Nat.le_of_ble_eq_true rfl) ?_
  intro p e s m args below meth c A cx hP hD hS ls hl
  obtain ⟨hx, hb, hml, hown, hts, hr, hlocks, hK, hA⟩ := id cx
  obtain ⟨H, hH⟩ : ∃ H, H = s.heap := ⟨_, rfl⟩
  obtain ⟨locs, hL⟩ : ∃ locs : List Loc, locs = [] := ⟨_, rfl⟩
  obtain ⟨tgt, hq⟩ : ∃ tgt, (P_X2_unknowns tf) = tgt := ⟨_, rfl⟩
  have hS : va_S A s.heap H locs := by rw [hH, hL]; exact hS
  rw [← hH] at hP
  have hl : lv_has ls 1 [(0, .ref t)] := hl
  have key : ∀ (H : Heap) (locs : List Loc), va_P G.1 vwCl [oTx t tk tf] H → va_D A [oTx t tk tf] → va_S A s.heap H locs → W p l e rm_X2_unknowns s m args below meth c H locs 0 0 (Q_X2_unknowns G t tk tf tgt below args s A) (F0 m 0 ls []) := by
    clear hP hD hS hH hL
    intro H locs hP hD hS
    unfold P_X2_unknowns at hq
    refine lv_aload_n hx hb dX2_unknowns_0 rfl (lv_at hl 0 rfl) ?_
    refine k_get (v := .int (tf 1)) (T := TX2) (C := RX2) (N := 2) cx hi_X2_unknowns_2 hP 0 rfl rfl 1 (by decide) (by decide +kernel) rfl dX2_unknowns_1 ?_
    refine lv_bipush (v := 15) hx hb dX2_unknowns_4 (by decide) ?_
    refine lv_isub hx hb dX2_unknowns_6 ?_
    refine lv_iconst (v := 5) hx hb dX2_unknowns_7 (by decide) ?_
    refine lv_idiv hx hb dX2_unknowns_8 (by decide) ?_
    subst hq
    exact k_iret cx hP hS dX2_unknowns_9
  subst hL
  subst hH
  subst hq
  exact key _ _ hP hD hS

/-! X2_unknownAt -/
abbrev rm_X2_unknownAt : Room := { frames := 2, cells := 0, slots := 0, locals := 45 }
abbrev Q_X2_unknownAt (G : gG) (t : Nat) (tk : Nat)  (tf : Nat → Int32) (tc : Nat → Int32) (tgt : Int32) (below : List Frame) (args : Array Value) (s : State) (A : Nat → Prop) : State → Prop := MQ below (qI G tgt [oTx t tk tf, aC G tk 60 tc] A) args s 0 0 A
def P_X2_unknownAt (tf : Nat → Int32) (tc : Nat → Int32) (i : Int32) : Int32 := (P_X2_digits tf tc ((15 + (5 * i)) + 1) 4)
set_option maxHeartbeats 4000000 in
set_option maxRecDepth 100000 in
theorem c_X2_unknownAt (l : Launch) (G : gG) (t : Nat) (tk : Nat) (tf : Nat → Int32) (tc : Nat → Int32) (i : Int32) (hch : ∀ j, narrow .char (.int (tc j)) = .int (tc j)) : kM l G yX2_unknownAt wsX2_unknownAt rm_X2_unknownAt [.ref t, .int i] [oTx t tk tf, aC G tk 60 tc] (qI G ((P_X2_unknownAt tf tc i)) [oTx t tk tf, aC G tk 60 tc]) := by
  refine k_body (cc := cX2_unknownAt) (nL := 2) (ret := (some .int)) (by decide) rfl (Nat.le_of_ble_eq_true rfl) ?_
  intro p e s m args below meth c A cx hP hD hS ls hl
  obtain ⟨hx, hb, hml, hown, hts, hr, hlocks, hK, hA⟩ := id cx
  obtain ⟨H, hH⟩ : ∃ H, H = s.heap := ⟨_, rfl⟩
  obtain ⟨locs, hL⟩ : ∃ locs : List Loc, locs = [] := ⟨_, rfl⟩
  obtain ⟨tgt, hq⟩ : ∃ tgt, (P_X2_unknownAt tf tc i) = tgt := ⟨_, rfl⟩
  have hS : va_S A s.heap H locs := by rw [hH, hL]; exact hS
  rw [← hH] at hP
  have hl : lv_has ls 2 [(0, .ref t), (1, .int i)] := hl
  have key : ∀ (H : Heap) (locs : List Loc), va_P G.1 vwCl [oTx t tk tf, aC G tk 60 tc] H → va_D A [oTx t tk tf, aC G tk 60 tc] → va_S A s.heap H locs → W p l e rm_X2_unknownAt s m args below meth c H locs 0 0 (Q_X2_unknownAt G t tk tf tc tgt below args s A) (F0 m 0 ls []) := by
    clear hP hD hS hH hL
    intro H locs hP hD hS
    unfold P_X2_unknownAt at hq
    refine lv_aload_n hx hb dX2_unknownAt_0 rfl (lv_at hl 0 rfl) ?_
    refine lv_bipush (v := 15) hx hb dX2_unknownAt_1 (by decide) ?_
    refine lv_iconst (v := 5) hx hb dX2_unknownAt_3 (by decide) ?_
    refine lv_iload_n hx hb dX2_unknownAt_4 rfl (lv_at hl 1 rfl) ?_
    refine lv_imul hx hb dX2_unknownAt_5 ?_
    refine lv_iadd hx hb dX2_unknownAt_6 ?_
    refine lv_iconst (v := 1) hx hb dX2_unknownAt_7 (by decide) ?_
    refine lv_iadd hx hb dX2_unknownAt_8 ?_
    refine lv_iconst (v := 4) hx hb dX2_unknownAt_9 (by decide) ?_
    have hC := c_X2_digits l G t tk tf tc ((15 + (5 * i)) + 1) 4 (hch)
    refine k_i (ws' := [oTx t tk tf, aC G tk 60 tc]) (as := [t, tk]) cx hP hD hS [0, 1] rfl (kr_V (n := 2) (As := [.int ((15 + (5 * i)) + 1), .int 4]) (ci := 2) cx hC gX2_unknownAt_X2_digits rfl rfl rfl (by decide +kernel) ⟨Nat.le_of_ble_eq_true rfl, Nat.le_of_ble_eq_true rfl⟩ rfl rfl rfl hP hD [0, 1] rfl rfl rfl rfl hl (Nat.le_of_ble_eq_true rfl) dX2_unknownAt_10 ⟨Nat.le_refl _, Nat.le_refl _⟩) ⟨rfl, rfl⟩ rfl (fun H locs hP hD hS => ?_)
    subst hq
    exact k_iret cx hP hS dX2_unknownAt_13
  subst hL
  subst hH
  subst hq
  exact key _ _ hP hD hS

/-! X1_take -/
theorem hi_X1_take_1 : ∀ w ∈ u_ws RX1 TX1 16, w ∈ wsX1_take := by decide +kernel
abbrev rm_X1_take : Room := { frames := 3, cells := 0, slots := 0, locals := 66 }
abbrev Q_X1_take (G : gG) (h : Nat) (o : Nat) (g : Nat) (k : Nat) (t : Nat) (tk : Nat)  (ce : Nat → Int32) (tf : Nat → Int32) (tc : Nat → Int32) (tgt : (Nat → Int32) × (Nat → Int32) × (Nat → Int32)) (below : List Frame) (args : Array Value) (s : State) (A : Nat → Prop) : State → Prop := MQ below (qV G [oSt h o g tgt.1, aI G o 6 tgt.2.1, oLed g k tgt.2.2, aI G k 80 ce, oTx t tk tf, aC G tk 60 tc] A) args s 0 0 A
def P_X1_take_128 (ce : Nat → Int32) (tf : Nat → Int32) (tc : Nat → Int32) : Nat → Int32 → (Nat → Int32) → (Nat → Int32) → (Nat → Int32) → (Nat → Int32) × (Nat → Int32) × (Nat → Int32)
  | 0, _, _, _, _ => ((fun _ => 0), (fun _ => 0), (fun _ => 0))
  | n + 1, v2, f, oh, lf => (let j157 := fun (_ : Unit) => (let u166 := P_X0_wipe lf; ((upd f 14 0), oh, u166)); (if (P_X2_unknowns tf) ≤ v2 then (j157 ()) else (if 6 ≤ v2 then (j157 ()) else (let u148 := P_X1_putUnknown f oh (P_X2_unknownAt tf tc v2); (P_X1_take_128 ce tf tc n (v2 + 1) u148.1 u148.2 lf)))))
set_option maxHeartbeats 4000000 in
set_option maxRecDepth 100000 in
theorem b_X1_take_128 {p : Program} {l : Launch} {e : Env} {s : State} {m : MethodId} {args : Array Value} {below : List Frame} {meth : Method} {c : Code} {G : gG} {A : Nat → Prop} (cx : Cx p s m args meth c cX1_take 3 yX1_take.cls wsX1_take none G A) (h : Nat) (o : Nat) (g : Nat) (k : Nat) (t : Nat) (tk : Nat) (ce : Nat → Int32) (tf : Nat → Int32) (tc : Nat → Int32) (hch : ∀ j, narrow .char (.int (tc j)) = .int (tc j))  (tgt : (Nat → Int32) × (Nat → Int32) × (Nat → Int32)) : ∀ (n : Nat) (v2 : Int32) (f : Nat → Int32) (oh : Nat → Int32) (lf : Nat → Int32) (h0 : ¬ v2 < 0) (hm : (((6 : Int32)).toInt - (v2 : Int32).toInt).toNat < n) (hq : P_X1_take_128  ce tf tc n v2 f oh lf = tgt) (H : Heap) (locs : List Loc) (hP : va_P G.1 vwCl [oSt h o g f, aI G o 6 oh, oLed g k lf, aI G k 80 ce, oTx t tk tf, aC G tk 60 tc] H) (hD : va_D A [oSt h o g f, aI G o 6 oh, oLed g k lf, aI G k 80 ce, oTx t tk tf, aC G tk 60 tc]) (hS : va_S A s.heap H locs) (ls : Array Slot) (hl : lv_has ls 3 [(0, .ref h), (1, .ref t), (2, .int v2)]), W p l e rm_X1_take s m args below meth c H locs 0 0 (Q_X1_take G h o g k t tk ce tf tc tgt below args s A) (F0 m 128 ls []) := by
  obtain ⟨hx, hb, hml, hown, hts, hr, hlocks, hK, hA⟩ := id cx
  intro n
  induction n with
  | zero => intros; omega
  | succ n ih =>
    intro v2 f oh lf h0 hm hq H locs hP hD hS ls hl
    unfold P_X1_take_128 at hq
    refine lv_iload_n hx hb dX1_take_128 rfl (lv_at hl 2 rfl) ?_
    refine lv_aload_n hx hb dX1_take_129 rfl (lv_at hl 1 rfl) ?_
    have hC := c_X2_unknowns l G t tk tf
    refine k_i (ws' := [oSt h o g f, aI G o 6 oh, oLed g k lf, aI G k 80 ce, oTx t tk tf, aC G tk 60 tc]) (as := [t]) cx hP hD hS [4] rfl (kr_VN (n := 0) (As := []) (ci := 2) cx hC gX1_take_X2_unknowns_n84 rfl rfl rfl nn_X1_84 (by decide +kernel) (by decide +kernel) (by decide +kernel) (by decide +kernel) ⟨Nat.le_of_ble_eq_true rfl, Nat.le_of_ble_eq_true rfl⟩ rfl rfl rfl hP hD [4] rfl rfl rfl rfl hl (Nat.le_of_ble_eq_true rfl) dX1_take_130 ⟨Nat.le_refl _, Nat.le_refl _⟩) ⟨rfl, rfl⟩ rfl (fun H locs hP hD hS => ?_)
    have J157 : ∀ (_ : Unit), (let u166 := P_X0_wipe lf; ((upd f 14 0), oh, u166)) = tgt → ∀ (H : Heap) (locs : List Loc) (ls : Array Slot), va_P G.1 vwCl [oSt h o g f, aI G o 6 oh, oLed g k lf, aI G k 80 ce, oTx t tk tf, aC G tk 60 tc] H → va_D A [oSt h o g f, aI G o 6 oh, oLed g k lf, aI G k 80 ce, oTx t tk tf, aC G tk 60 tc] → va_S A s.heap H locs → lv_has ls 3 [(0, .ref h), (1, .ref t)] → W p l e rm_X1_take s m args below meth c H locs 0 0 (Q_X1_take G h o g k t tk ce tf tc tgt below args s A) (F0 m 157 ls []) := by
      intro _ hq H locs ls hP hD hS hl
      refine lv_aload_n hx hb dX1_take_157 rfl (lv_at hl 0 rfl) ?_
      refine lv_iconst (v := 0) hx hb dX1_take_158 (by decide) ?_
      refine k_put (ws' := [oSt h o g (upd f 14 0), aI G o 6 oh, oLed g k lf, aI G k 80 ce, oTx t tk tf, aC G tk 60 tc]) (ty := .int) (T := TX1) (C := RX1) (N := 16) cx hi_X1_take_1 tyX1_ok nmX1 hP hD hS 0 rfl rfl 14 (by decide) (by decide +kernel) rfl rfl rfl rfl (Nat.le_of_ble_eq_true rfl) rfl dX1_take_159 (fun H locs hP hD hS => ?_)
      refine lv_aload_n hx hb dX1_take_162 rfl (lv_at hl 0 rfl) ?_
      refine k_get (v := .ref g) (T := TX1) (C := RX1) (N := 16) cx hi_X1_take_1 hP 0 rfl rfl 15 (by decide) (by decide +kernel) rfl dX1_take_163 ?_
      have hC := c_X0_wipe l G g k lf
      generalize hu166 : P_X0_wipe lf = u166 at hC hq
      refine k_v (ws' := [oSt h o g (upd f 14 0), aI G o 6 oh, oLed g k u166, aI G k 80 ce, oTx t tk tf, aC G tk 60 tc]) (as := [g]) cx hP hD hS [2] rfl (kr_VN (n := 0) (As := []) (ci := 0) cx hC gX1_take_X0_wipe_n91 rfl rfl rfl nn_X1_91 (by decide +kernel) (by decide +kernel) (by decide +kernel) (by decide +kernel) ⟨Nat.le_of_ble_eq_true rfl, Nat.le_of_ble_eq_true rfl⟩ rfl rfl rfl hP hD [2] rfl rfl rfl rfl hl (Nat.le_of_ble_eq_true rfl) dX1_take_166 ⟨Nat.le_refl _, Nat.le_refl _⟩) ⟨rfl, rfl⟩ rfl (fun H locs hP hD hS => ?_)
      subst hq
      exact k_vret cx hP hS dX1_take_169
    refine lv_icmp_ge (tgt := 157) hx hb dX1_take_133 (by decide) (fun c_133 => ?_) (fun c_133 => ?_)
    · replace hq := (if_pos c_133).symm.trans hq
      exact J157 () hq H locs ls hP hD hS (lv_sub hl [0, 1] rfl)
    · replace hq := (if_neg c_133).symm.trans hq
      refine lv_iload_n hx hb dX1_take_136 rfl (lv_at hl 2 rfl) ?_
      refine lv_bipush (v := 6) hx hb dX1_take_137 (by decide) ?_
      refine lv_icmp_ge (tgt := 157) hx hb dX1_take_139 (by decide) (fun c_139 => ?_) (fun c_139 => ?_)
      · replace hq := (if_pos c_139).symm.trans hq
        exact J157 () hq H locs ls hP hD hS (lv_sub hl [0, 1] rfl)
      · replace hq := (if_neg c_139).symm.trans hq
        refine lv_aload_n hx hb dX1_take_142 rfl (lv_at hl 0 rfl) ?_
        refine lv_aload_n hx hb dX1_take_143 rfl (lv_at hl 1 rfl) ?_
        refine lv_iload_n hx hb dX1_take_144 rfl (lv_at hl 2 rfl) ?_
        have hC := c_X2_unknownAt l G t tk tf tc v2 (hch)
        refine k_i (ws' := [oSt h o g f, aI G o 6 oh, oLed g k lf, aI G k 80 ce, oTx t tk tf, aC G tk 60 tc]) (as := [t, tk]) cx hP hD hS [4, 5] rfl (kr_VN (n := 1) (As := [.int v2]) (ci := 2) cx hC gX1_take_X2_unknownAt_n87 rfl rfl rfl nn_X1_87 (by decide +kernel) (by decide +kernel) (by decide +kernel) (by decide +kernel) ⟨Nat.le_of_ble_eq_true rfl, Nat.le_of_ble_eq_true rfl⟩ rfl rfl rfl hP hD [4, 5] rfl rfl rfl rfl hl (Nat.le_of_ble_eq_true rfl) dX1_take_145 ⟨Nat.le_refl _, Nat.le_refl _⟩) ⟨rfl, rfl⟩ rfl (fun H locs hP hD hS => ?_)
        have hC := c_X1_putUnknown l G h o g f oh (P_X2_unknownAt tf tc v2)
        generalize hu148 : P_X1_putUnknown f oh (P_X2_unknownAt tf tc v2) = u148 at hC hq
        refine k_v (ws' := [oSt h o g u148.1, aI G o 6 u148.2, oLed g k lf, aI G k 80 ce, oTx t tk tf, aC G tk 60 tc]) (as := [h, o]) cx hP hD hS [0, 1] rfl (kr_V (n := 1) (As := [.int (P_X2_unknownAt tf tc v2)]) (ci := 1) cx hC gX1_take_X1_putUnknown rfl rfl rfl (by decide +kernel) ⟨Nat.le_of_ble_eq_true rfl, Nat.le_of_ble_eq_true rfl⟩ rfl rfl rfl hP hD [0, 1] rfl rfl rfl rfl hl (Nat.le_of_ble_eq_true rfl) dX1_take_148 ⟨Nat.le_refl _, Nat.le_refl _⟩) ⟨rfl, rfl⟩ rfl (fun H locs hP hD hS => ?_)
        refine lv_iinc (v := (v2 + 1)) (lv' := [(2, .int (v2 + 1)), (0, .ref h), (1, .ref t)]) hx hb dX1_take_151 hl (k := 2) rfl rfl (by decide) rfl (fun ls hl => ?_)
        refine lv_goto (tgt := 128) hx hb dX1_take_154 (by decide) ?_
        exact ih (v2 + 1) u148.1 u148.2 lf (nn_inc h0 (N := (6 : Int32)) (by assumption)) (by have hmd := mu_up (N := (6 : Int32)) (by assumption); omega) hq H locs hP hD hS _ (lv_sub hl [1, 2, 0] rfl)
def P_X1_take (f : Nat → Int32) (oh : Nat → Int32) (lf : Nat → Int32) (ce : Nat → Int32) (tf : Nat → Int32) (tc : Nat → Int32) : (Nat → Int32) × (Nat → Int32) × (Nat → Int32) := (let j82 := fun (j82_s0 : Int32) => (P_X1_take_128 ce tf tc ((((6 : Int32)).toInt - (0 : Int32).toInt).toNat + 1) 0 (upd (upd (upd (upd (upd (upd (upd (upd (upd (upd (upd (upd (upd f 0 (P_X2_digits tf tc 1 1)) 1 (P_X2_digits tf tc 2 1)) 2 (P_X2_digits tf tc 3 4)) 3 (P_X2_digits tf tc 7 2)) 4 (P_X2_digits tf tc 9 1)) 5 j82_s0) 6 (P_X2_digits tf tc 13 2)) 7 0) 8 0) 9 0) 10 0) 11 0) 13 0) oh lf); (if (P_X2_letter tf tc 10) = 45 then (j82 (-(P_X2_digits tf tc 11 2))) else (j82 (P_X2_digits tf tc 11 2))))
set_option maxHeartbeats 4000000 in
set_option maxRecDepth 100000 in
theorem c_X1_take (l : Launch) (G : gG) (h : Nat) (o : Nat) (g : Nat) (k : Nat) (t : Nat) (tk : Nat) (f : Nat → Int32) (oh : Nat → Int32) (lf : Nat → Int32) (ce : Nat → Int32) (tf : Nat → Int32) (tc : Nat → Int32) (hch : ∀ j, narrow .char (.int (tc j)) = .int (tc j)) : kM l G yX1_take wsX1_take rm_X1_take [.ref h, .ref t] [oSt h o g f, aI G o 6 oh, oLed g k lf, aI G k 80 ce, oTx t tk tf, aC G tk 60 tc] (qV G [oSt h o g ((P_X1_take f oh lf ce tf tc).1), aI G o 6 ((P_X1_take f oh lf ce tf tc).2.1), oLed g k ((P_X1_take f oh lf ce tf tc).2.2), aI G k 80 ce, oTx t tk tf, aC G tk 60 tc]) := by
  refine k_body (cc := cX1_take) (nL := 3) (ret := none) (by decide) rfl (Nat.le_of_ble_eq_true rfl) ?_
  intro p e s m args below meth c A cx hP hD hS ls hl
  obtain ⟨hx, hb, hml, hown, hts, hr, hlocks, hK, hA⟩ := id cx
  obtain ⟨H, hH⟩ : ∃ H, H = s.heap := ⟨_, rfl⟩
  obtain ⟨locs, hL⟩ : ∃ locs : List Loc, locs = [] := ⟨_, rfl⟩
  obtain ⟨tgt, hq⟩ : ∃ tgt, (P_X1_take f oh lf ce tf tc) = tgt := ⟨_, rfl⟩
  have hS : va_S A s.heap H locs := by rw [hH, hL]; exact hS
  rw [← hH] at hP
  have hl : lv_has ls 3 [(0, .ref h), (1, .ref t)] := hl
  have key : ∀ (H : Heap) (locs : List Loc), va_P G.1 vwCl [oSt h o g f, aI G o 6 oh, oLed g k lf, aI G k 80 ce, oTx t tk tf, aC G tk 60 tc] H → va_D A [oSt h o g f, aI G o 6 oh, oLed g k lf, aI G k 80 ce, oTx t tk tf, aC G tk 60 tc] → va_S A s.heap H locs → W p l e rm_X1_take s m args below meth c H locs 0 0 (Q_X1_take G h o g k t tk ce tf tc tgt below args s A) (F0 m 0 ls []) := by
    clear hP hD hS hH hL
    intro H locs hP hD hS
    unfold P_X1_take at hq
    refine lv_aload_n hx hb dX1_take_0 rfl (lv_at hl 0 rfl) ?_
    refine lv_aload_n hx hb dX1_take_1 rfl (lv_at hl 1 rfl) ?_
    refine lv_iconst (v := 1) hx hb dX1_take_2 (by decide) ?_
    refine lv_iconst (v := 1) hx hb dX1_take_3 (by decide) ?_
    have hC := c_X2_digits l G t tk tf tc 1 1 (hch)
    refine k_i (ws' := [oSt h o g f, aI G o 6 oh, oLed g k lf, aI G k 80 ce, oTx t tk tf, aC G tk 60 tc]) (as := [t, tk]) cx hP hD hS [4, 5] rfl (kr_VN (n := 2) (As := [.int 1, .int 1]) (ci := 2) cx hC gX1_take_X2_digits_n74 rfl rfl rfl nn_X1_74 (by decide +kernel) (by decide +kernel) (by decide +kernel) (by decide +kernel) ⟨Nat.le_of_ble_eq_true rfl, Nat.le_of_ble_eq_true rfl⟩ rfl rfl rfl hP hD [4, 5] rfl rfl rfl rfl hl (Nat.le_of_ble_eq_true rfl) dX1_take_4 ⟨Nat.le_refl _, Nat.le_refl _⟩) ⟨rfl, rfl⟩ rfl (fun H locs hP hD hS => ?_)
    refine k_put (ws' := [oSt h o g (upd f 0 (P_X2_digits tf tc 1 1)), aI G o 6 oh, oLed g k lf, aI G k 80 ce, oTx t tk tf, aC G tk 60 tc]) (ty := .int) (T := TX1) (C := RX1) (N := 16) cx hi_X1_take_1 tyX1_ok nmX1 hP hD hS 0 rfl rfl 0 (by decide) (by decide +kernel) rfl rfl rfl rfl (Nat.le_of_ble_eq_true rfl) rfl dX1_take_7 (fun H locs hP hD hS => ?_)
    refine lv_aload_n hx hb dX1_take_10 rfl (lv_at hl 0 rfl) ?_
    refine lv_aload_n hx hb dX1_take_11 rfl (lv_at hl 1 rfl) ?_
    refine lv_iconst (v := 2) hx hb dX1_take_12 (by decide) ?_
    refine lv_iconst (v := 1) hx hb dX1_take_13 (by decide) ?_
    have hC := c_X2_digits l G t tk tf tc 2 1 (hch)
    refine k_i (ws' := [oSt h o g (upd f 0 (P_X2_digits tf tc 1 1)), aI G o 6 oh, oLed g k lf, aI G k 80 ce, oTx t tk tf, aC G tk 60 tc]) (as := [t, tk]) cx hP hD hS [4, 5] rfl (kr_VN (n := 2) (As := [.int 2, .int 1]) (ci := 2) cx hC gX1_take_X2_digits_n74 rfl rfl rfl nn_X1_74 (by decide +kernel) (by decide +kernel) (by decide +kernel) (by decide +kernel) ⟨Nat.le_of_ble_eq_true rfl, Nat.le_of_ble_eq_true rfl⟩ rfl rfl rfl hP hD [4, 5] rfl rfl rfl rfl hl (Nat.le_of_ble_eq_true rfl) dX1_take_14 ⟨Nat.le_refl _, Nat.le_refl _⟩) ⟨rfl, rfl⟩ rfl (fun H locs hP hD hS => ?_)
    refine k_put (ws' := [oSt h o g (upd (upd f 0 (P_X2_digits tf tc 1 1)) 1 (P_X2_digits tf tc 2 1)), aI G o 6 oh, oLed g k lf, aI G k 80 ce, oTx t tk tf, aC G tk 60 tc]) (ty := .int) (T := TX1) (C := RX1) (N := 16) cx hi_X1_take_1 tyX1_ok nmX1 hP hD hS 0 rfl rfl 1 (by decide) (by decide +kernel) rfl rfl rfl rfl (Nat.le_of_ble_eq_true rfl) rfl dX1_take_17 (fun H locs hP hD hS => ?_)
    refine lv_aload_n hx hb dX1_take_20 rfl (lv_at hl 0 rfl) ?_
    refine lv_aload_n hx hb dX1_take_21 rfl (lv_at hl 1 rfl) ?_
    refine lv_iconst (v := 3) hx hb dX1_take_22 (by decide) ?_
    refine lv_iconst (v := 4) hx hb dX1_take_23 (by decide) ?_
    have hC := c_X2_digits l G t tk tf tc 3 4 (hch)
    refine k_i (ws' := [oSt h o g (upd (upd f 0 (P_X2_digits tf tc 1 1)) 1 (P_X2_digits tf tc 2 1)), aI G o 6 oh, oLed g k lf, aI G k 80 ce, oTx t tk tf, aC G tk 60 tc]) (as := [t, tk]) cx hP hD hS [4, 5] rfl (kr_VN (n := 2) (As := [.int 3, .int 4]) (ci := 2) cx hC gX1_take_X2_digits_n74 rfl rfl rfl nn_X1_74 (by decide +kernel) (by decide +kernel) (by decide +kernel) (by decide +kernel) ⟨Nat.le_of_ble_eq_true rfl, Nat.le_of_ble_eq_true rfl⟩ rfl rfl rfl hP hD [4, 5] rfl rfl rfl rfl hl (Nat.le_of_ble_eq_true rfl) dX1_take_24 ⟨Nat.le_refl _, Nat.le_refl _⟩) ⟨rfl, rfl⟩ rfl (fun H locs hP hD hS => ?_)
    refine k_put (ws' := [oSt h o g (upd (upd (upd f 0 (P_X2_digits tf tc 1 1)) 1 (P_X2_digits tf tc 2 1)) 2 (P_X2_digits tf tc 3 4)), aI G o 6 oh, oLed g k lf, aI G k 80 ce, oTx t tk tf, aC G tk 60 tc]) (ty := .int) (T := TX1) (C := RX1) (N := 16) cx hi_X1_take_1 tyX1_ok nmX1 hP hD hS 0 rfl rfl 2 (by decide) (by decide +kernel) rfl rfl rfl rfl (Nat.le_of_ble_eq_true rfl) rfl dX1_take_27 (fun H locs hP hD hS => ?_)
    refine lv_aload_n hx hb dX1_take_30 rfl (lv_at hl 0 rfl) ?_
    refine lv_aload_n hx hb dX1_take_31 rfl (lv_at hl 1 rfl) ?_
    refine lv_bipush (v := 7) hx hb dX1_take_32 (by decide) ?_
    refine lv_iconst (v := 2) hx hb dX1_take_34 (by decide) ?_
    have hC := c_X2_digits l G t tk tf tc 7 2 (hch)
    refine k_i (ws' := [oSt h o g (upd (upd (upd f 0 (P_X2_digits tf tc 1 1)) 1 (P_X2_digits tf tc 2 1)) 2 (P_X2_digits tf tc 3 4)), aI G o 6 oh, oLed g k lf, aI G k 80 ce, oTx t tk tf, aC G tk 60 tc]) (as := [t, tk]) cx hP hD hS [4, 5] rfl (kr_VN (n := 2) (As := [.int 7, .int 2]) (ci := 2) cx hC gX1_take_X2_digits_n74 rfl rfl rfl nn_X1_74 (by decide +kernel) (by decide +kernel) (by decide +kernel) (by decide +kernel) ⟨Nat.le_of_ble_eq_true rfl, Nat.le_of_ble_eq_true rfl⟩ rfl rfl rfl hP hD [4, 5] rfl rfl rfl rfl hl (Nat.le_of_ble_eq_true rfl) dX1_take_35 ⟨Nat.le_refl _, Nat.le_refl _⟩) ⟨rfl, rfl⟩ rfl (fun H locs hP hD hS => ?_)
    refine k_put (ws' := [oSt h o g (upd (upd (upd (upd f 0 (P_X2_digits tf tc 1 1)) 1 (P_X2_digits tf tc 2 1)) 2 (P_X2_digits tf tc 3 4)) 3 (P_X2_digits tf tc 7 2)), aI G o 6 oh, oLed g k lf, aI G k 80 ce, oTx t tk tf, aC G tk 60 tc]) (ty := .int) (T := TX1) (C := RX1) (N := 16) cx hi_X1_take_1 tyX1_ok nmX1 hP hD hS 0 rfl rfl 3 (by decide) (by decide +kernel) rfl rfl rfl rfl (Nat.le_of_ble_eq_true rfl) rfl dX1_take_38 (fun H locs hP hD hS => ?_)
    refine lv_aload_n hx hb dX1_take_41 rfl (lv_at hl 0 rfl) ?_
    refine lv_aload_n hx hb dX1_take_42 rfl (lv_at hl 1 rfl) ?_
    refine lv_bipush (v := 9) hx hb dX1_take_43 (by decide) ?_
    refine lv_iconst (v := 1) hx hb dX1_take_45 (by decide) ?_
    have hC := c_X2_digits l G t tk tf tc 9 1 (hch)
    refine k_i (ws' := [oSt h o g (upd (upd (upd (upd f 0 (P_X2_digits tf tc 1 1)) 1 (P_X2_digits tf tc 2 1)) 2 (P_X2_digits tf tc 3 4)) 3 (P_X2_digits tf tc 7 2)), aI G o 6 oh, oLed g k lf, aI G k 80 ce, oTx t tk tf, aC G tk 60 tc]) (as := [t, tk]) cx hP hD hS [4, 5] rfl (kr_VN (n := 2) (As := [.int 9, .int 1]) (ci := 2) cx hC gX1_take_X2_digits_n74 rfl rfl rfl nn_X1_74 (by decide +kernel) (by decide +kernel) (by decide +kernel) (by decide +kernel) ⟨Nat.le_of_ble_eq_true rfl, Nat.le_of_ble_eq_true rfl⟩ rfl rfl rfl hP hD [4, 5] rfl rfl rfl rfl hl (Nat.le_of_ble_eq_true rfl) dX1_take_46 ⟨Nat.le_refl _, Nat.le_refl _⟩) ⟨rfl, rfl⟩ rfl (fun H locs hP hD hS => ?_)
    refine k_put (ws' := [oSt h o g (upd (upd (upd (upd (upd f 0 (P_X2_digits tf tc 1 1)) 1 (P_X2_digits tf tc 2 1)) 2 (P_X2_digits tf tc 3 4)) 3 (P_X2_digits tf tc 7 2)) 4 (P_X2_digits tf tc 9 1)), aI G o 6 oh, oLed g k lf, aI G k 80 ce, oTx t tk tf, aC G tk 60 tc]) (ty := .int) (T := TX1) (C := RX1) (N := 16) cx hi_X1_take_1 tyX1_ok nmX1 hP hD hS 0 rfl rfl 4 (by decide) (by decide +kernel) rfl rfl rfl rfl (Nat.le_of_ble_eq_true rfl) rfl dX1_take_49 (fun H locs hP hD hS => ?_)
    refine lv_aload_n hx hb dX1_take_52 rfl (lv_at hl 0 rfl) ?_
    refine lv_aload_n hx hb dX1_take_53 rfl (lv_at hl 1 rfl) ?_
    refine lv_bipush (v := 10) hx hb dX1_take_54 (by decide) ?_
    have hC := c_X2_letter l G t tk tf tc 10 (hch)
    refine k_i (ws' := [oSt h o g (upd (upd (upd (upd (upd f 0 (P_X2_digits tf tc 1 1)) 1 (P_X2_digits tf tc 2 1)) 2 (P_X2_digits tf tc 3 4)) 3 (P_X2_digits tf tc 7 2)) 4 (P_X2_digits tf tc 9 1)), aI G o 6 oh, oLed g k lf, aI G k 80 ce, oTx t tk tf, aC G tk 60 tc]) (as := [t, tk]) cx hP hD hS [4, 5] rfl (kr_VN (n := 1) (As := [.int 10]) (ci := 2) cx hC gX1_take_X2_letter_n80 rfl rfl rfl nn_X1_80 (by decide +kernel) (by decide +kernel) (by decide +kernel) (by decide +kernel) ⟨Nat.le_of_ble_eq_true rfl, Nat.le_of_ble_eq_true rfl⟩ rfl rfl rfl hP hD [4, 5] rfl rfl rfl rfl hl (Nat.le_of_ble_eq_true rfl) dX1_take_56 ⟨Nat.le_refl _, Nat.le_refl _⟩) ⟨rfl, rfl⟩ rfl (fun H locs hP hD hS => ?_)
    refine lv_bipush (v := 45) hx hb dX1_take_59 (by decide) ?_
    have J82 : ∀ (j82_s0 : Int32), (P_X1_take_128 ce tf tc ((((6 : Int32)).toInt - (0 : Int32).toInt).toNat + 1) 0 (upd (upd (upd (upd (upd (upd (upd (upd (upd (upd (upd (upd (upd f 0 (P_X2_digits tf tc 1 1)) 1 (P_X2_digits tf tc 2 1)) 2 (P_X2_digits tf tc 3 4)) 3 (P_X2_digits tf tc 7 2)) 4 (P_X2_digits tf tc 9 1)) 5 j82_s0) 6 (P_X2_digits tf tc 13 2)) 7 0) 8 0) 9 0) 10 0) 11 0) 13 0) oh lf) = tgt → ∀ (H : Heap) (locs : List Loc) (ls : Array Slot), va_P G.1 vwCl [oSt h o g (upd (upd (upd (upd (upd f 0 (P_X2_digits tf tc 1 1)) 1 (P_X2_digits tf tc 2 1)) 2 (P_X2_digits tf tc 3 4)) 3 (P_X2_digits tf tc 7 2)) 4 (P_X2_digits tf tc 9 1)), aI G o 6 oh, oLed g k lf, aI G k 80 ce, oTx t tk tf, aC G tk 60 tc] H → va_D A [oSt h o g (upd (upd (upd (upd (upd f 0 (P_X2_digits tf tc 1 1)) 1 (P_X2_digits tf tc 2 1)) 2 (P_X2_digits tf tc 3 4)) 3 (P_X2_digits tf tc 7 2)) 4 (P_X2_digits tf tc 9 1)), aI G o 6 oh, oLed g k lf, aI G k 80 ce, oTx t tk tf, aC G tk 60 tc] → va_S A s.heap H locs → lv_has ls 3 [(0, .ref h), (1, .ref t)] → W p l e rm_X1_take s m args below meth c H locs 0 0 (Q_X1_take G h o g k t tk ce tf tc tgt below args s A) (F0 m 82 ls [.int j82_s0, .ref h]) := by
      intro j82_s0 hq H locs ls hP hD hS hl
      refine k_put (ws' := [oSt h o g (upd (upd (upd (upd (upd (upd f 0 (P_X2_digits tf tc 1 1)) 1 (P_X2_digits tf tc 2 1)) 2 (P_X2_digits tf tc 3 4)) 3 (P_X2_digits tf tc 7 2)) 4 (P_X2_digits tf tc 9 1)) 5 j82_s0), aI G o 6 oh, oLed g k lf, aI G k 80 ce, oTx t tk tf, aC G tk 60 tc]) (ty := .int) (T := TX1) (C := RX1) (N := 16) cx hi_X1_take_1 tyX1_ok nmX1 hP hD hS 0 rfl rfl 5 (by decide) (by decide +kernel) rfl rfl rfl rfl (Nat.le_of_ble_eq_true rfl) rfl dX1_take_82 (fun H locs hP hD hS => ?_)
      refine lv_aload_n hx hb dX1_take_85 rfl (lv_at hl 0 rfl) ?_
      refine lv_aload_n hx hb dX1_take_86 rfl (lv_at hl 1 rfl) ?_
      refine lv_bipush (v := 13) hx hb dX1_take_87 (by decide) ?_
      refine lv_iconst (v := 2) hx hb dX1_take_89 (by decide) ?_
      have hC := c_X2_digits l G t tk tf tc 13 2 (hch)
      refine k_i (ws' := [oSt h o g (upd (upd (upd (upd (upd (upd f 0 (P_X2_digits tf tc 1 1)) 1 (P_X2_digits tf tc 2 1)) 2 (P_X2_digits tf tc 3 4)) 3 (P_X2_digits tf tc 7 2)) 4 (P_X2_digits tf tc 9 1)) 5 j82_s0), aI G o 6 oh, oLed g k lf, aI G k 80 ce, oTx t tk tf, aC G tk 60 tc]) (as := [t, tk]) cx hP hD hS [4, 5] rfl (kr_VN (n := 2) (As := [.int 13, .int 2]) (ci := 2) cx hC gX1_take_X2_digits_n74 rfl rfl rfl nn_X1_74 (by decide +kernel) (by decide +kernel) (by decide +kernel) (by decide +kernel) ⟨Nat.le_of_ble_eq_true rfl, Nat.le_of_ble_eq_true rfl⟩ rfl rfl rfl hP hD [4, 5] rfl rfl rfl rfl hl (Nat.le_of_ble_eq_true rfl) dX1_take_90 ⟨Nat.le_refl _, Nat.le_refl _⟩) ⟨rfl, rfl⟩ rfl (fun H locs hP hD hS => ?_)
      refine k_put (ws' := [oSt h o g (upd (upd (upd (upd (upd (upd (upd f 0 (P_X2_digits tf tc 1 1)) 1 (P_X2_digits tf tc 2 1)) 2 (P_X2_digits tf tc 3 4)) 3 (P_X2_digits tf tc 7 2)) 4 (P_X2_digits tf tc 9 1)) 5 j82_s0) 6 (P_X2_digits tf tc 13 2)), aI G o 6 oh, oLed g k lf, aI G k 80 ce, oTx t tk tf, aC G tk 60 tc]) (ty := .int) (T := TX1) (C := RX1) (N := 16) cx hi_X1_take_1 tyX1_ok nmX1 hP hD hS 0 rfl rfl 6 (by decide) (by decide +kernel) rfl rfl rfl rfl (Nat.le_of_ble_eq_true rfl) rfl dX1_take_93 (fun H locs hP hD hS => ?_)
      refine lv_aload_n hx hb dX1_take_96 rfl (lv_at hl 0 rfl) ?_
      refine lv_iconst (v := 0) hx hb dX1_take_97 (by decide) ?_
      refine k_put (ws' := [oSt h o g (upd (upd (upd (upd (upd (upd (upd (upd f 0 (P_X2_digits tf tc 1 1)) 1 (P_X2_digits tf tc 2 1)) 2 (P_X2_digits tf tc 3 4)) 3 (P_X2_digits tf tc 7 2)) 4 (P_X2_digits tf tc 9 1)) 5 j82_s0) 6 (P_X2_digits tf tc 13 2)) 7 0), aI G o 6 oh, oLed g k lf, aI G k 80 ce, oTx t tk tf, aC G tk 60 tc]) (ty := .int) (T := TX1) (C := RX1) (N := 16) cx hi_X1_take_1 tyX1_ok nmX1 hP hD hS 0 rfl rfl 7 (by decide) (by decide +kernel) rfl rfl rfl rfl (Nat.le_of_ble_eq_true rfl) rfl dX1_take_98 (fun H locs hP hD hS => ?_)
      refine lv_aload_n hx hb dX1_take_101 rfl (lv_at hl 0 rfl) ?_
      refine lv_iconst (v := 0) hx hb dX1_take_102 (by decide) ?_
      refine k_put (ws' := [oSt h o g (upd (upd (upd (upd (upd (upd (upd (upd (upd f 0 (P_X2_digits tf tc 1 1)) 1 (P_X2_digits tf tc 2 1)) 2 (P_X2_digits tf tc 3 4)) 3 (P_X2_digits tf tc 7 2)) 4 (P_X2_digits tf tc 9 1)) 5 j82_s0) 6 (P_X2_digits tf tc 13 2)) 7 0) 8 0), aI G o 6 oh, oLed g k lf, aI G k 80 ce, oTx t tk tf, aC G tk 60 tc]) (ty := .int) (T := TX1) (C := RX1) (N := 16) cx hi_X1_take_1 tyX1_ok nmX1 hP hD hS 0 rfl rfl 8 (by decide) (by decide +kernel) rfl rfl rfl rfl (Nat.le_of_ble_eq_true rfl) rfl dX1_take_103 (fun H locs hP hD hS => ?_)
      refine lv_aload_n hx hb dX1_take_106 rfl (lv_at hl 0 rfl) ?_
      refine lv_iconst (v := 0) hx hb dX1_take_107 (by decide) ?_
      refine k_put (ws' := [oSt h o g (upd (upd (upd (upd (upd (upd (upd (upd (upd (upd f 0 (P_X2_digits tf tc 1 1)) 1 (P_X2_digits tf tc 2 1)) 2 (P_X2_digits tf tc 3 4)) 3 (P_X2_digits tf tc 7 2)) 4 (P_X2_digits tf tc 9 1)) 5 j82_s0) 6 (P_X2_digits tf tc 13 2)) 7 0) 8 0) 9 0), aI G o 6 oh, oLed g k lf, aI G k 80 ce, oTx t tk tf, aC G tk 60 tc]) (ty := .boolean) (T := TX1) (C := RX1) (N := 16) cx hi_X1_take_1 tyX1_ok nmX1 hP hD hS 0 rfl rfl 9 (by decide) (by decide +kernel) rfl rfl rfl rfl (Nat.le_of_ble_eq_true rfl) rfl dX1_take_108 (fun H locs hP hD hS => ?_)
      refine lv_aload_n hx hb dX1_take_111 rfl (lv_at hl 0 rfl) ?_
      refine lv_iconst (v := 0) hx hb dX1_take_112 (by decide) ?_
      refine k_put (ws' := [oSt h o g (upd (upd (upd (upd (upd (upd (upd (upd (upd (upd (upd f 0 (P_X2_digits tf tc 1 1)) 1 (P_X2_digits tf tc 2 1)) 2 (P_X2_digits tf tc 3 4)) 3 (P_X2_digits tf tc 7 2)) 4 (P_X2_digits tf tc 9 1)) 5 j82_s0) 6 (P_X2_digits tf tc 13 2)) 7 0) 8 0) 9 0) 10 0), aI G o 6 oh, oLed g k lf, aI G k 80 ce, oTx t tk tf, aC G tk 60 tc]) (ty := .int) (T := TX1) (C := RX1) (N := 16) cx hi_X1_take_1 tyX1_ok nmX1 hP hD hS 0 rfl rfl 10 (by decide) (by decide +kernel) rfl rfl rfl rfl (Nat.le_of_ble_eq_true rfl) rfl dX1_take_113 (fun H locs hP hD hS => ?_)
      refine lv_aload_n hx hb dX1_take_116 rfl (lv_at hl 0 rfl) ?_
      refine lv_iconst (v := 0) hx hb dX1_take_117 (by decide) ?_
      refine k_put (ws' := [oSt h o g (upd (upd (upd (upd (upd (upd (upd (upd (upd (upd (upd (upd f 0 (P_X2_digits tf tc 1 1)) 1 (P_X2_digits tf tc 2 1)) 2 (P_X2_digits tf tc 3 4)) 3 (P_X2_digits tf tc 7 2)) 4 (P_X2_digits tf tc 9 1)) 5 j82_s0) 6 (P_X2_digits tf tc 13 2)) 7 0) 8 0) 9 0) 10 0) 11 0), aI G o 6 oh, oLed g k lf, aI G k 80 ce, oTx t tk tf, aC G tk 60 tc]) (ty := .int) (T := TX1) (C := RX1) (N := 16) cx hi_X1_take_1 tyX1_ok nmX1 hP hD hS 0 rfl rfl 11 (by decide) (by decide +kernel) rfl rfl rfl rfl (Nat.le_of_ble_eq_true rfl) rfl dX1_take_118 (fun H locs hP hD hS => ?_)
      refine lv_aload_n hx hb dX1_take_121 rfl (lv_at hl 0 rfl) ?_
      refine lv_iconst (v := 0) hx hb dX1_take_122 (by decide) ?_
      refine k_put (ws' := [oSt h o g (upd (upd (upd (upd (upd (upd (upd (upd (upd (upd (upd (upd (upd f 0 (P_X2_digits tf tc 1 1)) 1 (P_X2_digits tf tc 2 1)) 2 (P_X2_digits tf tc 3 4)) 3 (P_X2_digits tf tc 7 2)) 4 (P_X2_digits tf tc 9 1)) 5 j82_s0) 6 (P_X2_digits tf tc 13 2)) 7 0) 8 0) 9 0) 10 0) 11 0) 13 0), aI G o 6 oh, oLed g k lf, aI G k 80 ce, oTx t tk tf, aC G tk 60 tc]) (ty := .int) (T := TX1) (C := RX1) (N := 16) cx hi_X1_take_1 tyX1_ok nmX1 hP hD hS 0 rfl rfl 13 (by decide) (by decide +kernel) rfl rfl rfl rfl (Nat.le_of_ble_eq_true rfl) rfl dX1_take_123 (fun H locs hP hD hS => ?_)
      refine lv_iconst (v := 0) hx hb dX1_take_126 (by decide) ?_
      refine lv_istore_n (lv' := [(2, .int 0), (0, .ref h), (1, .ref t)]) hx hb dX1_take_127 rfl hl (by decide) rfl (fun ls hl => ?_)
      exact b_X1_take_128 cx h o g k t tk ce tf tc hch tgt ((((6 : Int32)).toInt - (0 : Int32).toInt).toNat + 1) 0 (upd (upd (upd (upd (upd (upd (upd (upd (upd (upd (upd (upd (upd f 0 (P_X2_digits tf tc 1 1)) 1 (P_X2_digits tf tc 2 1)) 2 (P_X2_digits tf tc 3 4)) 3 (P_X2_digits tf tc 7 2)) 4 (P_X2_digits tf tc 9 1)) 5 j82_s0) 6 (P_X2_digits tf tc 13 2)) 7 0) 8 0) 9 0) 10 0) 11 0) 13 0) oh lf (by decide) (Nat.lt_succ_self _) hq H locs hP hD hS _ (lv_sub hl [1, 2, 0] rfl)
    refine lv_icmp_ne (tgt := 75) hx hb dX1_take_61 (by decide) (fun c_61 => ?_) (fun c_61 => ?_)
    · replace hq := (if_neg c_61).symm.trans hq
      refine lv_aload_n hx hb dX1_take_75 rfl (lv_at hl 1 rfl) ?_
      refine lv_bipush (v := 11) hx hb dX1_take_76 (by decide) ?_
      refine lv_iconst (v := 2) hx hb dX1_take_78 (by decide) ?_
      have hC := c_X2_digits l G t tk tf tc 11 2 (hch)
      refine k_i (ws' := [oSt h o g (upd (upd (upd (upd (upd f 0 (P_X2_digits tf tc 1 1)) 1 (P_X2_digits tf tc 2 1)) 2 (P_X2_digits tf tc 3 4)) 3 (P_X2_digits tf tc 7 2)) 4 (P_X2_digits tf tc 9 1)), aI G o 6 oh, oLed g k lf, aI G k 80 ce, oTx t tk tf, aC G tk 60 tc]) (as := [t, tk]) cx hP hD hS [4, 5] rfl (kr_VN (n := 2) (As := [.int 11, .int 2]) (ci := 2) cx hC gX1_take_X2_digits_n74 rfl rfl rfl nn_X1_74 (by decide +kernel) (by decide +kernel) (by decide +kernel) (by decide +kernel) ⟨Nat.le_of_ble_eq_true rfl, Nat.le_of_ble_eq_true rfl⟩ rfl rfl rfl hP hD [4, 5] rfl rfl rfl rfl hl (Nat.le_of_ble_eq_true rfl) dX1_take_79 ⟨Nat.le_refl _, Nat.le_refl _⟩) ⟨rfl, rfl⟩ rfl (fun H locs hP hD hS => ?_)
      exact J82 (P_X2_digits tf tc 11 2) hq H locs ls hP hD hS (lv_sub hl [0, 1] rfl)
    · replace hq := (if_pos c_61).symm.trans hq
      refine lv_aload_n hx hb dX1_take_64 rfl (lv_at hl 1 rfl) ?_
      refine lv_bipush (v := 11) hx hb dX1_take_65 (by decide) ?_
      refine lv_iconst (v := 2) hx hb dX1_take_67 (by decide) ?_
      have hC := c_X2_digits l G t tk tf tc 11 2 (hch)
      refine k_i (ws' := [oSt h o g (upd (upd (upd (upd (upd f 0 (P_X2_digits tf tc 1 1)) 1 (P_X2_digits tf tc 2 1)) 2 (P_X2_digits tf tc 3 4)) 3 (P_X2_digits tf tc 7 2)) 4 (P_X2_digits tf tc 9 1)), aI G o 6 oh, oLed g k lf, aI G k 80 ce, oTx t tk tf, aC G tk 60 tc]) (as := [t, tk]) cx hP hD hS [4, 5] rfl (kr_VN (n := 2) (As := [.int 11, .int 2]) (ci := 2) cx hC gX1_take_X2_digits_n74 rfl rfl rfl nn_X1_74 (by decide +kernel) (by decide +kernel) (by decide +kernel) (by decide +kernel) ⟨Nat.le_of_ble_eq_true rfl, Nat.le_of_ble_eq_true rfl⟩ rfl rfl rfl hP hD [4, 5] rfl rfl rfl rfl hl (Nat.le_of_ble_eq_true rfl) dX1_take_68 ⟨Nat.le_refl _, Nat.le_refl _⟩) ⟨rfl, rfl⟩ rfl (fun H locs hP hD hS => ?_)
      refine lv_ineg hx hb dX1_take_71 ?_
      refine lv_goto (tgt := 82) hx hb dX1_take_72 (by decide) ?_
      exact J82 (-(P_X2_digits tf tc 11 2)) hq H locs ls hP hD hS (lv_sub hl [0, 1] rfl)
  subst hL
  subst hH
  subst hq
  exact key _ _ hP hD hS
