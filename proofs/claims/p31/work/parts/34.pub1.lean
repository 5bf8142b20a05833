/-! X3_append -/
theorem hi_X3_append_2 : ∀ w ∈ u_ws RX2 TX2 2, w ∈ wsX3_append := by decide +kernel
theorem hi_X3_append_3 : ∀ w ∈ u_ws RX3 TX3 8, w ∈ wsX3_append := by decide +kernel
abbrev rm_X3_append : Room := { frames := 6, cells := 1, slots := 6, locals := 82 }
abbrev Q_X3_append (G : gG) (b : Nat) (tx : Nat) (h : Nat) (ht : Nat) (pa : Nat) (sl : Nat) (fi : Nat) (tk : Nat) (w0 : va_W)  (bf : Nat → Int32) (tgt : Int32 × Int32 × (Nat → Int32) × (Nat → Int32)) (below : List Frame) (args : Array Value) (s : State) (A : Nat → Prop) : State → Prop := vx_MQ below (qX G tgt.1 tgt.2.1 [oBr b tx h ht pa sl fi bf, oTx tx tk tgt.2.2.1, aC G tk 60 tgt.2.2.2] A) (xX G tgt.1 w0 A) args s 1 6 A
def P_X3_append (bf : Nat → Int32) (tf : Nat → Int32) (tc : Nat → Int32) (ch : Int32) : Int32 × Int32 × (Nat → Int32) × (Nat → Int32) := (if (P_X3_outside ch 0 255) = 0 then (if (tf 1) < 60 then (let u49 := P_X2_put tf tc (((ch).toUInt32 % 65536).toInt32); (0, (u49.1 1), u49.1, u49.2)) else (2, 0, tf, tc)) else (1, 0, tf, tc))
set_option maxHeartbeats 4000000 in
set_option maxRecDepth 100000 in
theorem c_X3_append (l : Launch) (hlt : l.stackTraces = false) (G : gG) (b : Nat) (tx : Nat) (h : Nat) (ht : Nat) (pa : Nat) (sl : Nat) (fi : Nat) (tk : Nat) (bf : Nat → Int32) (tf : Nat → Int32) (tc : Nat → Int32) (ch : Int32)  : kX l G yX3_append wsX3_append rm_X3_append [.ref b, .int ch] [oBr b tx h ht pa sl fi bf, oTx tx tk tf, aC G tk 60 tc] (qX G ((P_X3_append bf tf tc ch).1) ((P_X3_append bf tf tc ch).2.1) [oBr b tx h ht pa sl fi bf, oTx tx tk ((P_X3_append bf tf tc ch).2.2.1), aC G tk 60 ((P_X3_append bf tf tc ch).2.2.2)]) (xX G ((P_X3_append bf tf tc ch).1) [oBr b tx h ht pa sl fi bf, oTx tx tk tf, aC G tk 60 tc]) := by
  refine k_bodyX (cc := cX3_append) (nL := 2) (ret := (some .int)) hlt (by decide) rfl (Nat.le_of_ble_eq_true rfl) ?_
  intro p e s m args below meth c A cx ct hP hD hS ls hl
  obtain ⟨hx, hb, hml, hown, hts, hr, hlocks, hK, hA⟩ := id cx
  obtain ⟨H, hH⟩ : ∃ H, H = s.heap := ⟨_, rfl⟩
  obtain ⟨locs, hL⟩ : ∃ locs : List Loc, locs = [] := ⟨_, rfl⟩
  obtain ⟨tgt, hq⟩ : ∃ tgt, (P_X3_append bf tf tc ch) = tgt := ⟨_, rfl⟩
  obtain ⟨w0, hw0⟩ : ∃ w0 : va_W, w0 = [oBr b tx h ht pa sl fi bf, oTx tx tk tf, aC G tk 60 tc] := ⟨_, rfl⟩
  have hS : va_S A s.heap H locs := by rw [hH, hL]; exact hS
  rw [← hH] at hP
  have hl : lv_has ls 2 [(0, .ref b), (1, .int ch)] := hl
  have key : ∀ (H : Heap) (locs : List Loc), va_P G.1 vwCl [oBr b tx h ht pa sl fi bf, oTx tx tk tf, aC G tk 60 tc] H → va_D A [oBr b tx h ht pa sl fi bf, oTx tx tk tf, aC G tk 60 tc] → va_S A s.heap H locs → W p l e rm_X3_append s m args below meth c H locs 0 0 (Q_X3_append G b tx h ht pa sl fi tk w0 bf tgt below args s A) (F0 m 0 ls []) := by
    clear hP hD hS hH hL
    intro H locs hP hD hS
    unfold P_X3_append at hq
    refine lv_iload_n hx hb dX3_append_0 rfl (lv_at hl 1 rfl) ?_
    refine lv_iconst (v := 0) hx hb dX3_append_1 (by decide) ?_
    refine lv_sipush (v := 255) hx hb dX3_append_2 (by decide) ?_
    have hC := c_X3_outside l G ch 0 255
    refine k_i (ws' := [oBr b tx h ht pa sl fi bf, oTx tx tk tf, aC G tk 60 tc]) (as := []) cx hP hD hS [] rfl (kr_S (n := 3) (As := [.int ch, .int 0, .int 255]) cx hC gX3_append_X3_outside rfl rfl rfl (by decide +kernel) ⟨Nat.le_of_ble_eq_true rfl, Nat.le_of_ble_eq_true rfl⟩ hP hD [] rfl rfl rfl rfl hl (Nat.le_of_ble_eq_true rfl) dX3_append_5 ⟨Nat.zero_le _, Nat.zero_le _⟩) ⟨rfl, rfl⟩ rfl (fun H locs hP hD hS => ?_)
    refine lv_if_eq (tgt := 21) hx hb dX3_append_8 (by decide) (fun c_8 => ?_) (fun c_8 => ?_)
    · replace hq := (if_pos c_8).symm.trans hq
      refine lv_aload_n hx hb dX3_append_21 rfl (lv_at hl 0 rfl) ?_
      refine k_get (v := .ref tx) (T := TX3) (C := RX3) (N := 8) cx hi_X3_append_3 hP 0 rfl rfl 0 (by decide) (by decide +kernel) rfl dX3_append_22 ?_
      refine k_getN (v := .int (tf 1)) (T := TX2) (C := RX2) (N := 2) (host := RX3) cx hi_X3_append_2 hP 1 rfl rfl 1 (by decide) nn_X3_48 rfl dX3_append_25 ?_
      refine lv_bipush (v := 60) hx hb dX3_append_28 (by decide) ?_
      refine lv_icmp_lt (tgt := 43) hx hb dX3_append_30 (by decide) (fun c_30 => ?_) (fun c_30 => ?_)
      · replace hq := (if_pos c_30).symm.trans hq
        refine lv_aload_n hx hb dX3_append_43 rfl (lv_at hl 0 rfl) ?_
        refine k_get (v := .ref tx) (T := TX3) (C := RX3) (N := 8) cx hi_X3_append_3 hP 0 rfl rfl 0 (by decide) (by decide +kernel) rfl dX3_append_44 ?_
        refine lv_iload_n hx hb dX3_append_47 rfl (lv_at hl 1 rfl) ?_
        refine lv_i2c hx hb dX3_append_48 rfl ?_
        have hC := c_X2_put l G tx tk tf tc (((ch).toUInt32 % 65536).toInt32) (nar_c c_8)
        generalize hu49 : P_X2_put tf tc (((ch).toUInt32 % 65536).toInt32) = u49 at hC hq
        refine k_v (ws' := [oBr b tx h ht pa sl fi bf, oTx tx tk u49.1, aC G tk 60 u49.2]) (as := [tx, tk]) cx hP hD hS [1, 2] rfl (kr_VN (n := 1) (As := [.int ((ch).toUInt32 % 65536).toInt32]) (ci := 2) cx hC gX3_append_X2_put_n57 rfl rfl rfl nn_X3_57 (by decide +kernel) (by decide +kernel) (by decide +kernel) (by decide +kernel) ⟨Nat.le_of_ble_eq_true rfl, Nat.le_of_ble_eq_true rfl⟩ rfl rfl rfl hP hD [1, 2] rfl rfl rfl rfl hl (Nat.le_of_ble_eq_true rfl) dX3_append_49 ⟨Nat.zero_le _, Nat.zero_le _⟩) ⟨rfl, rfl⟩ rfl (fun H locs hP hD hS => ?_)
        refine lv_aload_n hx hb dX3_append_52 rfl (lv_at hl 0 rfl) ?_
        refine k_get (v := .ref tx) (T := TX3) (C := RX3) (N := 8) cx hi_X3_append_3 hP 0 rfl rfl 0 (by decide) (by decide +kernel) rfl dX3_append_53 ?_
        refine k_getN (v := .int (u49.1 1)) (T := TX2) (C := RX2) (N := 2) (host := RX3) cx hi_X3_append_2 hP 1 rfl rfl 1 (by decide) nn_X3_48 rfl dX3_append_56 ?_
        subst hq
        exact k_iretX cx rfl hP hS dX3_append_59
      · replace hq := (if_neg c_30).symm.trans hq
        subst hq
        exact k_thrS (cls := "java/lang/IllegalStateException") (tx := "the text is full") (r := 0) (ws := [oBr b tx h ht pa sl fi bf, oTx tx tk tf, aC G tk 60 tc]) (w0 := w0) cx ct (by decide +kernel) ⟨by decide +kernel, by decide +kernel⟩ (by decide +kernel) (fun w h => List.mem_cons_of_mem _ (List.mem_append_right _ h)) e1_56 e2_52_56 rfl (by rw [hw0]; exact hP) hS hl ⟨Nat.le_of_ble_eq_true rfl, Nat.le_of_ble_eq_true rfl, Nat.le_of_ble_eq_true rfl, Nat.le_of_ble_eq_true rfl⟩ dX3_append_33 dX3_append_36 dX3_append_37 dX3_append_39 dX3_append_42
    · replace hq := (if_neg c_8).symm.trans hq
      subst hq
      exact k_thrS (cls := "java/lang/IllegalArgumentException") (tx := "c is not 0 to 255") (r := 0) (ws := [oBr b tx h ht pa sl fi bf, oTx tx tk tf, aC G tk 60 tc]) (w0 := w0) cx ct (by decide +kernel) ⟨by decide +kernel, by decide +kernel⟩ (by decide +kernel) (fun w h => List.mem_cons_of_mem _ (List.mem_append_left _ (List.mem_append_right _ h))) e1_45 e2_41_45 rfl (by rw [hw0]; exact hP) hS hl ⟨Nat.le_of_ble_eq_true rfl, Nat.le_of_ble_eq_true rfl, Nat.le_of_ble_eq_true rfl, Nat.le_of_ble_eq_true rfl⟩ dX3_append_11 dX3_append_14 dX3_append_15 dX3_append_17 dX3_append_20
  subst hL
  subst hH
  subst hq
  subst hw0
  exact key _ _ hP hD hS

/-! X3_clearText -/
theorem hi_X3_clearText_2 : ∀ w ∈ u_ws RX2 TX2 2, w ∈ wsX3_clearText := by decide +kernel
theorem hi_X3_clearText_3 : ∀ w ∈ u_ws RX3 TX3 8, w ∈ wsX3_clearText := by decide +kernel
abbrev rm_X3_clearText : Room := { frames := 0, cells := 0, slots := 0, locals := 0 }
abbrev Q_X3_clearText (G : gG) (b : Nat) (tx : Nat) (h : Nat) (ht : Nat) (pa : Nat) (sl : Nat) (fi : Nat) (tk : Nat)  (bf : Nat → Int32) (tgt : Int32 × (Nat → Int32)) (below : List Frame) (args : Array Value) (s : State) (A : Nat → Prop) : State → Prop := MQ below (qI G tgt.1 [oBr b tx h ht pa sl fi bf, oTx tx tk tgt.2] A) args s 0 0 A
def P_X3_clearText (bf : Nat → Int32) (tf : Nat → Int32) : Int32 × (Nat → Int32) := ((tf 1), (upd tf 1 0))
set_option maxHeartbeats 4000000 in
set_option maxRecDepth 100000 in
theorem c_X3_clearText (l : Launch) (G : gG) (b : Nat) (tx : Nat) (h : Nat) (ht : Nat) (pa : Nat) (sl : Nat) (fi : Nat) (tk : Nat) (bf : Nat → Int32) (tf : Nat → Int32)  : kM l G yX3_clearText wsX3_clearText rm_X3_clearText [.ref b] [oBr b tx h ht pa sl fi bf, oTx tx tk tf] (qI G ((P_X3_clearText bf tf).1) [oBr b tx h ht pa sl fi bf, oTx tx tk ((P_X3_clearText bf tf).2)]) := by
  refine k_body (cc := cX3_clearText) (nL := 2) (ret := (some .int)) (by decide) rfl (Nat.le_of_ble_eq_true rfl) ?_
  intro p e s m args below meth c A cx hP hD hS ls hl
  obtain ⟨hx, hb, hml, hown, hts, hr, hlocks, hK, hA⟩ := id cx
  obtain ⟨H, hH⟩ : ∃ H, H = s.heap := ⟨_, rfl⟩
  obtain ⟨locs, hL⟩ : ∃ locs : List Loc, locs = [] := ⟨_, rfl⟩
  obtain ⟨tgt, hq⟩ : ∃ tgt, (P_X3_clearText bf tf) = tgt := ⟨_, rfl⟩
  have hS : va_S A s.heap H locs := by rw [hH, hL]; exact hS
  rw [← hH] at hP
  have hl : lv_has ls 2 [(0, .ref b)] := hl
  have key : ∀ (H : Heap) (locs : List Loc), va_P G.1 vwCl [oBr b tx h ht pa sl fi bf, oTx tx tk tf] H → va_D A [oBr b tx h ht pa sl fi bf, oTx tx tk tf] → va_S A s.heap H locs → W p l e rm_X3_clearText s m args below meth c H locs 0 0 (Q_X3_clearText G b tx h ht pa sl fi tk bf tgt below args s A) (F0 m 0 ls []) := by
    clear hP hD hS hH hL
    intro H locs hP hD hS
    unfold P_X3_clearText at hq
    refine lv_aload_n hx hb dX3_clearText_0 rfl (lv_at hl 0 rfl) ?_
    refine k_get (v := .ref tx) (T := TX3) (C := RX3) (N := 8) cx hi_X3_clearText_3 hP 0 rfl rfl 0 (by decide) (by decide +kernel) rfl dX3_clearText_1 ?_
    refine k_getN (v := .int (tf 1)) (T := TX2) (C := RX2) (N := 2) (host := RX3) cx hi_X3_clearText_2 hP 1 rfl rfl 1 (by decide) nn_X3_48 rfl dX3_clearText_4 ?_
    refine lv_istore_n (lv' := [(1, .int (tf 1)), (0, .ref b)]) hx hb dX3_clearText_7 rfl hl (by decide) rfl (fun ls hl => ?_)
    refine lv_aload_n hx hb dX3_clearText_8 rfl (lv_at hl 1 rfl) ?_
    refine k_get (v := .ref tx) (T := TX3) (C := RX3) (N := 8) cx hi_X3_clearText_3 hP 0 rfl rfl 0 (by decide) (by decide +kernel) rfl dX3_clearText_9 ?_
    refine lv_iconst (v := 0) hx hb dX3_clearText_12 (by decide) ?_
    refine k_putN (ws' := [oBr b tx h ht pa sl fi bf, oTx tx tk (upd tf 1 0)]) (ty := .int) (T := TX2) (C := RX2) (N := 2) (host := RX3) cx hi_X3_clearText_2 tyX2_ok nmX2 hP hD hS 1 rfl rfl 1 (by decide) nn_X3_48 rfl rfl rfl rfl (Nat.le_of_ble_eq_true rfl) rfl dX3_clearText_13 (fun H locs hP hD hS => ?_)
    refine lv_iload_n hx hb dX3_clearText_16 rfl (lv_at hl 0 rfl) ?_
    subst hq
    exact k_iret cx hP hS dX3_clearText_17
  subst hL
  subst hH
  subst hq
  exact key _ _ hP hD hS

/-! X3_errorPosition -/
theorem hi_X3_errorPosition_3 : ∀ w ∈ u_ws RX3 TX3 8, w ∈ wsX3_errorPosition := by decide +kernel
abbrev rm_X3_errorPosition : Room := { frames := 5, cells := 0, slots := 0, locals := 111 }
abbrev Q_X3_errorPosition (G : gG) (b : Nat) (tx : Nat) (h : Nat) (ht : Nat) (pa : Nat) (sl : Nat) (fi : Nat) (tk : Nat)  (bf : Nat → Int32) (tf : Nat → Int32) (tc : Nat → Int32) (tgt : Int32) (below : List Frame) (args : Array Value) (s : State) (A : Nat → Prop) : State → Prop := MQ below (qI G tgt [oBr b tx h ht pa sl fi bf, oTx tx tk tf, aC G tk 60 tc] A) args s 0 0 A
def P_X3_errorPosition (bf : Nat → Int32) (tf : Nat → Int32) (tc : Nat → Int32) : Int32 := (P_X2_firstError tf tc)
set_option maxHeartbeats 4000000 in
set_option maxRecDepth 100000 in
theorem c_X3_errorPosition (l : Launch) (G : gG) (b : Nat) (tx : Nat) (h : Nat) (ht : Nat) (pa : Nat) (sl : Nat) (fi : Nat) (tk : Nat) (bf : Nat → Int32) (tf : Nat → Int32) (tc : Nat → Int32) (hch : ∀ j, narrow .char (.int (tc j)) = .int (tc j)) : kM l G yX3_errorPosition wsX3_errorPosition rm_X3_errorPosition [.ref b] [oBr b tx h ht pa sl fi bf, oTx tx tk tf, aC G tk 60 tc] (qI G ((P_X3_errorPosition bf tf tc)) [oBr b tx h ht pa sl fi bf, oTx tx tk tf, aC G tk 60 tc]) := by
  refine k_body (cc := cX3_errorPosition) (nL := 1) (ret := (some .int)) (by decide) rfl (Nat.le_of_ble_eq_true rfl) ?_
  intro p e s m args below meth c A cx hP hD hS ls hl
  obtain ⟨hx, hb, hml, hown, hts, hr, hlocks, hK, hA⟩ := id cx
  obtain ⟨H, hH⟩ : ∃ H, H = s.heap := ⟨_, rfl⟩
  obtain ⟨locs, hL⟩ : ∃ locs : List Loc, locs = [] := ⟨_, rfl⟩
  obtain ⟨tgt, hq⟩ : ∃ tgt, (P_X3_errorPosition bf tf tc) = tgt := ⟨_, rfl⟩
  have hS : va_S A s.heap H locs := by rw [hH, hL]; exact hS
  rw [← hH] at hP
  have hl : lv_has ls 1 [(0, .ref b)] := hl
  have key : ∀ (H : Heap) (locs : List Loc), va_P G.1 vwCl [oBr b tx h ht pa sl fi bf, oTx tx tk tf, aC G tk 60 tc] H → va_D A [oBr b tx h ht pa sl fi bf, oTx tx tk tf, aC G tk 60 tc] → va_S A s.heap H locs → W p l e rm_X3_errorPosition s m args below meth c H locs 0 0 (Q_X3_errorPosition G b tx h ht pa sl fi tk bf tf tc tgt below args s A) (F0 m 0 ls []) := by
    clear hP hD hS hH hL
    intro H locs hP hD hS
    unfold P_X3_errorPosition at hq
    refine lv_aload_n hx hb dX3_errorPosition_0 rfl (lv_at hl 0 rfl) ?_
    refine k_get (v := .ref tx) (T := TX3) (C := RX3) (N := 8) cx hi_X3_errorPosition_3 hP 0 rfl rfl 0 (by decide) (by decide +kernel) rfl dX3_errorPosition_1 ?_
    have hC := c_X2_firstError l G tx tk tf tc (hch)
    refine k_i (ws' := [oBr b tx h ht pa sl fi bf, oTx tx tk tf, aC G tk 60 tc]) (as := [tx, tk]) cx hP hD hS [1, 2] rfl (kr_VN (n := 0) (As := []) (ci := 2) cx hC gX3_errorPosition_X2_firstError_n61 rfl rfl rfl nn_X3_61 (by decide +kernel) (by decide +kernel) (by decide +kernel) (by decide +kernel) ⟨Nat.le_of_ble_eq_true rfl, Nat.le_of_ble_eq_true rfl⟩ rfl rfl rfl hP hD [1, 2] rfl rfl rfl rfl hl (Nat.le_of_ble_eq_true rfl) dX3_errorPosition_4 ⟨Nat.le_refl _, Nat.le_refl _⟩) ⟨rfl, rfl⟩ rfl (fun H locs hP hD hS => ?_)
    subst hq
    exact k_iret cx hP hS dX3_errorPosition_7
  subst hL
  subst hH
  subst hq
  exact key _ _ hP hD hS

/-! X3_load -/
theorem hi_X3_load_1 : ∀ w ∈ u_ws RX1 TX1 16, w ∈ wsX3_load := by decide +kernel
theorem hi_X3_load_3 : ∀ w ∈ u_ws RX3 TX3 8, w ∈ wsX3_load := by decide +kernel
abbrev rm_X3_load : Room := { frames := 6, cells := 1, slots := 6, locals := 111 }
abbrev Q_X3_load (G : gG) (b : Nat) (tx : Nat) (h : Nat) (ht : Nat) (pa : Nat) (sl : Nat) (fi : Nat) (tk : Nat) (o : Nat) (g : Nat) (k : Nat) (w0 : va_W)  (tf : Nat → Int32) (tc : Nat → Int32) (ce : Nat → Int32) (tgt : Int32 × Int32 × (Nat → Int32) × (Nat → Int32) × (Nat → Int32) × (Nat → Int32) × (Nat → Int32)) (below : List Frame) (args : Array Value) (s : State) (A : Nat → Prop) : State → Prop := vx_MQ below (qX G tgt.1 tgt.2.1 [oBr b tx h ht pa sl fi tgt.2.2.1, oTx tx tk tf, aC G tk 60 tc, oSt h o g tgt.2.2.2.1, aI G o 6 tgt.2.2.2.2.1, oLed g k tgt.2.2.2.2.2.1, aI G k 80 ce, aZ G fi 2 tgt.2.2.2.2.2.2] A) (xX G tgt.1 w0 A) args s 1 6 A
def P_X3_load_40 (tf : Nat → Int32) (tc : Nat → Int32) (ce : Nat → Int32) : Nat → Int32 → (Nat → Int32) → (Nat → Int32) → (Nat → Int32) → (Nat → Int32) → (Nat → Int32) → Int32 × Int32 × (Nat → Int32) × (Nat → Int32) × (Nat → Int32) × (Nat → Int32) × (Nat → Int32)
  | 0, _, _, _, _, _, _ => (0, 0, (fun _ => 0), (fun _ => 0), (fun _ => 0), (fun _ => 0), (fun _ => 0))
  | n + 1, v1, bf, f, oh, lf, ff => (if 2 ≤ v1 then (0, (f 13), bf, f, oh, lf, ff) else (P_X3_load_40 tf tc ce n (v1 + 1) bf f oh lf (upd ff v1.toNatClampNeg 0)))
set_option maxHeartbeats 4000000 in
set_option maxRecDepth 100000 in
theorem b_X3_load_40 {p : Program} {l : Launch} {e : Env} {s : State} {m : MethodId} {args : Array Value} {below : List Frame} {meth : Method} {c : Code} {G : gG} {A : Nat → Prop} (cx : Cx p s m args meth c cX3_load 2 yX3_load.cls wsX3_load (some .int) G A) (b : Nat) (tx : Nat) (h : Nat) (ht : Nat) (pa : Nat) (sl : Nat) (fi : Nat) (tk : Nat) (o : Nat) (g : Nat) (k : Nat) (w0 : va_W) (tf : Nat → Int32) (tc : Nat → Int32) (ce : Nat → Int32) (hch : ∀ j, narrow .char (.int (tc j)) = .int (tc j))  (tgt : Int32 × Int32 × (Nat → Int32) × (Nat → Int32) × (Nat → Int32) × (Nat → Int32) × (Nat → Int32)) : ∀ (n : Nat) (v1 : Int32) (bf : Nat → Int32) (f : Nat → Int32) (oh : Nat → Int32) (lf : Nat → Int32) (ff : Nat → Int32) (h0 : ¬ v1 < 0) (hm : (((2 : Int32)).toInt - (v1 : Int32).toInt).toNat < n) (hq : P_X3_load_40  tf tc ce n v1 bf f oh lf ff = tgt) (H : Heap) (locs : List Loc) (hP : va_P G.1 vwCl [oBr b tx h ht pa sl fi bf, oTx tx tk tf, aC G tk 60 tc, oSt h o g f, aI G o 6 oh, oLed g k lf, aI G k 80 ce, aZ G fi 2 ff] H) (hD : va_D A [oBr b tx h ht pa sl fi bf, oTx tx tk tf, aC G tk 60 tc, oSt h o g f, aI G o 6 oh, oLed g k lf, aI G k 80 ce, aZ G fi 2 ff]) (hS : va_S A s.heap H locs) (ls : Array Slot) (hl : lv_has ls 2 [(0, .ref b), (1, .int v1)]), W p l e rm_X3_load s m args below meth c H locs 0 0 (Q_X3_load G b tx h ht pa sl fi tk o g k w0 tf tc ce tgt below args s A) (F0 m 40 ls []) := by
  obtain ⟨hx, hb, hml, hown, hts, hr, hlocks, hK, hA⟩ := id cx
  intro n
  induction n with
  | zero => intros; omega
  | succ n ih =>
    intro v1 bf f oh lf ff h0 hm hq H locs hP hD hS ls hl
    unfold P_X3_load_40 at hq
    refine lv_iload_n hx hb dX3_load_40 rfl (lv_at hl 1 rfl) ?_
    refine lv_aload_n hx hb dX3_load_41 rfl (lv_at hl 0 rfl) ?_
    refine k_get (v := .ref fi) (T := TX3) (C := RX3) (N := 8) cx hi_X3_load_3 hP 0 rfl rfl 7 (by decide) (by decide +kernel) rfl dX3_load_42 ?_
    refine k_alenI (v := 2) (t0 := 2) cx hP 7 rfl rfl rfl dX3_load_45 ?_
    refine lv_icmp_ge (tgt := 62) hx hb dX3_load_46 (by decide) (fun c_46 => ?_) (fun c_46 => ?_)
    · replace hq := (if_pos c_46).symm.trans hq
      refine lv_aload_n hx hb dX3_load_62 rfl (lv_at hl 0 rfl) ?_
      refine k_get (v := .ref h) (T := TX3) (C := RX3) (N := 8) cx hi_X3_load_3 hP 0 rfl rfl 1 (by decide) (by decide +kernel) rfl dX3_load_63 ?_
      refine k_getN (v := .int (f 13)) (T := TX1) (C := RX1) (N := 16) (host := RX3) cx hi_X3_load_1 hP 3 rfl rfl 13 (by decide) nn_X3_74 rfl dX3_load_66 ?_
      subst hq
      exact k_iretX cx rfl hP hS dX3_load_69
    · replace hq := (if_neg c_46).symm.trans hq
      refine lv_aload_n hx hb dX3_load_49 rfl (lv_at hl 0 rfl) ?_
      refine k_get (v := .ref fi) (T := TX3) (C := RX3) (N := 8) cx hi_X3_load_3 hP 0 rfl rfl 7 (by decide) (by decide +kernel) rfl dX3_load_50 ?_
      refine lv_iload_n hx hb dX3_load_53 rfl (lv_at hl 1 rfl) ?_
      refine lv_iconst (v := 0) hx hb dX3_load_54 (by decide) ?_
      refine k_zast (ws' := [oBr b tx h ht pa sl fi bf, oTx tx tk tf, aC G tk 60 tc, oSt h o g f, aI G o 6 oh, oLed g k lf, aI G k 80 ce, aZ G fi 2 (upd ff v1.toNatClampNeg 0)]) (j := v1.toNatClampNeg) (z := 0) cx hP hD hS 7 rfl rfl (ix_le (N := 2) (by assumption) (by assumption) (by decide)) rfl rfl dX3_load_55 (fun H locs hP hD hS => ?_)
      refine lv_iinc (v := (v1 + 1)) (lv' := [(1, .int (v1 + 1)), (0, .ref b)]) hx hb dX3_load_56 hl (k := 1) rfl rfl (by decide) rfl (fun ls hl => ?_)
      refine lv_goto (tgt := 40) hx hb dX3_load_59 (by decide) ?_
      exact ih (v1 + 1) bf f oh lf (upd ff v1.toNatClampNeg 0) (nn_inc h0 (N := (2 : Int32)) (by assumption)) (by have hmd := mu_up (N := (2 : Int32)) (by assumption); omega) hq H locs hP hD hS _ (lv_sub hl [1, 0] rfl)
def P_X3_load (bf : Nat → Int32) (tf : Nat → Int32) (tc : Nat → Int32) (f : Nat → Int32) (oh : Nat → Int32) (lf : Nat → Int32) (ce : Nat → Int32) (ff : Nat → Int32) : Int32 × Int32 × (Nat → Int32) × (Nat → Int32) × (Nat → Int32) × (Nat → Int32) × (Nat → Int32) := (if (P_X2_firstError tf tc) = (-9999) then (let u31 := P_X1_take f oh lf ce tf tc; let u35 := P_X3_forgetPast bf; (P_X3_load_40 tf tc ce ((((2 : Int32)).toInt - (0 : Int32).toInt).toNat + 1) 0 u35 u31.1 u31.2.1 u31.2.2 ff)) else (2, 0, bf, f, oh, lf, ff))
set_option maxHeartbeats 4000000 in
set_option maxRecDepth 100000 in
theorem c_X3_load (l : Launch) (hlt : l.stackTraces = false) (G : gG) (b : Nat) (tx : Nat) (h : Nat) (ht : Nat) (pa : Nat) (sl : Nat) (fi : Nat) (tk : Nat) (o : Nat) (g : Nat) (k : Nat) (bf : Nat → Int32) (tf : Nat → Int32) (tc : Nat → Int32) (f : Nat → Int32) (oh : Nat → Int32) (lf : Nat → Int32) (ce : Nat → Int32) (ff : Nat → Int32) (hch : ∀ j, narrow .char (.int (tc j)) = .int (tc j)) : kX l G yX3_load wsX3_load rm_X3_load [.ref b] [oBr b tx h ht pa sl fi bf, oTx tx tk tf, aC G tk 60 tc, oSt h o g f, aI G o 6 oh, oLed g k lf, aI G k 80 ce, aZ G fi 2 ff] (qX G ((P_X3_load bf tf tc f oh lf ce ff).1) ((P_X3_load bf tf tc f oh lf ce ff).2.1) [oBr b tx h ht pa sl fi ((P_X3_load bf tf tc f oh lf ce ff).2.2.1), oTx tx tk tf, aC G tk 60 tc, oSt h o g ((P_X3_load bf tf tc f oh lf ce ff).2.2.2.1), aI G o 6 ((P_X3_load bf tf tc f oh lf ce ff).2.2.2.2.1), oLed g k ((P_X3_load bf tf tc f oh lf ce ff).2.2.2.2.2.1), aI G k 80 ce, aZ G fi 2 ((P_X3_load bf tf tc f oh lf ce ff).2.2.2.2.2.2)]) (xX G ((P_X3_load bf tf tc f oh lf ce ff).1) [oBr b tx h ht pa sl fi bf, oTx tx tk tf, aC G tk 60 tc, oSt h o g f, aI G o 6 oh, oLed g k lf, aI G k 80 ce, aZ G fi 2 ff]) := by
  refine k_bodyX (cc := cX3_load) (nL := 2) (ret := (some .int)) hlt (by decide) rfl (Nat.le_of_ble_eq_true rfl) ?_
  intro p e s m args below meth c A cx ct hP hD hS ls hl
  obtain ⟨hx, hb, hml, hown, hts, hr, hlocks, hK, hA⟩ := id cx
  obtain ⟨H, hH⟩ : ∃ H, H = s.heap := ⟨_, rfl⟩
  obtain ⟨locs, hL⟩ : ∃ locs : List Loc, locs = [] := ⟨_, rfl⟩
  obtain ⟨tgt, hq⟩ : ∃ tgt, (P_X3_load bf tf tc f oh lf ce ff) = tgt := ⟨_, rfl⟩
  obtain ⟨w0, hw0⟩ : ∃ w0 : va_W, w0 = [oBr b tx h ht pa sl fi bf, oTx tx tk tf, aC G tk 60 tc, oSt h o g f, aI G o 6 oh, oLed g k lf, aI G k 80 ce, aZ G fi 2 ff] := ⟨_, rfl⟩
  have hS : va_S A s.heap H locs := by rw [hH, hL]; exact hS
  rw [← hH] at hP
  have hl : lv_has ls 2 [(0, .ref b)] := hl
  have key : ∀ (H : Heap) (locs : List Loc), va_P G.1 vwCl [oBr b tx h ht pa sl fi bf, oTx tx tk tf, aC G tk 60 tc, oSt h o g f, aI G o 6 oh, oLed g k lf, aI G k 80 ce, aZ G fi 2 ff] H → va_D A [oBr b tx h ht pa sl fi bf, oTx tx tk tf, aC G tk 60 tc, oSt h o g f, aI G o 6 oh, oLed g k lf, aI G k 80 ce, aZ G fi 2 ff] → va_S A s.heap H locs → W p l e rm_X3_load s m args below meth c H locs 0 0 (Q_X3_load G b tx h ht pa sl fi tk o g k w0 tf tc ce tgt below args s A) (F0 m 0 ls []) := by
    clear hP hD hS hH hL
    intro H locs hP hD hS
    unfold P_X3_load at hq
    refine lv_aload_n hx hb dX3_load_0 rfl (lv_at hl 0 rfl) ?_
    refine k_get (v := .ref tx) (T := TX3) (C := RX3) (N := 8) cx hi_X3_load_3 hP 0 rfl rfl 0 (by decide) (by decide +kernel) rfl dX3_load_1 ?_
    have hC := c_X2_firstError l G tx tk tf tc (hch)
    refine k_i (ws' := [oBr b tx h ht pa sl fi bf, oTx tx tk tf, aC G tk 60 tc, oSt h o g f, aI G o 6 oh, oLed g k lf, aI G k 80 ce, aZ G fi 2 ff]) (as := [tx, tk]) cx hP hD hS [1, 2] rfl (kr_VN (n := 0) (As := []) (ci := 2) cx hC gX3_load_X2_firstError_n61 rfl rfl rfl nn_X3_61 (by decide +kernel) (by decide +kernel) (by decide +kernel) (by decide +kernel) ⟨Nat.le_of_ble_eq_true rfl, Nat.le_of_ble_eq_true rfl⟩ rfl rfl rfl hP hD [1, 2] rfl rfl rfl rfl hl (Nat.le_of_ble_eq_true rfl) dX3_load_4 ⟨Nat.zero_le _, Nat.zero_le _⟩) ⟨rfl, rfl⟩ rfl (fun H locs hP hD hS => ?_)
    refine lv_sipush (v := (-9999)) hx hb dX3_load_7 (by decide) ?_
    refine lv_icmp_eq (tgt := 23) hx hb dX3_load_10 (by decide) (fun c_10 => ?_) (fun c_10 => ?_)
    · replace hq := (if_pos c_10).symm.trans hq
      refine lv_aload_n hx hb dX3_load_23 rfl (lv_at hl 0 rfl) ?_
      refine k_get (v := .ref h) (T := TX3) (C := RX3) (N := 8) cx hi_X3_load_3 hP 0 rfl rfl 1 (by decide) (by decide +kernel) rfl dX3_load_24 ?_
      refine lv_aload_n hx hb dX3_load_27 rfl (lv_at hl 0 rfl) ?_
      refine k_get (v := .ref tx) (T := TX3) (C := RX3) (N := 8) cx hi_X3_load_3 hP 0 rfl rfl 0 (by decide) (by decide +kernel) rfl dX3_load_28 ?_
      have hC := c_X1_take l G h o g k tx tk f oh lf ce tf tc (hch)
      generalize hu31 : P_X1_take f oh lf ce tf tc = u31 at hC hq
      refine k_v (ws' := [oBr b tx h ht pa sl fi bf, oTx tx tk tf, aC G tk 60 tc, oSt h o g u31.1, aI G o 6 u31.2.1, oLed g k u31.2.2, aI G k 80 ce, aZ G fi 2 ff]) (as := [h, o, g, k, tx, tk]) cx hP hD hS [3, 4, 5, 6, 1, 2] rfl (kr_VN (n := 1) (As := [.ref tx]) (ci := 1) cx hC gX3_load_X1_take_n67 rfl rfl rfl nn_X3_67 (by decide +kernel) (by decide +kernel) (by decide +kernel) (by decide +kernel) ⟨Nat.le_of_ble_eq_true rfl, Nat.le_of_ble_eq_true rfl⟩ rfl rfl rfl hP hD [3, 4, 5, 6, 1, 2] rfl rfl rfl rfl hl (Nat.le_of_ble_eq_true rfl) dX3_load_31 ⟨Nat.zero_le _, Nat.zero_le _⟩) ⟨rfl, rfl⟩ rfl (fun H locs hP hD hS => ?_)
      refine lv_aload_n hx hb dX3_load_34 rfl (lv_at hl 0 rfl) ?_
      have hC := c_X3_forgetPast l G b tx h ht pa sl fi bf
      replace hq := k_let hq
      generalize hu35 : P_X3_forgetPast bf = u35 at hC hq
      refine k_v (ws' := [oBr b tx h ht pa sl fi u35, oTx tx tk tf, aC G tk 60 tc, oSt h o g u31.1, aI G o 6 u31.2.1, oLed g k u31.2.2, aI G k 80 ce, aZ G fi 2 ff]) (as := [b]) cx hP hD hS [0] rfl (kr_V (n := 0) (As := []) (ci := 3) cx hC gX3_load_X3_forgetPast rfl rfl rfl (by decide +kernel) ⟨Nat.le_of_ble_eq_true rfl, Nat.le_of_ble_eq_true rfl⟩ rfl rfl rfl hP hD [0] rfl rfl rfl rfl hl (Nat.le_of_ble_eq_true rfl) dX3_load_35 ⟨Nat.zero_le _, Nat.zero_le _⟩) ⟨rfl, rfl⟩ rfl (fun H locs hP hD hS => ?_)
      refine lv_iconst (v := 0) hx hb dX3_load_38 (by decide) ?_
      refine lv_istore_n (lv' := [(1, .int 0), (0, .ref b)]) hx hb dX3_load_39 rfl hl (by decide) rfl (fun ls hl => ?_)
      exact b_X3_load_40 cx b tx h ht pa sl fi tk o g k w0 tf tc ce hch tgt ((((2 : Int32)).toInt - (0 : Int32).toInt).toNat + 1) 0 u35 u31.1 u31.2.1 u31.2.2 ff (by decide) (Nat.lt_succ_self _) hq H locs hP hD hS _ (lv_sub hl [1, 0] rfl)
    · replace hq := (if_neg c_10).symm.trans hq
      subst hq
      exact k_thrS (cls := "java/lang/IllegalStateException") (tx := "the text has an error") (r := 0) (ws := [oBr b tx h ht pa sl fi bf, oTx tx tk tf, aC G tk 60 tc, oSt h o g f, aI G o 6 oh, oLed g k lf, aI G k 80 ce, aZ G fi 2 ff]) (w0 := w0) cx ct (by decide +kernel) ⟨by decide +kernel, by decide +kernel⟩ (by decide +kernel) (fun w h => List.mem_cons_of_mem _ (List.mem_append_right _ h)) e1_56 e2_52_56 rfl (by rw [hw0]; exact hP) hS hl ⟨Nat.le_of_ble_eq_true rfl, Nat.le_of_ble_eq_true rfl, Nat.le_of_ble_eq_true rfl, Nat.le_of_ble_eq_true rfl⟩ dX3_load_13 dX3_load_16 dX3_load_17 dX3_load_19 dX3_load_22
  subst hL
  subst hH
  subst hq
  subst hw0
  exact key _ _ hP hD hS

/-! X3_about -/
theorem hi_X3_about_3 : ∀ w ∈ u_ws RX3 TX3 8, w ∈ wsX3_about := by decide +kernel
abbrev rm_X3_about : Room := { frames := 6, cells := 1, slots := 6, locals := 82 }
abbrev Q_X3_about (G : gG) (b : Nat) (tx : Nat) (h : Nat) (ht : Nat) (pa : Nat) (sl : Nat) (fi : Nat) (o : Nat) (g : Nat) (k : Nat) (w0 : va_W)  (bf : Nat → Int32) (f : Nat → Int32) (lf : Nat → Int32) (tgt : Int32 × Int32) (below : List Frame) (args : Array Value) (s : State) (A : Nat → Prop) : State → Prop := vx_MQ below (qX G tgt.1 tgt.2 [oBr b tx h ht pa sl fi bf, oSt h o g f, oLed g k lf] A) (xX G tgt.1 w0 A) args s 1 6 A
def P_X3_about (bf : Nat → Int32) (f : Nat → Int32) (lf : Nat → Int32) (what : Int32) : Int32 × Int32 := (if (P_X3_outside what 0 15) = 0 then (0, (P_X1_number f lf what)) else (1, 0))
set_option maxHeartbeats 4000000 in
set_option maxRecDepth 100000 in
theorem c_X3_about (l : Launch) (hlt : l.stackTraces = false) (G : gG) (b : Nat) (tx : Nat) (h : Nat) (ht : Nat) (pa : Nat) (sl : Nat) (fi : Nat) (o : Nat) (g : Nat) (k : Nat) (bf : Nat → Int32) (f : Nat → Int32) (lf : Nat → Int32) (what : Int32)  : kX l G yX3_about wsX3_about rm_X3_about [.ref b, .int what] [oBr b tx h ht pa sl fi bf, oSt h o g f, oLed g k lf] (qX G ((P_X3_about bf f lf what).1) ((P_X3_about bf f lf what).2) [oBr b tx h ht pa sl fi bf, oSt h o g f, oLed g k lf]) (xX G ((P_X3_about bf f lf what).1) [oBr b tx h ht pa sl fi bf, oSt h o g f, oLed g k lf]) := by
  refine k_bodyX (cc := cX3_about) (nL := 2) (ret := (some .int)) hlt (by decide) rfl (Nat.le_of_ble_eq_true rfl) ?_
  intro p e s m args below meth c A cx ct hP hD hS ls hl
  obtain ⟨hx, hb, hml, hown, hts, hr, hlocks, hK, hA⟩ := id cx
  obtain ⟨H, hH⟩ : ∃ H, H = s.heap := ⟨_, rfl⟩
  obtain ⟨locs, hL⟩ : ∃ locs : List Loc, locs = [] := ⟨_, rfl⟩
  obtain ⟨tgt, hq⟩ : ∃ tgt, (P_X3_about bf f lf what) = tgt := ⟨_, rfl⟩
  obtain ⟨w0, hw0⟩ : ∃ w0 : va_W, w0 = [oBr b tx h ht pa sl fi bf, oSt h o g f, oLed g k lf] := ⟨_, rfl⟩
  have hS : va_S A s.heap H locs := by rw [hH, hL]; exact hS
  rw [← hH] at hP
  have hl : lv_has ls 2 [(0, .ref b), (1, .int what)] := hl
  have key : ∀ (H : Heap) (locs : List Loc), va_P G.1 vwCl [oBr b tx h ht pa sl fi bf, oSt h o g f, oLed g k lf] H → va_D A [oBr b tx h ht pa sl fi bf, oSt h o g f, oLed g k lf] → va_S A s.heap H locs → W p l e rm_X3_about s m args below meth c H locs 0 0 (Q_X3_about G b tx h ht pa sl fi o g k w0 bf f lf tgt below args s A) (F0 m 0 ls []) := by
    clear hP hD hS hH hL
    intro H locs hP hD hS
    unfold P_X3_about at hq
    refine lv_iload_n hx hb dX3_about_0 rfl (lv_at hl 1 rfl) ?_
    refine lv_iconst (v := 0) hx hb dX3_about_1 (by decide) ?_
    refine lv_bipush (v := 15) hx hb dX3_about_2 (by decide) ?_
    have hC := c_X3_outside l G what 0 15
    refine k_i (ws' := [oBr b tx h ht pa sl fi bf, oSt h o g f, oLed g k lf]) (as := []) cx hP hD hS [] rfl (kr_S (n := 3) (As := [.int what, .int 0, .int 15]) cx hC gX3_about_X3_outside rfl rfl rfl (by decide +kernel) ⟨Nat.le_of_ble_eq_true rfl, Nat.le_of_ble_eq_true rfl⟩ hP hD [] rfl rfl rfl rfl hl (Nat.le_of_ble_eq_true rfl) dX3_about_4 ⟨Nat.zero_le _, Nat.zero_le _⟩) ⟨rfl, rfl⟩ rfl (fun H locs hP hD hS => ?_)
    refine lv_if_eq (tgt := 20) hx hb dX3_about_7 (by decide) (fun c_7 => ?_) (fun c_7 => ?_)
    · replace hq := (if_pos c_7).symm.trans hq
      refine lv_aload_n hx hb dX3_about_20 rfl (lv_at hl 0 rfl) ?_
      refine k_get (v := .ref h) (T := TX3) (C := RX3) (N := 8) cx hi_X3_about_3 hP 0 rfl rfl 1 (by decide) (by decide +kernel) rfl dX3_about_21 ?_
      refine lv_iload_n hx hb dX3_about_24 rfl (lv_at hl 1 rfl) ?_
      have hC := c_X1_number l G h o g k f lf what
      refine k_i (ws' := [oBr b tx h ht pa sl fi bf, oSt h o g f, oLed g k lf]) (as := [h, g]) cx hP hD hS [1, 2] rfl (kr_VN (n := 1) (As := [.int what]) (ci := 1) cx hC gX3_about_X1_number_n79 rfl rfl rfl nn_X3_79 (by decide +kernel) (by decide +kernel) (by decide +kernel) (by decide +kernel) ⟨Nat.le_of_ble_eq_true rfl, Nat.le_of_ble_eq_true rfl⟩ rfl rfl rfl hP hD [1, 2] rfl rfl rfl rfl hl (Nat.le_of_ble_eq_true rfl) dX3_about_25 ⟨Nat.zero_le _, Nat.zero_le _⟩) ⟨rfl, rfl⟩ rfl (fun H locs hP hD hS => ?_)
      subst hq
      exact k_iretX cx rfl hP hS dX3_about_28
    · replace hq := (if_neg c_7).symm.trans hq
      subst hq
      exact k_thrS (cls := "java/lang/IllegalArgumentException") (tx := "what is not 0 to 15") (r := 0) (ws := [oBr b tx h ht pa sl fi bf, oSt h o g f, oLed g k lf]) (w0 := w0) cx ct (by decide +kernel) ⟨by decide +kernel, by decide +kernel⟩ (by decide +kernel) (fun w h => List.mem_cons_of_mem _ (List.mem_append_right _ h)) e1_45 e2_41_45 rfl (by rw [hw0]; exact hP) hS hl ⟨Nat.le_of_ble_eq_true rfl, Nat.le_of_ble_eq_true rfl, Nat.le_of_ble_eq_true rfl, Nat.le_of_ble_eq_true rfl⟩ dX3_about_10 dX3_about_13 dX3_about_14 dX3_about_16 dX3_about_19
  subst hL
  subst hH
  subst hq
  subst hw0
  exact key _ _ hP hD hS

/-! X3_told -/
theorem hi_X3_told_1 : ∀ w ∈ u_ws RX1 TX1 16, w ∈ wsX3_told := by decide +kernel
theorem hi_X3_told_3 : ∀ w ∈ u_ws RX3 TX3 8, w ∈ wsX3_told := by decide +kernel
abbrev rm_X3_told : Room := { frames := 6, cells := 1, slots := 6, locals := 82 }
abbrev Q_X3_told (G : gG) (b : Nat) (tx : Nat) (h : Nat) (ht : Nat) (pa : Nat) (sl : Nat) (fi : Nat) (o : Nat) (g : Nat) (k : Nat) (w0 : va_W)  (bf : Nat → Int32) (f : Nat → Int32) (lf : Nat → Int32) (ce : Nat → Int32) (tgt : Int32 × Int32) (below : List Frame) (args : Array Value) (s : State) (A : Nat → Prop) : State → Prop := vx_MQ below (qX G tgt.1 tgt.2 [oBr b tx h ht pa sl fi bf, oSt h o g f, oLed g k lf, aI G k 80 ce] A) (xX G tgt.1 w0 A) args s 1 6 A
def P_X3_told (bf : Nat → Int32) (f : Nat → Int32) (lf : Nat → Int32) (ce : Nat → Int32) (j : Int32) (what : Int32) : Int32 × Int32 := (if j < 0 then (1, 0) else (if (P_X3_outside what 0 3) = 0 then (0, (P_X0_cell lf ce j what)) else (1, 0)))
set_option maxHeartbeats 4000000 in
set_option maxRecDepth 100000 in
theorem c_X3_told (l : Launch) (hlt : l.stackTraces = false) (G : gG) (b : Nat) (tx : Nat) (h : Nat) (ht : Nat) (pa : Nat) (sl : Nat) (fi : Nat) (o : Nat) (g : Nat) (k : Nat) (bf : Nat → Int32) (f : Nat → Int32) (lf : Nat → Int32) (ce : Nat → Int32) (j : Int32) (what : Int32)  : kX l G yX3_told wsX3_told rm_X3_told [.ref b, .int j, .int what] [oBr b tx h ht pa sl fi bf, oSt h o g f, oLed g k lf, aI G k 80 ce] (qX G ((P_X3_told bf f lf ce j what).1) ((P_X3_told bf f lf ce j what).2) [oBr b tx h ht pa sl fi bf, oSt h o g f, oLed g k lf, aI G k 80 ce]) (xX G ((P_X3_told bf f lf ce j what).1) [oBr b tx h ht pa sl fi bf, oSt h o g f, oLed g k lf, aI G k 80 ce]) := by
  refine k_bodyX (cc := cX3_told) (nL := 3) (ret := (some .int)) hlt (by decide) rfl (Nat.le_of_ble_eq_true rfl) ?_
  intro p e s m args below meth c A cx ct hP hD hS ls hl
  obtain ⟨hx, hb, hml, hown, hts, hr, hlocks, hK, hA⟩ := id cx
  obtain ⟨H, hH⟩ : ∃ H, H = s.heap := ⟨_, rfl⟩
  obtain ⟨locs, hL⟩ : ∃ locs : List Loc, locs = [] := ⟨_, rfl⟩
  obtain ⟨tgt, hq⟩ : ∃ tgt, (P_X3_told bf f lf ce j what) = tgt := ⟨_, rfl⟩
  obtain ⟨w0, hw0⟩ : ∃ w0 : va_W, w0 = [oBr b tx h ht pa sl fi bf, oSt h o g f, oLed g k lf, aI G k 80 ce] := ⟨_, rfl⟩
  have hS : va_S A s.heap H locs := by rw [hH, hL]; exact hS
  rw [← hH] at hP
  have hl : lv_has ls 3 [(0, .ref b), (1, .int j), (2, .int what)] := hl
  have key : ∀ (H : Heap) (locs : List Loc), va_P G.1 vwCl [oBr b tx h ht pa sl fi bf, oSt h o g f, oLed g k lf, aI G k 80 ce] H → va_D A [oBr b tx h ht pa sl fi bf, oSt h o g f, oLed g k lf, aI G k 80 ce] → va_S A s.heap H locs → W p l e rm_X3_told s m args below meth c H locs 0 0 (Q_X3_told G b tx h ht pa sl fi o g k w0 bf f lf ce tgt below args s A) (F0 m 0 ls []) := by
    clear hP hD hS hH hL
    intro H locs hP hD hS
    unfold P_X3_told at hq
    refine lv_iload_n hx hb dX3_told_0 rfl (lv_at hl 1 rfl) ?_
    refine lv_if_lt (tgt := 13) hx hb dX3_told_1 (by decide) (fun c_1 => ?_) (fun c_1 => ?_)
    · replace hq := (if_pos c_1).symm.trans hq
      subst hq
      exact k_thrS (cls := "java/lang/IllegalArgumentException") (tx := "j is negative or what is not 0 to 3") (r := 0) (ws := [oBr b tx h ht pa sl fi bf, oSt h o g f, oLed g k lf, aI G k 80 ce]) (w0 := w0) cx ct (by decide +kernel) ⟨by decide +kernel, by decide +kernel⟩ (by decide +kernel) (fun w h => List.mem_cons_of_mem _ (List.mem_append_right _ h)) e1_45 e2_41_45 rfl (by rw [hw0]; exact hP) hS hl ⟨Nat.le_of_ble_eq_true rfl, Nat.le_of_ble_eq_true rfl, Nat.le_of_ble_eq_true rfl, Nat.le_of_ble_eq_true rfl⟩ dX3_told_13 dX3_told_16 dX3_told_17 dX3_told_19 dX3_told_22
    · replace hq := (if_neg c_1).symm.trans hq
      refine lv_iload_n hx hb dX3_told_4 rfl (lv_at hl 2 rfl) ?_
      refine lv_iconst (v := 0) hx hb dX3_told_5 (by decide) ?_
      refine lv_iconst (v := 3) hx hb dX3_told_6 (by decide) ?_
      have hC := c_X3_outside l G what 0 3
      refine k_i (ws' := [oBr b tx h ht pa sl fi bf, oSt h o g f, oLed g k lf, aI G k 80 ce]) (as := []) cx hP hD hS [] rfl (kr_S (n := 3) (As := [.int what, .int 0, .int 3]) cx hC gX3_told_X3_outside rfl rfl rfl (by decide +kernel) ⟨Nat.le_of_ble_eq_true rfl, Nat.le_of_ble_eq_true rfl⟩ hP hD [] rfl rfl rfl rfl hl (Nat.le_of_ble_eq_true rfl) dX3_told_7 ⟨Nat.zero_le _, Nat.zero_le _⟩) ⟨rfl, rfl⟩ rfl (fun H locs hP hD hS => ?_)
      refine lv_if_eq (tgt := 23) hx hb dX3_told_10 (by decide) (fun c_10 => ?_) (fun c_10 => ?_)
      · replace hq := (if_pos c_10).symm.trans hq
        refine lv_aload_n hx hb dX3_told_23 rfl (lv_at hl 0 rfl) ?_
        refine k_get (v := .ref h) (T := TX3) (C := RX3) (N := 8) cx hi_X3_told_3 hP 0 rfl rfl 1 (by decide) (by decide +kernel) rfl dX3_told_24 ?_
        refine k_getN (v := .ref g) (T := TX1) (C := RX1) (N := 16) (host := RX3) cx hi_X3_told_1 hP 1 rfl rfl 15 (by decide) nn_X3_87 rfl dX3_told_27 ?_
        refine lv_iload_n hx hb dX3_told_30 rfl (lv_at hl 1 rfl) ?_
        refine lv_iload_n hx hb dX3_told_31 rfl (lv_at hl 2 rfl) ?_
        have hC := c_X0_cell l G g k lf ce j what
        refine k_i (ws' := [oBr b tx h ht pa sl fi bf, oSt h o g f, oLed g k lf, aI G k 80 ce]) (as := [g, k]) cx hP hD hS [2, 3] rfl (kr_VN (n := 2) (As := [.int j, .int what]) (ci := 0) cx hC gX3_told_X0_cell_n91 rfl rfl rfl nn_X3_91 (by decide +kernel) (by decide +kernel) (by decide +kernel) (by decide +kernel) ⟨Nat.le_of_ble_eq_true rfl, Nat.le_of_ble_eq_true rfl⟩ rfl rfl rfl hP hD [2, 3] rfl rfl rfl rfl hl (Nat.le_of_ble_eq_true rfl) dX3_told_32 ⟨Nat.zero_le _, Nat.zero_le _⟩) ⟨rfl, rfl⟩ rfl (fun H locs hP hD hS => ?_)
        subst hq
        exact k_iretX cx rfl hP hS dX3_told_35
      · replace hq := (if_neg c_10).symm.trans hq
        subst hq
        exact k_thrS (cls := "java/lang/IllegalArgumentException") (tx := "j is negative or what is not 0 to 3") (r := 0) (ws := [oBr b tx h ht pa sl fi bf, oSt h o g f, oLed g k lf, aI G k 80 ce]) (w0 := w0) cx ct (by decide +kernel) ⟨by decide +kernel, by decide +kernel⟩ (by decide +kernel) (fun w h => List.mem_cons_of_mem _ (List.mem_append_right _ h)) e1_45 e2_41_45 rfl (by rw [hw0]; exact hP) hS hl ⟨Nat.le_of_ble_eq_true rfl, Nat.le_of_ble_eq_true rfl, Nat.le_of_ble_eq_true rfl, Nat.le_of_ble_eq_true rfl⟩ dX3_told_13 dX3_told_16 dX3_told_17 dX3_told_19 dX3_told_22
  subst hL
  subst hH
  subst hq
  subst hw0
  exact key _ _ hP hD hS

/-! X3_bridge -/
theorem hi_X3_bridge_1 : ∀ w ∈ u_ws RX1 TX1 16, w ∈ wsX3_bridge := by decide +kernel
theorem hi_X3_bridge_3 : ∀ w ∈ u_ws RX3 TX3 8, w ∈ wsX3_bridge := by decide +kernel
abbrev rm_X3_bridge : Room := { frames := 6, cells := 1, slots := 6, locals := 82 }
abbrev Q_X3_bridge (G : gG) (b : Nat) (tx : Nat) (h : Nat) (ht : Nat) (pa : Nat) (sl : Nat) (fi : Nat) (o : Nat) (g : Nat) (w0 : va_W)  (bf : Nat → Int32) (f : Nat → Int32) (oh : Nat → Int32) (tgt : Int32 × Int32) (below : List Frame) (args : Array Value) (s : State) (A : Nat → Prop) : State → Prop := vx_MQ below (qX G tgt.1 tgt.2 [oBr b tx h ht pa sl fi bf, oSt h o g f, aI G o 6 oh] A) (xX G tgt.1 w0 A) args s 1 6 A
def P_X3_bridge (bf : Nat → Int32) (f : Nat → Int32) (oh : Nat → Int32) (what : Int32) : Int32 × Int32 := (if (P_X3_outside what 0 4) = 0 then (if what = 0 then (0, (P_X1_difference f oh (f 2))) else if what = 1 then (0, (P_X1_denominator f oh (f 2))) else if what = 2 then (0, (P_X3_deflectionWith bf f oh (f 2))) else if what = 3 then (0, ((P_X1_offset f) + (P_X3_deflectionWith bf f oh (f 2)))) else (0, ((P_X1_offset f) - (P_X3_deflectionWith bf f oh (f 2))))) else (1, 0))
set_option maxHeartbeats 4000000 in
set_option maxRecDepth 100000 in
theorem c_X3_bridge (l : Launch) (hlt : l.stackTraces = false) (G : gG) (b : Nat) (tx : Nat) (h : Nat) (ht : Nat) (pa : Nat) (sl : Nat) (fi : Nat) (o : Nat) (g : Nat) (bf : Nat → Int32) (f : Nat → Int32) (oh : Nat → Int32) (what : Int32)  : kX l G yX3_bridge wsX3_bridge rm_X3_bridge [.ref b, .int what] [oBr b tx h ht pa sl fi bf, oSt h o g f, aI G o 6 oh] (qX G ((P_X3_bridge bf f oh what).1) ((P_X3_bridge bf f oh what).2) [oBr b tx h ht pa sl fi bf, oSt h o g f, aI G o 6 oh]) (xX G ((P_X3_bridge bf f oh what).1) [oBr b tx h ht pa sl fi bf, oSt h o g f, aI G o 6 oh]) := by
  refine k_bodyX (cc := cX3_bridge) (nL := 2) (ret := (some .int)) hlt (by decide) rfl (Nat.le_of_ble_eq_true rfl) ?_
  intro p e s m args below meth c A cx ct hP hD hS ls hl
  obtain ⟨hx, hb, hml, hown, hts, hr, hlocks, hK, hA⟩ := id cx
  obtain ⟨H, hH⟩ : ∃ H, H = s.heap := ⟨_, rfl⟩
  obtain ⟨locs, hL⟩ : ∃ locs : List Loc, locs = [] := ⟨_, rfl⟩
  obtain ⟨tgt, hq⟩ : ∃ tgt, (P_X3_bridge bf f oh what) = tgt := ⟨_, rfl⟩
  obtain ⟨w0, hw0⟩ : ∃ w0 : va_W, w0 = [oBr b tx h ht pa sl fi bf, oSt h o g f, aI G o 6 oh] := ⟨_, rfl⟩
  have hS : va_S A s.heap H locs := by rw [hH, hL]; exact hS
  rw [← hH] at hP
  have hl : lv_has ls 2 [(0, .ref b), (1, .int what)] := hl
  have key : ∀ (H : Heap) (locs : List Loc), va_P G.1 vwCl [oBr b tx h ht pa sl fi bf, oSt h o g f, aI G o 6 oh] H → va_D A [oBr b tx h ht pa sl fi bf, oSt h o g f, aI G o 6 oh] → va_S A s.heap H locs → W p l e rm_X3_bridge s m args below meth c H locs 0 0 (Q_X3_bridge G b tx h ht pa sl fi o g w0 bf f oh tgt below args s A) (F0 m 0 ls []) := by
    clear hP hD hS hH hL
    intro H locs hP hD hS
    unfold P_X3_bridge at hq
    refine lv_iload_n hx hb dX3_bridge_0 rfl (lv_at hl 1 rfl) ?_
    refine lv_iconst (v := 0) hx hb dX3_bridge_1 (by decide) ?_
    refine lv_iconst (v := 4) hx hb dX3_bridge_2 (by decide) ?_
    have hC := c_X3_outside l G what 0 4
    refine k_i (ws' := [oBr b tx h ht pa sl fi bf, oSt h o g f, aI G o 6 oh]) (as := []) cx hP hD hS [] rfl (kr_S (n := 3) (As := [.int what, .int 0, .int 4]) cx hC gX3_bridge_X3_outside rfl rfl rfl (by decide +kernel) ⟨Nat.le_of_ble_eq_true rfl, Nat.le_of_ble_eq_true rfl⟩ hP hD [] rfl rfl rfl rfl hl (Nat.le_of_ble_eq_true rfl) dX3_bridge_3 ⟨Nat.zero_le _, Nat.zero_le _⟩) ⟨rfl, rfl⟩ rfl (fun H locs hP hD hS => ?_)
    refine lv_if_eq (tgt := 19) hx hb dX3_bridge_6 (by decide) (fun c_6 => ?_) (fun c_6 => ?_)
    · replace hq := (if_pos c_6).symm.trans hq
      refine lv_iload_n hx hb dX3_bridge_19 rfl (lv_at hl 1 rfl) ?_
      by_cases c_20_0 : what = 0
      · replace hq := (if_pos c_20_0).symm.trans hq
        refine lv_tableIn (tgt := 52) (off := 32) hx hb dX3_bridge_20 (sw_lo c_20_0 (by decide)) (sw_hi c_20_0 (by decide)) (sw_at c_20_0 (by decide)) (by decide) ?_
        refine lv_aload_n hx hb dX3_bridge_52 rfl (lv_at hl 0 rfl) ?_
        refine k_get (v := .ref h) (T := TX3) (C := RX3) (N := 8) cx hi_X3_bridge_3 hP 0 rfl rfl 1 (by decide) (by decide +kernel) rfl dX3_bridge_53 ?_
        refine lv_aload_n hx hb dX3_bridge_56 rfl (lv_at hl 0 rfl) ?_
        refine k_get (v := .ref h) (T := TX3) (C := RX3) (N := 8) cx hi_X3_bridge_3 hP 0 rfl rfl 1 (by decide) (by decide +kernel) rfl dX3_bridge_57 ?_
        refine k_getN (v := .int (f 2)) (T := TX1) (C := RX1) (N := 16) (host := RX3) cx hi_X3_bridge_1 hP 1 rfl rfl 2 (by decide) nn_X3_97 rfl dX3_bridge_60 ?_
        have hC := c_X1_difference l G h o g f oh (f 2)
        refine k_i (ws' := [oBr b tx h ht pa sl fi bf, oSt h o g f, aI G o 6 oh]) (as := [h, o]) cx hP hD hS [1, 2] rfl (kr_VN (n := 1) (As := [.int (f 2)]) (ci := 1) cx hC gX3_bridge_X1_difference_n100 rfl rfl rfl nn_X3_100 (by decide +kernel) (by decide +kernel) (by decide +kernel) (by decide +kernel) ⟨Nat.le_of_ble_eq_true rfl, Nat.le_of_ble_eq_true rfl⟩ rfl rfl rfl hP hD [1, 2] rfl rfl rfl rfl hl (Nat.le_of_ble_eq_true rfl) dX3_bridge_63 ⟨Nat.zero_le _, Nat.zero_le _⟩) ⟨rfl, rfl⟩ rfl (fun H locs hP hD hS => ?_)
        subst hq
        exact k_iretX cx rfl hP hS dX3_bridge_66
      replace hq := (if_neg c_20_0).symm.trans hq
      by_cases c_20_1 : what = 1
      · replace hq := (if_pos c_20_1).symm.trans hq
        refine lv_tableIn (tgt := 67) (off := 47) hx hb dX3_bridge_20 (sw_lo c_20_1 (by decide)) (sw_hi c_20_1 (by decide)) (sw_at c_20_1 (by decide)) (by decide) ?_
        refine lv_aload_n hx hb dX3_bridge_67 rfl (lv_at hl 0 rfl) ?_
        refine k_get (v := .ref h) (T := TX3) (C := RX3) (N := 8) cx hi_X3_bridge_3 hP 0 rfl rfl 1 (by decide) (by decide +kernel) rfl dX3_bridge_68 ?_
        refine lv_aload_n hx hb dX3_bridge_71 rfl (lv_at hl 0 rfl) ?_
        refine k_get (v := .ref h) (T := TX3) (C := RX3) (N := 8) cx hi_X3_bridge_3 hP 0 rfl rfl 1 (by decide) (by decide +kernel) rfl dX3_bridge_72 ?_
        refine k_getN (v := .int (f 2)) (T := TX1) (C := RX1) (N := 16) (host := RX3) cx hi_X3_bridge_1 hP 1 rfl rfl 2 (by decide) nn_X3_97 rfl dX3_bridge_75 ?_
        have hC := c_X1_denominator l G h o g f oh (f 2)
        refine k_i (ws' := [oBr b tx h ht pa sl fi bf, oSt h o g f, aI G o 6 oh]) (as := [h, o]) cx hP hD hS [1, 2] rfl (kr_VN (n := 1) (As := [.int (f 2)]) (ci := 1) cx hC gX3_bridge_X1_denominator_n103 rfl rfl rfl nn_X3_103 (by decide +kernel) (by decide +kernel) (by decide +kernel) (by decide +kernel) ⟨Nat.le_of_ble_eq_true rfl, Nat.le_of_ble_eq_true rfl⟩ rfl rfl rfl hP hD [1, 2] rfl rfl rfl rfl hl (Nat.le_of_ble_eq_true rfl) dX3_bridge_78 ⟨Nat.zero_le _, Nat.zero_le _⟩) ⟨rfl, rfl⟩ rfl (fun H locs hP hD hS => ?_)
        subst hq
        exact k_iretX cx rfl hP hS dX3_bridge_81
      replace hq := (if_neg c_20_1).symm.trans hq
      by_cases c_20_2 : what = 2
      · replace hq := (if_pos c_20_2).symm.trans hq
        refine lv_tableIn (tgt := 82) (off := 62) hx hb dX3_bridge_20 (sw_lo c_20_2 (by decide)) (sw_hi c_20_2 (by decide)) (sw_at c_20_2 (by decide)) (by decide) ?_
        refine lv_aload_n hx hb dX3_bridge_82 rfl (lv_at hl 0 rfl) ?_
        refine lv_aload_n hx hb dX3_bridge_83 rfl (lv_at hl 0 rfl) ?_
        refine k_get (v := .ref h) (T := TX3) (C := RX3) (N := 8) cx hi_X3_bridge_3 hP 0 rfl rfl 1 (by decide) (by decide +kernel) rfl dX3_bridge_84 ?_
        refine k_getN (v := .int (f 2)) (T := TX1) (C := RX1) (N := 16) (host := RX3) cx hi_X3_bridge_1 hP 1 rfl rfl 2 (by decide) nn_X3_97 rfl dX3_bridge_87 ?_
        have hC := c_X3_deflectionWith l G b tx h ht pa sl fi o g bf f oh (f 2)
        refine k_i (ws' := [oBr b tx h ht pa sl fi bf, oSt h o g f, aI G o 6 oh]) (as := [b, h, o]) cx hP hD hS [0, 1, 2] rfl (kr_V (n := 1) (As := [.int (f 2)]) (ci := 3) cx hC gX3_bridge_X3_deflectionWith rfl rfl rfl (by decide +kernel) ⟨Nat.le_of_ble_eq_true rfl, Nat.le_of_ble_eq_true rfl⟩ rfl rfl rfl hP hD [0, 1, 2] rfl rfl rfl rfl hl (Nat.le_of_ble_eq_true rfl) dX3_bridge_90 ⟨Nat.zero_le _, Nat.zero_le _⟩) ⟨rfl, rfl⟩ rfl (fun H locs hP hD hS => ?_)
        subst hq
        exact k_iretX cx rfl hP hS dX3_bridge_93
      replace hq := (if_neg c_20_2).symm.trans hq
      by_cases c_20_3 : what = 3
      · replace hq := (if_pos c_20_3).symm.trans hq
        refine lv_tableIn (tgt := 94) (off := 74) hx hb dX3_bridge_20 (sw_lo c_20_3 (by decide)) (sw_hi c_20_3 (by decide)) (sw_at c_20_3 (by decide)) (by decide) ?_
        refine lv_aload_n hx hb dX3_bridge_94 rfl (lv_at hl 0 rfl) ?_
        refine k_get (v := .ref h) (T := TX3) (C := RX3) (N := 8) cx hi_X3_bridge_3 hP 0 rfl rfl 1 (by decide) (by decide +kernel) rfl dX3_bridge_95 ?_
        have hC := c_X1_offset l G h o g f
        refine k_i (ws' := [oBr b tx h ht pa sl fi bf, oSt h o g f, aI G o 6 oh]) (as := [h]) cx hP hD hS [1] rfl (kr_VN (n := 0) (As := []) (ci := 1) cx hC gX3_bridge_X1_offset_n109 rfl rfl rfl nn_X3_109 (by decide +kernel) (by decide +kernel) (by decide +kernel) (by decide +kernel) ⟨Nat.le_of_ble_eq_true rfl, Nat.le_of_ble_eq_true rfl⟩ rfl rfl rfl hP hD [1] rfl rfl rfl rfl hl (Nat.le_of_ble_eq_true rfl) dX3_bridge_98 ⟨Nat.zero_le _, Nat.zero_le _⟩) ⟨rfl, rfl⟩ rfl (fun H locs hP hD hS => ?_)
        refine lv_aload_n hx hb dX3_bridge_101 rfl (lv_at hl 0 rfl) ?_
        refine lv_aload_n hx hb dX3_bridge_102 rfl (lv_at hl 0 rfl) ?_
        refine k_get (v := .ref h) (T := TX3) (C := RX3) (N := 8) cx hi_X3_bridge_3 hP 0 rfl rfl 1 (by decide) (by decide +kernel) rfl dX3_bridge_103 ?_
        refine k_getN (v := .int (f 2)) (T := TX1) (C := RX1) (N := 16) (host := RX3) cx hi_X3_bridge_1 hP 1 rfl rfl 2 (by decide) nn_X3_97 rfl dX3_bridge_106 ?_
        have hC := c_X3_deflectionWith l G b tx h ht pa sl fi o g bf f oh (f 2)
        refine k_i (ws' := [oBr b tx h ht pa sl fi bf, oSt h o g f, aI G o 6 oh]) (as := [b, h, o]) cx hP hD hS [0, 1, 2] rfl (kr_V (n := 1) (As := [.int (f 2)]) (ci := 3) cx hC gX3_bridge_X3_deflectionWith rfl rfl rfl (by decide +kernel) ⟨Nat.le_of_ble_eq_true rfl, Nat.le_of_ble_eq_true rfl⟩ rfl rfl rfl hP hD [0, 1, 2] rfl rfl rfl rfl hl (Nat.le_of_ble_eq_true rfl) dX3_bridge_109 ⟨Nat.zero_le _, Nat.zero_le _⟩) ⟨rfl, rfl⟩ rfl (fun H locs hP hD hS => ?_)
        refine lv_iadd hx hb dX3_bridge_112 ?_
        subst hq
        exact k_iretX cx rfl hP hS dX3_bridge_113
      replace hq := (if_neg c_20_3).symm.trans hq
      have e0 := lv_neT (a := 0) c_20_0 (by decide)
      have e1 := lv_neT (a := 1) c_20_1 (by decide)
      have e2 := lv_neT (a := 2) c_20_2 (by decide)
      have e3 := lv_neT (a := 3) c_20_3 (by decide)
      refine lv_tableOut (tgt := 114) hx hb dX3_bridge_20 (by omega) (by decide) ?_
      refine lv_aload_n hx hb dX3_bridge_114 rfl (lv_at hl 0 rfl) ?_
      refine k_get (v := .ref h) (T := TX3) (C := RX3) (N := 8) cx hi_X3_bridge_3 hP 0 rfl rfl 1 (by decide) (by decide +kernel) rfl dX3_bridge_115 ?_
      have hC := c_X1_offset l G h o g f
      refine k_i (ws' := [oBr b tx h ht pa sl fi bf, oSt h o g f, aI G o 6 oh]) (as := [h]) cx hP hD hS [1] rfl (kr_VN (n := 0) (As := []) (ci := 1) cx hC gX3_bridge_X1_offset_n109 rfl rfl rfl nn_X3_109 (by decide +kernel) (by decide +kernel) (by decide +kernel) (by decide +kernel) ⟨Nat.le_of_ble_eq_true rfl, Nat.le_of_ble_eq_true rfl⟩ rfl rfl rfl hP hD [1] rfl rfl rfl rfl hl (Nat.le_of_ble_eq_true rfl) dX3_bridge_118 ⟨Nat.zero_le _, Nat.zero_le _⟩) ⟨rfl, rfl⟩ rfl (fun H locs hP hD hS => ?_)
      refine lv_aload_n hx hb dX3_bridge_121 rfl (lv_at hl 0 rfl) ?_
      refine lv_aload_n hx hb dX3_bridge_122 rfl (lv_at hl 0 rfl) ?_
      refine k_get (v := .ref h) (T := TX3) (C := RX3) (N := 8) cx hi_X3_bridge_3 hP 0 rfl rfl 1 (by decide) (by decide +kernel) rfl dX3_bridge_123 ?_
      refine k_getN (v := .int (f 2)) (T := TX1) (C := RX1) (N := 16) (host := RX3) cx hi_X3_bridge_1 hP 1 rfl rfl 2 (by decide) nn_X3_97 rfl dX3_bridge_126 ?_
      have hC := c_X3_deflectionWith l G b tx h ht pa sl fi o g bf f oh (f 2)
      refine k_i (ws' := [oBr b tx h ht pa sl fi bf, oSt h o g f, aI G o 6 oh]) (as := [b, h, o]) cx hP hD hS [0, 1, 2] rfl (kr_V (n := 1) (As := [.int (f 2)]) (ci := 3) cx hC gX3_bridge_X3_deflectionWith rfl rfl rfl (by decide +kernel) ⟨Nat.le_of_ble_eq_true rfl, Nat.le_of_ble_eq_true rfl⟩ rfl rfl rfl hP hD [0, 1, 2] rfl rfl rfl rfl hl (Nat.le_of_ble_eq_true rfl) dX3_bridge_129 ⟨Nat.zero_le _, Nat.zero_le _⟩) ⟨rfl, rfl⟩ rfl (fun H locs hP hD hS => ?_)
      refine lv_isub hx hb dX3_bridge_132 ?_
      subst hq
      exact k_iretX cx rfl hP hS dX3_bridge_133
    · replace hq := (if_neg c_6).symm.trans hq
      subst hq
      exact k_thrS (cls := "java/lang/IllegalArgumentException") (tx := "what is not 0 to 4") (r := 0) (ws := [oBr b tx h ht pa sl fi bf, oSt h o g f, aI G o 6 oh]) (w0 := w0) cx ct (by decide +kernel) ⟨by decide +kernel, by decide +kernel⟩ (by decide +kernel) (fun w h => List.mem_cons_of_mem _ (List.mem_append_right _ h)) e1_45 e2_41_45 rfl (by rw [hw0]; exact hP) hS hl ⟨Nat.le_of_ble_eq_true rfl, Nat.le_of_ble_eq_true rfl, Nat.le_of_ble_eq_true rfl, Nat.le_of_ble_eq_true rfl⟩ dX3_bridge_9 dX3_bridge_12 dX3_bridge_13 dX3_bridge_15 dX3_bridge_18
  subst hL
  subst hH
  subst hq
  subst hw0
  exact key _ _ hP hD hS
