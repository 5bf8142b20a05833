/-! X0_copyFrom -/
theorem hi_X0_copyFrom_0 : ∀ w ∈ u_ws RX0 TX0 3, w ∈ wsX0_copyFrom := by decide +kernel
abbrev rm_X0_copyFrom : Room := { frames := 0, cells := 0, slots := 0, locals := 0 }
abbrev Q_X0_copyFrom (G : gG) (g : Nat) (k : Nat) (g2 : Nat) (k2 : Nat)  (lf2 : Nat → Int32) (ce2 : Nat → Int32) (tgt : (Nat → Int32) × (Nat → Int32)) (below : List Frame) (args : Array Value) (s : State) (A : Nat → Prop) : State → Prop := MQ below (qV G [oLed g k tgt.1, aI G k 80 tgt.2, oLed g2 k2 lf2, aI G k2 80 ce2] A) args s 0 0 A
def P_X0_copyFrom_18 (lf2 : Nat → Int32) (ce2 : Nat → Int32) : Nat → Int32 → (Nat → Int32) → (Nat → Int32) → (Nat → Int32) × (Nat → Int32)
  | 0, _, _, _ => ((fun _ => 0), (fun _ => 0))
  | n + 1, v2, lf, ce => (if 80 ≤ v2 then (lf, ce) else (if 80 ≤ v2 then (lf, ce) else (P_X0_copyFrom_18 lf2 ce2 n (v2 + 1) lf (upd ce v2.toNatClampNeg (ce2 v2.toNatClampNeg)))))
set_option maxHeartbeats 4000000 in
set_option maxRecDepth 100000 in
theorem b_X0_copyFrom_18 {p : Program} {l : Launch} {e : Env} {s : State} {m : MethodId} {args : Array Value} {below : List Frame} {meth : Method} {c : Code} {G : gG} {A : Nat → Prop} (cx : Cx p s m args meth c cX0_copyFrom 3 yX0_copyFrom.cls wsX0_copyFrom none G A) (g : Nat) (k : Nat) (g2 : Nat) (k2 : Nat) (lf2 : Nat → Int32) (ce2 : Nat → Int32)   (tgt : (Nat → Int32) × (Nat → Int32)) : ∀ (n : Nat) (v2 : Int32) (lf : Nat → Int32) (ce : Nat → Int32) (h0 : ¬ v2 < 0) (hm : (((80 : Int32)).toInt - (v2 : Int32).toInt).toNat < n) (hq : P_X0_copyFrom_18  lf2 ce2 n v2 lf ce = tgt) (H : Heap) (locs : List Loc) (hP : va_P G.1 vwCl [oLed g k lf, aI G k 80 ce, oLed g2 k2 lf2, aI G k2 80 ce2] H) (hD : va_D A [oLed g k lf, aI G k 80 ce, oLed g2 k2 lf2, aI G k2 80 ce2]) (hS : va_S A s.heap H locs) (ls : Array Slot) (hl : lv_has ls 3 [(0, .ref g), (1, .ref g2), (2, .int v2)]), W p l e rm_X0_copyFrom s m args below meth c H locs 0 0 (Q_X0_copyFrom G g k g2 k2 lf2 ce2 tgt below args s A) (F0 m 18 ls []) := by
  obtain ⟨hx, hb, hml, hown, hts, hr, hlocks, hK, hA⟩ := id cx
  intro n
  induction n with
  | zero => intros; omega
  | succ n ih =>
    intro v2 lf ce h0 hm hq H locs hP hD hS ls hl
    unfold P_X0_copyFrom_18 at hq
    refine lv_iload_n hx hb dX0_copyFrom_18 rfl (lv_at hl 2 rfl) ?_
    refine lv_aload_n hx hb dX0_copyFrom_19 rfl (lv_at hl 0 rfl) ?_
    refine k_get (v := .ref k) (T := TX0) (C := RX0) (N := 3) cx hi_X0_copyFrom_0 hP 0 rfl rfl 0 (by decide) (by decide +kernel) rfl dX0_copyFrom_20 ?_
    refine k_alenI (v := 80) (t0 := 0) cx hP 1 rfl rfl rfl dX0_copyFrom_23 ?_
    refine lv_icmp_ge (tgt := 54) hx hb dX0_copyFrom_24 (by decide) (fun c_24 => ?_) (fun c_24 => ?_)
    · replace hq := (if_pos c_24).symm.trans hq
      subst hq
      exact k_vret cx hP hS dX0_copyFrom_54
    · replace hq := (if_neg c_24).symm.trans hq
      refine lv_iload_n hx hb dX0_copyFrom_27 rfl (lv_at hl 2 rfl) ?_
      refine lv_aload_n hx hb dX0_copyFrom_28 rfl (lv_at hl 1 rfl) ?_
      refine k_get (v := .ref k2) (T := TX0) (C := RX0) (N := 3) cx hi_X0_copyFrom_0 hP 2 rfl rfl 0 (by decide) (by decide +kernel) rfl dX0_copyFrom_29 ?_
      refine k_alenI (v := 80) (t0 := 0) cx hP 3 rfl rfl rfl dX0_copyFrom_32 ?_
      refine lv_icmp_ge (tgt := 54) hx hb dX0_copyFrom_33 (by decide) (fun c_33 => ?_) (fun c_33 => ?_)
      · replace hq := (if_pos c_33).symm.trans hq
        subst hq
        exact k_vret cx hP hS dX0_copyFrom_54
      · replace hq := (if_neg c_33).symm.trans hq
        refine lv_aload_n hx hb dX0_copyFrom_36 rfl (lv_at hl 0 rfl) ?_
        refine k_get (v := .ref k) (T := TX0) (C := RX0) (N := 3) cx hi_X0_copyFrom_0 hP 0 rfl rfl 0 (by decide) (by decide +kernel) rfl dX0_copyFrom_37 ?_
        refine lv_iload_n hx hb dX0_copyFrom_40 rfl (lv_at hl 2 rfl) ?_
        refine lv_aload_n hx hb dX0_copyFrom_41 rfl (lv_at hl 1 rfl) ?_
        refine k_get (v := .ref k2) (T := TX0) (C := RX0) (N := 3) cx hi_X0_copyFrom_0 hP 2 rfl rfl 0 (by decide) (by decide +kernel) rfl dX0_copyFrom_42 ?_
        refine lv_iload_n hx hb dX0_copyFrom_45 rfl (lv_at hl 2 rfl) ?_
        refine k_iald (j := v2.toNatClampNeg) cx hP 3 rfl rfl (ix_le (N := 80) (by assumption) (by assumption) (by decide)) dX0_copyFrom_46 ?_
        refine k_iast (ws' := [oLed g k lf, aI G k 80 (upd ce v2.toNatClampNeg (ce2 v2.toNatClampNeg)), oLed g2 k2 lf2, aI G k2 80 ce2]) (j := v2.toNatClampNeg) cx hP hD hS 1 rfl rfl (ix_le (N := 80) (by assumption) (by assumption) (by decide)) rfl dX0_copyFrom_47 (fun H locs hP hD hS => ?_)
        refine lv_iinc (v := (v2 + 1)) (lv' := [(2, .int (v2 + 1)), (0, .ref g), (1, .ref g2)]) hx hb dX0_copyFrom_48 hl (k := 2) rfl rfl (by decide) rfl (fun ls hl => ?_)
        refine lv_goto (tgt := 18) hx hb dX0_copyFrom_51 (by decide) ?_
        exact ih (v2 + 1) lf (upd ce v2.toNatClampNeg (ce2 v2.toNatClampNeg)) (nn_inc h0 (N := (80 : Int32)) (by assumption)) (by have hmd := mu_up (N := (80 : Int32)) (by assumption); omega) hq H locs hP hD hS _ (lv_sub hl [1, 2, 0] rfl)
def P_X0_copyFrom (lf : Nat → Int32) (ce : Nat → Int32) (lf2 : Nat → Int32) (ce2 : Nat → Int32) : (Nat → Int32) × (Nat → Int32) := (P_X0_copyFrom_18 lf2 ce2 ((((80 : Int32)).toInt - (0 : Int32).toInt).toNat + 1) 0 (upd (upd lf 1 (lf2 1)) 2 (lf2 2)) ce)
set_option maxHeartbeats 4000000 in
set_option maxRecDepth 100000 in
theorem c_X0_copyFrom (l : Launch) (G : gG) (g : Nat) (k : Nat) (g2 : Nat) (k2 : Nat) (lf : Nat → Int32) (ce : Nat → Int32) (lf2 : Nat → Int32) (ce2 : Nat → Int32)  : kM l G yX0_copyFrom wsX0_copyFrom rm_X0_copyFrom [.ref g, .ref g2] [oLed g k lf, aI G k 80 ce, oLed g2 k2 lf2, aI G k2 80 ce2] (qV G [oLed g k ((P_X0_copyFrom lf ce lf2 ce2).1), aI G k 80 ((P_X0_copyFrom lf ce lf2 ce2).2), oLed g2 k2 lf2, aI G k2 80 ce2]) := by
  refine k_body (cc := cX0_copyFrom) (nL := 3) (ret := none) (by decide) rfl (Nat.le_of_ble_eq_true rfl) ?_
  intro p e s m args below meth c A cx hP hD hS ls hl
  obtain ⟨hx, hb, hml, hown, hts, hr, hlocks, hK, hA⟩ := id cx
  obtain ⟨H, hH⟩ : ∃ H, H = s.heap := ⟨_, rfl⟩
  obtain ⟨locs, hL⟩ : ∃ locs : List Loc, locs = [] := ⟨_, rfl⟩
  obtain ⟨tgt, hq⟩ : ∃ tgt, (P_X0_copyFrom lf ce lf2 ce2) = tgt := ⟨_, rfl⟩
  have hS : va_S A s.heap H locs := by rw [hH, hL]; exact hS
  rw [← hH] at hP
  have hl : lv_has ls 3 [(0, .ref g), (1, .ref g2)] := hl
  have key : ∀ (H : Heap) (locs : List Loc), va_P G.1 vwCl [oLed g k lf, aI G k 80 ce, oLed g2 k2 lf2, aI G k2 80 ce2] H → va_D A [oLed g k lf, aI G k 80 ce, oLed g2 k2 lf2, aI G k2 80 ce2] → va_S A s.heap H locs → W p l e rm_X0_copyFrom s m args below meth c H locs 0 0 (Q_X0_copyFrom G g k g2 k2 lf2 ce2 tgt below args s A) (F0 m 0 ls []) := by
    clear hP hD hS hH hL
    intro H locs hP hD hS
    unfold P_X0_copyFrom at hq
    refine lv_aload_n hx hb dX0_copyFrom_0 rfl (lv_at hl 0 rfl) ?_
    refine lv_aload_n hx hb dX0_copyFrom_1 rfl (lv_at hl 1 rfl) ?_
    refine k_get (v := .int (lf2 1)) (T := TX0) (C := RX0) (N := 3) cx hi_X0_copyFrom_0 hP 2 rfl rfl 1 (by decide) (by decide +kernel) rfl dX0_copyFrom_2 ?_
    refine k_put (ws' := [oLed g k (upd lf 1 (lf2 1)), aI G k 80 ce, oLed g2 k2 lf2, aI G k2 80 ce2]) (ty := .int) (T := TX0) (C := RX0) (N := 3) cx hi_X0_copyFrom_0 tyX0_ok nmX0 hP hD hS 0 rfl rfl 1 (by decide) (by decide +kernel) rfl rfl rfl rfl (Nat.le_of_ble_eq_true rfl) rfl dX0_copyFrom_5 (fun H locs hP hD hS => ?_)
    refine lv_aload_n hx hb dX0_copyFrom_8 rfl (lv_at hl 0 rfl) ?_
    refine lv_aload_n hx hb dX0_copyFrom_9 rfl (lv_at hl 1 rfl) ?_
    refine k_get (v := .int (lf2 2)) (T := TX0) (C := RX0) (N := 3) cx hi_X0_copyFrom_0 hP 2 rfl rfl 2 (by decide) (by decide +kernel) rfl dX0_copyFrom_10 ?_
    refine k_put (ws' := [oLed g k (upd (upd lf 1 (lf2 1)) 2 (lf2 2)), aI G k 80 ce, oLed g2 k2 lf2, aI G k2 80 ce2]) (ty := .int) (T := TX0) (C := RX0) (N := 3) cx hi_X0_copyFrom_0 tyX0_ok nmX0 hP hD hS 0 rfl rfl 2 (by decide) (by decide +kernel) rfl rfl rfl rfl (Nat.le_of_ble_eq_true rfl) rfl dX0_copyFrom_13 (fun H locs hP hD hS => ?_)
    refine lv_iconst (v := 0) hx hb dX0_copyFrom_16 (by decide) ?_
    refine lv_istore_n (lv' := [(2, .int 0), (0, .ref g), (1, .ref g2)]) hx hb dX0_copyFrom_17 rfl hl (by decide) rfl (fun ls hl => ?_)
    exact b_X0_copyFrom_18 cx g k g2 k2 lf2 ce2  tgt ((((80 : Int32)).toInt - (0 : Int32).toInt).toNat + 1) 0 (upd (upd lf 1 (lf2 1)) 2 (lf2 2)) ce (by decide) (Nat.lt_succ_self _) hq H locs hP hD hS _ (lv_sub hl [1, 2, 0] rfl)
  subst hL
  subst hH
  subst hq
  exact key _ _ hP hD hS

/-! X1_putUnknown -/
theorem hi_X1_putUnknown_1 : ∀ w ∈ u_ws RX1 TX1 16, w ∈ wsX1_putUnknown := by decide +kernel
abbrev rm_X1_putUnknown : Room := { frames := 0, cells := 0, slots := 0, locals := 0 }
abbrev Q_X1_putUnknown (G : gG) (h : Nat) (o : Nat) (g : Nat)   (tgt : (Nat → Int32) × (Nat → Int32)) (below : List Frame) (args : Array Value) (s : State) (A : Nat → Prop) : State → Prop := MQ below (qV G [oSt h o g tgt.1, aI G o 6 tgt.2] A) args s 0 0 A
def P_X1_putUnknown (f : Nat → Int32) (oh : Nat → Int32) (rs : Int32) : (Nat → Int32) × (Nat → Int32) := (if (f 13) < 0 then (f, oh) else (if 6 ≤ (f 13) then (f, oh) else ((upd f 13 ((f 13) + 1)), (upd oh (f 13).toNatClampNeg rs))))
set_option maxHeartbeats 4000000 in
set_option maxRecDepth 100000 in
theorem c_X1_putUnknown (l : Launch) (G : gG) (h : Nat) (o : Nat) (g : Nat) (f : Nat → Int32) (oh : Nat → Int32) (rs : Int32)  : kM l G yX1_putUnknown wsX1_putUnknown rm_X1_putUnknown [.ref h, .int rs] [oSt h o g f, aI G o 6 oh] (qV G [oSt h o g ((P_X1_putUnknown f oh rs).1), aI G o 6 ((P_X1_putUnknown f oh rs).2)]) := by
  refine k_body (cc := cX1_putUnknown) (nL := 2) (ret := none) (by decide) rfl (Nat.le_of_ble_eq_true rfl) ?_
  intro p e s m args below meth c A cx hP hD hS ls hl
  obtain ⟨hx, hb, hml, hown, hts, hr, hlocks, hK, hA⟩ := id cx
  obtain ⟨H, hH⟩ : ∃ H, H = s.heap := ⟨_, rfl⟩
  obtain ⟨locs, hL⟩ : ∃ locs : List Loc, locs = [] := ⟨_, rfl⟩
  obtain ⟨tgt, hq⟩ : ∃ tgt, (P_X1_putUnknown f oh rs) = tgt := ⟨_, rfl⟩
  have hS : va_S A s.heap H locs := by rw [hH, hL]; exact hS
  rw [← hH] at hP
  have hl : lv_has ls 2 [(0, .ref h), (1, .int rs)] := hl
  have key : ∀ (H : Heap) (locs : List Loc), va_P G.1 vwCl [oSt h o g f, aI G o 6 oh] H → va_D A [oSt h o g f, aI G o 6 oh] → va_S A s.heap H locs → W p l e rm_X1_putUnknown s m args below meth c H locs 0 0 (Q_X1_putUnknown G h o g tgt below args s A) (F0 m 0 ls []) := by
    clear hP hD hS hH hL
    intro H locs hP hD hS
    unfold P_X1_putUnknown at hq
    refine lv_aload_n hx hb dX1_putUnknown_0 rfl (lv_at hl 0 rfl) ?_
    refine k_get (v := .int (f 13)) (T := TX1) (C := RX1) (N := 16) cx hi_X1_putUnknown_1 hP 0 rfl rfl 13 (by decide) (by decide +kernel) rfl dX1_putUnknown_1 ?_
    refine lv_if_lt (tgt := 39) hx hb dX1_putUnknown_4 (by decide) (fun c_4 => ?_) (fun c_4 => ?_)
    · replace hq := (if_pos c_4).symm.trans hq
      subst hq
      exact k_vret cx hP hS dX1_putUnknown_39
    · replace hq := (if_neg c_4).symm.trans hq
      refine lv_aload_n hx hb dX1_putUnknown_7 rfl (lv_at hl 0 rfl) ?_
      refine k_get (v := .int (f 13)) (T := TX1) (C := RX1) (N := 16) cx hi_X1_putUnknown_1 hP 0 rfl rfl 13 (by decide) (by decide +kernel) rfl dX1_putUnknown_8 ?_
      refine lv_aload_n hx hb dX1_putUnknown_11 rfl (lv_at hl 0 rfl) ?_
      refine k_get (v := .ref o) (T := TX1) (C := RX1) (N := 16) cx hi_X1_putUnknown_1 hP 0 rfl rfl 12 (by decide) (by decide +kernel) rfl dX1_putUnknown_12 ?_
      refine k_alenI (v := 6) (t0 := 0) cx hP 1 rfl rfl rfl dX1_putUnknown_15 ?_
      refine lv_icmp_ge (tgt := 39) hx hb dX1_putUnknown_16 (by decide) (fun c_16 => ?_) (fun c_16 => ?_)
      · replace hq := (if_pos c_16).symm.trans hq
        subst hq
        exact k_vret cx hP hS dX1_putUnknown_39
      · replace hq := (if_neg c_16).symm.trans hq
        refine lv_aload_n hx hb dX1_putUnknown_19 rfl (lv_at hl 0 rfl) ?_
        refine k_get (v := .ref o) (T := TX1) (C := RX1) (N := 16) cx hi_X1_putUnknown_1 hP 0 rfl rfl 12 (by decide) (by decide +kernel) rfl dX1_putUnknown_20 ?_
        refine lv_aload_n hx hb dX1_putUnknown_23 rfl (lv_at hl 0 rfl) ?_
        refine k_get (v := .int (f 13)) (T := TX1) (C := RX1) (N := 16) cx hi_X1_putUnknown_1 hP 0 rfl rfl 13 (by decide) (by decide +kernel) rfl dX1_putUnknown_24 ?_
        refine lv_iload_n hx hb dX1_putUnknown_27 rfl (lv_at hl 1 rfl) ?_
        refine k_iast (ws' := [oSt h o g f, aI G o 6 (upd oh (f 13).toNatClampNeg rs)]) (j := (f 13).toNatClampNeg) cx hP hD hS 1 rfl rfl (ix_le (N := 6) (by assumption) (by assumption) (by decide)) rfl dX1_putUnknown_28 (fun H locs hP hD hS => ?_)
        refine lv_aload_n hx hb dX1_putUnknown_29 rfl (lv_at hl 0 rfl) ?_
        refine lv_dup hx hb dX1_putUnknown_30 rfl ?_
        refine k_get (v := .int (f 13)) (T := TX1) (C := RX1) (N := 16) cx hi_X1_putUnknown_1 hP 0 rfl rfl 13 (by decide) (by decide +kernel) rfl dX1_putUnknown_31 ?_
        refine lv_iconst (v := 1) hx hb dX1_putUnknown_34 (by decide) ?_
        refine lv_iadd hx hb dX1_putUnknown_35 ?_
        refine k_put (ws' := [oSt h o g (upd f 13 ((f 13) + 1)), aI G o 6 (upd oh (f 13).toNatClampNeg rs)]) (ty := .int) (T := TX1) (C := RX1) (N := 16) cx hi_X1_putUnknown_1 tyX1_ok nmX1 hP hD hS 0 rfl rfl 13 (by decide) (by decide +kernel) rfl rfl rfl rfl (Nat.le_of_ble_eq_true rfl) rfl dX1_putUnknown_36 (fun H locs hP hD hS => ?_)
        subst hq
        exact k_vret cx hP hS dX1_putUnknown_39
  subst hL
  subst hH
  subst hq
  exact key _ _ hP hD hS

/-! X1_copyFrom -/
theorem hi_X1_copyFrom_1 : ∀ w ∈ u_ws RX1 TX1 16, w ∈ wsX1_copyFrom := by decide +kernel
abbrev rm_X1_copyFrom : Room := { frames := 1, cells := 0, slots := 0, locals := 22 }
abbrev Q_X1_copyFrom (G : gG) (h : Nat) (o : Nat) (g : Nat) (k : Nat) (h2 : Nat) (o2 : Nat) (g2 : Nat) (k2 : Nat)  (f2 : Nat → Int32) (oh2 : Nat → Int32) (lf2 : Nat → Int32) (ce2 : Nat → Int32) (tgt : (Nat → Int32) × (Nat → Int32) × (Nat → Int32) × (Nat → Int32)) (below : List Frame) (args : Array Value) (s : State) (A : Nat → Prop) : State → Prop := MQ below (qV G [oSt h o g tgt.1, aI G o 6 tgt.2.1, oLed g k tgt.2.2.1, aI G k 80 tgt.2.2.2, oSt h2 o2 g2 f2, aI G o2 6 oh2, oLed g2 k2 lf2, aI G k2 80 ce2] A) args s 0 0 A
def P_X1_copyFrom_103 (f2 : Nat → Int32) (oh2 : Nat → Int32) (lf2 : Nat → Int32) (ce2 : Nat → Int32) : Nat → Int32 → (Nat → Int32) → (Nat → Int32) → (Nat → Int32) → (Nat → Int32) → (Nat → Int32) × (Nat → Int32) × (Nat → Int32) × (Nat → Int32)
  | 0, _, _, _, _, _ => ((fun _ => 0), (fun _ => 0), (fun _ => 0), (fun _ => 0))
  | n + 1, v2, f, oh, lf, ce => (let j139 := fun (_ : Unit) => (let u163 := P_X0_copyFrom lf ce lf2 ce2; ((upd (upd f 13 (f2 13)) 14 (f2 14)), oh, u163.1, u163.2)); (if 6 ≤ v2 then (j139 ()) else (if 6 ≤ v2 then (j139 ()) else (P_X1_copyFrom_103 f2 oh2 lf2 ce2 n (v2 + 1) f (upd oh v2.toNatClampNeg (oh2 v2.toNatClampNeg)) lf ce))))
set_option maxHeartbeats 4000000 in
set_option maxRecDepth 100000 in
theorem b_X1_copyFrom_103 {p : Program} {l : Launch} {e : Env} {s : State} {m : MethodId} {args : Array Value} {below : List Frame} {meth : Method} {c : Code} {G : gG} {A : Nat → Prop} (cx : Cx p s m args meth c cX1_copyFrom 3 yX1_copyFrom.cls wsX1_copyFrom none G A) (h : Nat) (o : Nat) (g : Nat) (k : Nat) (h2 : Nat) (o2 : Nat) (g2 : Nat) (k2 : Nat) (f2 : Nat → Int32) (oh2 : Nat → Int32) (lf2 : Nat → Int32) (ce2 : Nat → Int32) (hst : f2 9 = 0 ∨ f2 9 = 1)  (tgt : (Nat → Int32) × (Nat → Int32) × (Nat → Int32) × (Nat → Int32)) : ∀ (n : Nat) (v2 : Int32) (f : Nat → Int32) (oh : Nat → Int32) (lf : Nat → Int32) (ce : Nat → Int32) (h0 : ¬ v2 < 0) (hm : (((6 : Int32)).toInt - (v2 : Int32).toInt).toNat < n) (hq : P_X1_copyFrom_103  f2 oh2 lf2 ce2 n v2 f oh lf ce = tgt) (H : Heap) (locs : List Loc) (hP : va_P G.1 vwCl [oSt h o g f, aI G o 6 oh, oLed g k lf, aI G k 80 ce, oSt h2 o2 g2 f2, aI G o2 6 oh2, oLed g2 k2 lf2, aI G k2 80 ce2] H) (hD : va_D A [oSt h o g f, aI G o 6 oh, oLed g k lf, aI G k 80 ce, oSt h2 o2 g2 f2, aI G o2 6 oh2, oLed g2 k2 lf2, aI G k2 80 ce2]) (hS : va_S A s.heap H locs) (ls : Array Slot) (hl : lv_has ls 3 [(0, .ref h), (1, .ref h2), (2, .int v2)]), W p l e rm_X1_copyFrom s m args below meth c H locs 0 0 (Q_X1_copyFrom G h o g k h2 o2 g2 k2 f2 oh2 lf2 ce2 tgt below args s A) (F0 m 103 ls []) := by
  obtain ⟨hx, hb, hml, hown, hts, hr, hlocks, hK, hA⟩ := id cx
  intro n
  induction n with
  | zero => intros; omega
  | succ n ih =>
    intro v2 f oh lf ce h0 hm hq H locs hP hD hS ls hl
    unfold P_X1_copyFrom_103 at hq
    refine lv_iload_n hx hb dX1_copyFrom_103 rfl (lv_at hl 2 rfl) ?_
    refine lv_aload_n hx hb dX1_copyFrom_104 rfl (lv_at hl 0 rfl) ?_
    refine k_get (v := .ref o) (T := TX1) (C := RX1) (N := 16) cx hi_X1_copyFrom_1 hP 0 rfl rfl 12 (by decide) (by decide +kernel) rfl dX1_copyFrom_105 ?_
    refine k_alenI (v := 6) (t0 := 0) cx hP 1 rfl rfl rfl dX1_copyFrom_108 ?_
    have J139 : ∀ (_ : Unit), (let u163 := P_X0_copyFrom lf ce lf2 ce2; ((upd (upd f 13 (f2 13)) 14 (f2 14)), oh, u163.1, u163.2)) = tgt → ∀ (H : Heap) (locs : List Loc) (ls : Array Slot), va_P G.1 vwCl [oSt h o g f, aI G o 6 oh, oLed g k lf, aI G k 80 ce, oSt h2 o2 g2 f2, aI G o2 6 oh2, oLed g2 k2 lf2, aI G k2 80 ce2] H → va_D A [oSt h o g f, aI G o 6 oh, oLed g k lf, aI G k 80 ce, oSt h2 o2 g2 f2, aI G o2 6 oh2, oLed g2 k2 lf2, aI G k2 80 ce2] → va_S A s.heap H locs → lv_has ls 3 [(0, .ref h), (1, .ref h2)] → W p l e rm_X1_copyFrom s m args below meth c H locs 0 0 (Q_X1_copyFrom G h o g k h2 o2 g2 k2 f2 oh2 lf2 ce2 tgt below args s A) (F0 m 139 ls []) := by
      intro _ hq H locs ls hP hD hS hl
      refine lv_aload_n hx hb dX1_copyFrom_139 rfl (lv_at hl 0 rfl) ?_
      refine lv_aload_n hx hb dX1_copyFrom_140 rfl (lv_at hl 1 rfl) ?_
      refine k_get (v := .int (f2 13)) (T := TX1) (C := RX1) (N := 16) cx hi_X1_copyFrom_1 hP 4 rfl rfl 13 (by decide) (by decide +kernel) rfl dX1_copyFrom_141 ?_
      refine k_put (ws' := [oSt h o g (upd f 13 (f2 13)), aI G o 6 oh, oLed g k lf, aI G k 80 ce, oSt h2 o2 g2 f2, aI G o2 6 oh2, oLed g2 k2 lf2, aI G k2 80 ce2]) (ty := .int) (T := TX1) (C := RX1) (N := 16) cx hi_X1_copyFrom_1 tyX1_ok nmX1 hP hD hS 0 rfl rfl 13 (by decide) (by decide +kernel) rfl rfl rfl rfl (Nat.le_of_ble_eq_true rfl) rfl dX1_copyFrom_144 (fun H locs hP hD hS => ?_)
      refine lv_aload_n hx hb dX1_copyFrom_147 rfl (lv_at hl 0 rfl) ?_
      refine lv_aload_n hx hb dX1_copyFrom_148 rfl (lv_at hl 1 rfl) ?_
      refine k_get (v := .int (f2 14)) (T := TX1) (C := RX1) (N := 16) cx hi_X1_copyFrom_1 hP 4 rfl rfl 14 (by decide) (by decide +kernel) rfl dX1_copyFrom_149 ?_
      refine k_put (ws' := [oSt h o g (upd (upd f 13 (f2 13)) 14 (f2 14)), aI G o 6 oh, oLed g k lf, aI G k 80 ce, oSt h2 o2 g2 f2, aI G o2 6 oh2, oLed g2 k2 lf2, aI G k2 80 ce2]) (ty := .int) (T := TX1) (C := RX1) (N := 16) cx hi_X1_copyFrom_1 tyX1_ok nmX1 hP hD hS 0 rfl rfl 14 (by decide) (by decide +kernel) rfl rfl rfl rfl (Nat.le_of_ble_eq_true rfl) rfl dX1_copyFrom_152 (fun H locs hP hD hS => ?_)
      refine lv_aload_n hx hb dX1_copyFrom_155 rfl (lv_at hl 0 rfl) ?_
      refine k_get (v := .ref g) (T := TX1) (C := RX1) (N := 16) cx hi_X1_copyFrom_1 hP 0 rfl rfl 15 (by decide) (by decide +kernel) rfl dX1_copyFrom_156 ?_
      refine lv_aload_n hx hb dX1_copyFrom_159 rfl (lv_at hl 1 rfl) ?_
      refine k_get (v := .ref g2) (T := TX1) (C := RX1) (N := 16) cx hi_X1_copyFrom_1 hP 4 rfl rfl 15 (by decide) (by decide +kernel) rfl dX1_copyFrom_160 ?_
      have hC := c_X0_copyFrom l G g k g2 k2 lf ce lf2 ce2
      generalize hu163 : P_X0_copyFrom lf ce lf2 ce2 = u163 at hC hq
      refine k_v (ws' := [oSt h o g (upd (upd f 13 (f2 13)) 14 (f2 14)), aI G o 6 oh, oLed g k u163.1, aI G k 80 u163.2, oSt h2 o2 g2 f2, aI G o2 6 oh2, oLed g2 k2 lf2, aI G k2 80 ce2]) (as := [g, k, g2, k2]) cx hP hD hS [2, 3, 6, 7] rfl (kr_VN (n := 1) (As := [.ref g2]) (ci := 0) cx hC gX1_copyFrom_X0_copyFrom_n70 rfl rfl rfl nn_X1_70 (by decide +kernel) (by decide +kernel) (by decide +kernel) (by decide +kernel) ⟨Nat.le_of_ble_eq_true rfl, Nat.le_of_ble_eq_true rfl⟩ rfl rfl rfl hP hD [2, 3, 6, 7] rfl rfl rfl rfl hl (Nat.le_of_ble_eq_true rfl) dX1_copyFrom_163 ⟨Nat.le_refl _, Nat.le_refl _⟩) ⟨rfl, rfl⟩ rfl (fun H locs hP hD hS => ?_)
      subst hq
      exact k_vret cx hP hS dX1_copyFrom_166
    refine lv_icmp_ge (tgt := 139) hx hb dX1_copyFrom_109 (by decide) (fun c_109 => ?_) (fun c_109 => ?_)
    · replace hq := (if_pos c_109).symm.trans hq
      exact J139 () hq H locs ls hP hD hS (lv_sub hl [0, 1] rfl)
    · replace hq := (if_neg c_109).symm.trans hq
      refine lv_iload_n hx hb dX1_copyFrom_112 rfl (lv_at hl 2 rfl) ?_
      refine lv_aload_n hx hb dX1_copyFrom_113 rfl (lv_at hl 1 rfl) ?_
      refine k_get (v := .ref o2) (T := TX1) (C := RX1) (N := 16) cx hi_X1_copyFrom_1 hP 4 rfl rfl 12 (by decide) (by decide +kernel) rfl dX1_copyFrom_114 ?_
      refine k_alenI (v := 6) (t0 := 0) cx hP 5 rfl rfl rfl dX1_copyFrom_117 ?_
      refine lv_icmp_ge (tgt := 139) hx hb dX1_copyFrom_118 (by decide) (fun c_118 => ?_) (fun c_118 => ?_)
      · replace hq := (if_pos c_118).symm.trans hq
        exact J139 () hq H locs ls hP hD hS (lv_sub hl [0, 1] rfl)
      · replace hq := (if_neg c_118).symm.trans hq
        refine lv_aload_n hx hb dX1_copyFrom_121 rfl (lv_at hl 0 rfl) ?_
        refine k_get (v := .ref o) (T := TX1) (C := RX1) (N := 16) cx hi_X1_copyFrom_1 hP 0 rfl rfl 12 (by decide) (by decide +kernel) rfl dX1_copyFrom_122 ?_
        refine lv_iload_n hx hb dX1_copyFrom_125 rfl (lv_at hl 2 rfl) ?_
        refine lv_aload_n hx hb dX1_copyFrom_126 rfl (lv_at hl 1 rfl) ?_
        refine k_get (v := .ref o2) (T := TX1) (C := RX1) (N := 16) cx hi_X1_copyFrom_1 hP 4 rfl rfl 12 (by decide) (by decide +kernel) rfl dX1_copyFrom_127 ?_
        refine lv_iload_n hx hb dX1_copyFrom_130 rfl (lv_at hl 2 rfl) ?_
        refine k_iald (j := v2.toNatClampNeg) cx hP 5 rfl rfl (ix_le (N := 6) (by assumption) (by assumption) (by decide)) dX1_copyFrom_131 ?_
        refine k_iast (ws' := [oSt h o g f, aI G o 6 (upd oh v2.toNatClampNeg (oh2 v2.toNatClampNeg)), oLed g k lf, aI G k 80 ce, oSt h2 o2 g2 f2, aI G o2 6 oh2, oLed g2 k2 lf2, aI G k2 80 ce2]) (j := v2.toNatClampNeg) cx hP hD hS 1 rfl rfl (ix_le (N := 6) (by assumption) (by assumption) (by decide)) rfl dX1_copyFrom_132 (fun H locs hP hD hS => ?_)
        refine lv_iinc (v := (v2 + 1)) (lv' := [(2, .int (v2 + 1)), (0, .ref h), (1, .ref h2)]) hx hb dX1_copyFrom_133 hl (k := 2) rfl rfl (by decide) rfl (fun ls hl => ?_)
        refine lv_goto (tgt := 103) hx hb dX1_copyFrom_136 (by decide) ?_
        exact ih (v2 + 1) f (upd oh v2.toNatClampNeg (oh2 v2.toNatClampNeg)) lf ce (nn_inc h0 (N := (6 : Int32)) (by assumption)) (by have hmd := mu_up (N := (6 : Int32)) (by assumption); omega) hq H locs hP hD hS _ (lv_sub hl [1, 2, 0] rfl)
def P_X1_copyFrom (f : Nat → Int32) (oh : Nat → Int32) (lf : Nat → Int32) (ce : Nat → Int32) (f2 : Nat → Int32) (oh2 : Nat → Int32) (lf2 : Nat → Int32) (ce2 : Nat → Int32) : (Nat → Int32) × (Nat → Int32) × (Nat → Int32) × (Nat → Int32) := (P_X1_copyFrom_103 f2 oh2 lf2 ce2 ((((6 : Int32)).toInt - (0 : Int32).toInt).toNat + 1) 0 (upd (upd (upd (upd (upd (upd (upd (upd (upd (upd (upd (upd f 0 (f2 0)) 1 (f2 1)) 2 (f2 2)) 3 (f2 3)) 4 (f2 4)) 5 (f2 5)) 6 (f2 6)) 7 (f2 7)) 8 (f2 8)) 9 (f2 9)) 10 (f2 10)) 11 (f2 11)) oh lf ce)
set_option maxHeartbeats 4000000 in
set_option maxRecDepth 100000 in
theorem c_X1_copyFrom (l : Launch) (G : gG) (h : Nat) (o : Nat) (g : Nat) (k : Nat) (h2 : Nat) (o2 : Nat) (g2 : Nat) (k2 : Nat) (f : Nat → Int32) (oh : Nat → Int32) (lf : Nat → Int32) (ce : Nat → Int32) (f2 : Nat → Int32) (oh2 : Nat → Int32) (lf2 : Nat → Int32) (ce2 : Nat → Int32) (hst : f2 9 = 0 ∨ f2 9 = 1) : kM l G yX1_copyFrom wsX1_copyFrom rm_X1_copyFrom [.ref h, .ref h2] [oSt h o g f, aI G o 6 oh, oLed g k lf, aI G k 80 ce, oSt h2 o2 g2 f2, aI G o2 6 oh2, oLed g2 k2 lf2, aI G k2 80 ce2] (qV G [oSt h o g ((P_X1_copyFrom f oh lf ce f2 oh2 lf2 ce2).1), aI G o 6 ((P_X1_copyFrom f oh lf ce f2 oh2 lf2 ce2).2.1), oLed g k ((P_X1_copyFrom f oh lf ce f2 oh2 lf2 ce2).2.2.1), aI G k 80 ((P_X1_copyFrom f oh lf ce f2 oh2 lf2 ce2).2.2.2), oSt h2 o2 g2 f2, aI G o2 6 oh2, oLed g2 k2 lf2, aI G k2 80 ce2]) := by
  refine k_body (cc := cX1_copyFrom) (nL := 3) (ret := none) (by decide) rfl (Nat.le_of_ble_eq_true rfl) ?_
  intro p e s m args below meth c A cx hP hD hS ls hl
  obtain ⟨hx, hb, hml, hown, hts, hr, hlocks, hK, hA⟩ := id cx
  obtain ⟨H, hH⟩ : ∃ H, H = s.heap := ⟨_, rfl⟩
  obtain ⟨locs, hL⟩ : ∃ locs : List Loc, locs = [] := ⟨_, rfl⟩
  obtain ⟨tgt, hq⟩ : ∃ tgt, (P_X1_copyFrom f oh lf ce f2 oh2 lf2 ce2) = tgt := ⟨_, rfl⟩
  have hS : va_S A s.heap H locs := by rw [hH, hL]; exact hS
  rw [← hH] at hP
  have hl : lv_has ls 3 [(0, .ref h), (1, .ref h2)] := hl
  have key : ∀ (H : Heap) (locs : List Loc), va_P G.1 vwCl [oSt h o g f, aI G o 6 oh, oLed g k lf, aI G k 80 ce, oSt h2 o2 g2 f2, aI G o2 6 oh2, oLed g2 k2 lf2, aI G k2 80 ce2] H → va_D A [oSt h o g f, aI G o 6 oh, oLed g k lf, aI G k 80 ce, oSt h2 o2 g2 f2, aI G o2 6 oh2, oLed g2 k2 lf2, aI G k2 80 ce2] → va_S A s.heap H locs → W p l e rm_X1_copyFrom s m args below meth c H locs 0 0 (Q_X1_copyFrom G h o g k h2 o2 g2 k2 f2 oh2 lf2 ce2 tgt below args s A) (F0 m 0 ls []) := by
    clear hP hD hS hH hL
    intro H locs hP hD hS
    unfold P_X1_copyFrom at hq
    refine lv_aload_n hx hb dX1_copyFrom_0 rfl (lv_at hl 1 rfl) ?_
    refine lv_ifnonnull (tgt := 5) hx hb dX1_copyFrom_1 (by decide) ?_
    refine lv_aload_n hx hb dX1_copyFrom_5 rfl (lv_at hl 0 rfl) ?_
    refine lv_aload_n hx hb dX1_copyFrom_6 rfl (lv_at hl 1 rfl) ?_
    refine k_get (v := .int (f2 0)) (T := TX1) (C := RX1) (N := 16) cx hi_X1_copyFrom_1 hP 4 rfl rfl 0 (by decide) (by decide +kernel) rfl dX1_copyFrom_7 ?_
    refine k_put (ws' := [oSt h o g (upd f 0 (f2 0)), aI G o 6 oh, oLed g k lf, aI G k 80 ce, oSt h2 o2 g2 f2, aI G o2 6 oh2, oLed g2 k2 lf2, aI G k2 80 ce2]) (ty := .int) (T := TX1) (C := RX1) (N := 16) cx hi_X1_copyFrom_1 tyX1_ok nmX1 hP hD hS 0 rfl rfl 0 (by decide) (by decide +kernel) rfl rfl rfl rfl (Nat.le_of_ble_eq_true rfl) rfl dX1_copyFrom_10 (fun H locs hP hD hS => ?_)
    refine lv_aload_n hx hb dX1_copyFrom_13 rfl (lv_at hl 0 rfl) ?_
    refine lv_aload_n hx hb dX1_copyFrom_14 rfl (lv_at hl 1 rfl) ?_
    refine k_get (v := .int (f2 1)) (T := TX1) (C := RX1) (N := 16) cx hi_X1_copyFrom_1 hP 4 rfl rfl 1 (by decide) (by decide +kernel) rfl dX1_copyFrom_15 ?_
    refine k_put (ws' := [oSt h o g (upd (upd f 0 (f2 0)) 1 (f2 1)), aI G o 6 oh, oLed g k lf, aI G k 80 ce, oSt h2 o2 g2 f2, aI G o2 6 oh2, oLed g2 k2 lf2, aI G k2 80 ce2]) (ty := .int) (T := TX1) (C := RX1) (N := 16) cx hi_X1_copyFrom_1 tyX1_ok nmX1 hP hD hS 0 rfl rfl 1 (by decide) (by decide +kernel) rfl rfl rfl rfl (Nat.le_of_ble_eq_true rfl) rfl dX1_copyFrom_18 (fun H locs hP hD hS => ?_)
    refine lv_aload_n hx hb dX1_copyFrom_21 rfl (lv_at hl 0 rfl) ?_
    refine lv_aload_n hx hb dX1_copyFrom_22 rfl (lv_at hl 1 rfl) ?_
    refine k_get (v := .int (f2 2)) (T := TX1) (C := RX1) (N := 16) cx hi_X1_copyFrom_1 hP 4 rfl rfl 2 (by decide) (by decide +kernel) rfl dX1_copyFrom_23 ?_
    refine k_put (ws' := [oSt h o g (upd (upd (upd f 0 (f2 0)) 1 (f2 1)) 2 (f2 2)), aI G o 6 oh, oLed g k lf, aI G k 80 ce, oSt h2 o2 g2 f2, aI G o2 6 oh2, oLed g2 k2 lf2, aI G k2 80 ce2]) (ty := .int) (T := TX1) (C := RX1) (N := 16) cx hi_X1_copyFrom_1 tyX1_ok nmX1 hP hD hS 0 rfl rfl 2 (by decide) (by decide +kernel) rfl rfl rfl rfl (Nat.le_of_ble_eq_true rfl) rfl dX1_copyFrom_26 (fun H locs hP hD hS => ?_)
    refine lv_aload_n hx hb dX1_copyFrom_29 rfl (lv_at hl 0 rfl) ?_
    refine lv_aload_n hx hb dX1_copyFrom_30 rfl (lv_at hl 1 rfl) ?_
    refine k_get (v := .int (f2 3)) (T := TX1) (C := RX1) (N := 16) cx hi_X1_copyFrom_1 hP 4 rfl rfl 3 (by decide) (by decide +kernel) rfl dX1_copyFrom_31 ?_
    refine k_put (ws' := [oSt h o g (upd (upd (upd (upd f 0 (f2 0)) 1 (f2 1)) 2 (f2 2)) 3 (f2 3)), aI G o 6 oh, oLed g k lf, aI G k 80 ce, oSt h2 o2 g2 f2, aI G o2 6 oh2, oLed g2 k2 lf2, aI G k2 80 ce2]) (ty := .int) (T := TX1) (C := RX1) (N := 16) cx hi_X1_copyFrom_1 tyX1_ok nmX1 hP hD hS 0 rfl rfl 3 (by decide) (by decide +kernel) rfl rfl rfl rfl (Nat.le_of_ble_eq_true rfl) rfl dX1_copyFrom_34 (fun H locs hP hD hS => ?_)
    refine lv_aload_n hx hb dX1_copyFrom_37 rfl (lv_at hl 0 rfl) ?_
    refine lv_aload_n hx hb dX1_copyFrom_38 rfl (lv_at hl 1 rfl) ?_
    refine k_get (v := .int (f2 4)) (T := TX1) (C := RX1) (N := 16) cx hi_X1_copyFrom_1 hP 4 rfl rfl 4 (by decide) (by decide +kernel) rfl dX1_copyFrom_39 ?_
    refine k_put (ws' := [oSt h o g (upd (upd (upd (upd (upd f 0 (f2 0)) 1 (f2 1)) 2 (f2 2)) 3 (f2 3)) 4 (f2 4)), aI G o 6 oh, oLed g k lf, aI G k 80 ce, oSt h2 o2 g2 f2, aI G o2 6 oh2, oLed g2 k2 lf2, aI G k2 80 ce2]) (ty := .int) (T := TX1) (C := RX1) (N := 16) cx hi_X1_copyFrom_1 tyX1_ok nmX1 hP hD hS 0 rfl rfl 4 (by decide) (by decide +kernel) rfl rfl rfl rfl (Nat.le_of_ble_eq_true rfl) rfl dX1_copyFrom_42 (fun H locs hP hD hS => ?_)
    refine lv_aload_n hx hb dX1_copyFrom_45 rfl (lv_at hl 0 rfl) ?_
    refine lv_aload_n hx hb dX1_copyFrom_46 rfl (lv_at hl 1 rfl) ?_
    refine k_get (v := .int (f2 5)) (T := TX1) (C := RX1) (N := 16) cx hi_X1_copyFrom_1 hP 4 rfl rfl 5 (by decide) (by decide +kernel) rfl dX1_copyFrom_47 ?_
    refine k_put (ws' := [oSt h o g (upd (upd (upd (upd (upd (upd f 0 (f2 0)) 1 (f2 1)) 2 (f2 2)) 3 (f2 3)) 4 (f2 4)) 5 (f2 5)), aI G o 6 oh, oLed g k lf, aI G k 80 ce, oSt h2 o2 g2 f2, aI G o2 6 oh2, oLed g2 k2 lf2, aI G k2 80 ce2]) (ty := .int) (T := TX1) (C := RX1) (N := 16) cx hi_X1_copyFrom_1 tyX1_ok nmX1 hP hD hS 0 rfl rfl 5 (by decide) (by decide +kernel) rfl rfl rfl rfl (Nat.le_of_ble_eq_true rfl) rfl dX1_copyFrom_50 (fun H locs hP hD hS => ?_)
    refine lv_aload_n hx hb dX1_copyFrom_53 rfl (lv_at hl 0 rfl) ?_
    refine lv_aload_n hx hb dX1_copyFrom_54 rfl (lv_at hl 1 rfl) ?_
    refine k_get (v := .int (f2 6)) (T := TX1) (C := RX1) (N := 16) cx hi_X1_copyFrom_1 hP 4 rfl rfl 6 (by decide) (by decide +kernel) rfl dX1_copyFrom_55 ?_
    refine k_put (ws' := [oSt h o g (upd (upd (upd (upd (upd (upd (upd f 0 (f2 0)) 1 (f2 1)) 2 (f2 2)) 3 (f2 3)) 4 (f2 4)) 5 (f2 5)) 6 (f2 6)), aI G o 6 oh, oLed g k lf, aI G k 80 ce, oSt h2 o2 g2 f2, aI G o2 6 oh2, oLed g2 k2 lf2, aI G k2 80 ce2]) (ty := .int) (T := TX1) (C := RX1) (N := 16) cx hi_X1_copyFrom_1 tyX1_ok nmX1 hP hD hS 0 rfl rfl 6 (by decide) (by decide +kernel) rfl rfl rfl rfl (Nat.le_of_ble_eq_true rfl) rfl dX1_copyFrom_58 (fun H locs hP hD hS => ?_)
    refine lv_aload_n hx hb dX1_copyFrom_61 rfl (lv_at hl 0 rfl) ?_
    refine lv_aload_n hx hb dX1_copyFrom_62 rfl (lv_at hl 1 rfl) ?_
    refine k_get (v := .int (f2 7)) (T := TX1) (C := RX1) (N := 16) cx hi_X1_copyFrom_1 hP 4 rfl rfl 7 (by decide) (by decide +kernel) rfl dX1_copyFrom_63 ?_
    refine k_put (ws' := [oSt h o g (upd (upd (upd (upd (upd (upd (upd (upd f 0 (f2 0)) 1 (f2 1)) 2 (f2 2)) 3 (f2 3)) 4 (f2 4)) 5 (f2 5)) 6 (f2 6)) 7 (f2 7)), aI G o 6 oh, oLed g k lf, aI G k 80 ce, oSt h2 o2 g2 f2, aI G o2 6 oh2, oLed g2 k2 lf2, aI G k2 80 ce2]) (ty := .int) (T := TX1) (C := RX1) (N := 16) cx hi_X1_copyFrom_1 tyX1_ok nmX1 hP hD hS 0 rfl rfl 7 (by decide) (by decide +kernel) rfl rfl rfl rfl (Nat.le_of_ble_eq_true rfl) rfl dX1_copyFrom_66 (fun H locs hP hD hS => ?_)
    refine lv_aload_n hx hb dX1_copyFrom_69 rfl (lv_at hl 0 rfl) ?_
    refine lv_aload_n hx hb dX1_copyFrom_70 rfl (lv_at hl 1 rfl) ?_
    refine k_get (v := .int (f2 8)) (T := TX1) (C := RX1) (N := 16) cx hi_X1_copyFrom_1 hP 4 rfl rfl 8 (by decide) (by decide +kernel) rfl dX1_copyFrom_71 ?_
    refine k_put (ws' := [oSt h o g (upd (upd (upd (upd (upd (upd (upd (upd (upd f 0 (f2 0)) 1 (f2 1)) 2 (f2 2)) 3 (f2 3)) 4 (f2 4)) 5 (f2 5)) 6 (f2 6)) 7 (f2 7)) 8 (f2 8)), aI G o 6 oh, oLed g k lf, aI G k 80 ce, oSt h2 o2 g2 f2, aI G o2 6 oh2, oLed g2 k2 lf2, aI G k2 80 ce2]) (ty := .int) (T := TX1) (C := RX1) (N := 16) cx hi_X1_copyFrom_1 tyX1_ok nmX1 hP hD hS 0 rfl rfl 8 (by decide) (by decide +kernel) rfl rfl rfl rfl (Nat.le_of_ble_eq_true rfl) rfl dX1_copyFrom_74 (fun H locs hP hD hS => ?_)
    refine lv_aload_n hx hb dX1_copyFrom_77 rfl (lv_at hl 0 rfl) ?_
    refine lv_aload_n hx hb dX1_copyFrom_78 rfl (lv_at hl 1 rfl) ?_
    refine k_get (v := .int (f2 9)) (T := TX1) (C := RX1) (N := 16) cx hi_X1_copyFrom_1 hP 4 rfl rfl 9 (by decide) (by decide +kernel) rfl dX1_copyFrom_79 ?_
    refine k_put (ws' := [oSt h o g (upd (upd (upd (upd (upd (upd (upd (upd (upd (upd f 0 (f2 0)) 1 (f2 1)) 2 (f2 2)) 3 (f2 3)) 4 (f2 4)) 5 (f2 5)) 6 (f2 6)) 7 (f2 7)) 8 (f2 8)) 9 (f2 9)), aI G o 6 oh, oLed g k lf, aI G k 80 ce, oSt h2 o2 g2 f2, aI G o2 6 oh2, oLed g2 k2 lf2, aI G k2 80 ce2]) (ty := .boolean) (T := TX1) (C := RX1) (N := 16) cx hi_X1_copyFrom_1 tyX1_ok nmX1 hP hD hS 0 rfl rfl 9 (by decide) (by decide +kernel) rfl rfl (nz hst) (nf hst) (Nat.le_of_ble_eq_true rfl) rfl dX1_copyFrom_82 (fun H locs hP hD hS => ?_)
    refine lv_aload_n hx hb dX1_copyFrom_85 rfl (lv_at hl 0 rfl) ?_
    refine lv_aload_n hx hb dX1_copyFrom_86 rfl (lv_at hl 1 rfl) ?_
    refine k_get (v := .int (f2 10)) (T := TX1) (C := RX1) (N := 16) cx hi_X1_copyFrom_1 hP 4 rfl rfl 10 (by decide) (by decide +kernel) rfl dX1_copyFrom_87 ?_
    refine k_put (ws' := [oSt h o g (upd (upd (upd (upd (upd (upd (upd (upd (upd (upd (upd f 0 (f2 0)) 1 (f2 1)) 2 (f2 2)) 3 (f2 3)) 4 (f2 4)) 5 (f2 5)) 6 (f2 6)) 7 (f2 7)) 8 (f2 8)) 9 (f2 9)) 10 (f2 10)), aI G o 6 oh, oLed g k lf, aI G k 80 ce, oSt h2 o2 g2 f2, aI G o2 6 oh2, oLed g2 k2 lf2, aI G k2 80 ce2]) (ty := .int) (T := TX1) (C := RX1) (N := 16) cx hi_X1_copyFrom_1 tyX1_ok nmX1 hP hD hS 0 rfl rfl 10 (by decide) (by decide +kernel) rfl rfl rfl rfl (Nat.le_of_ble_eq_true rfl) rfl dX1_copyFrom_90 (fun H locs hP hD hS => ?_)
    refine lv_aload_n hx hb dX1_copyFrom_93 rfl (lv_at hl 0 rfl) ?_
    refine lv_aload_n hx hb dX1_copyFrom_94 rfl (lv_at hl 1 rfl) ?_
    refine k_get (v := .int (f2 11)) (T := TX1) (C := RX1) (N := 16) cx hi_X1_copyFrom_1 hP 4 rfl rfl 11 (by decide) (by decide +kernel) rfl dX1_copyFrom_95 ?_
    refine k_put (ws' := [oSt h o g (upd (upd (upd (upd (upd (upd (upd (upd (upd (upd (upd (upd f 0 (f2 0)) 1 (f2 1)) 2 (f2 2)) 3 (f2 3)) 4 (f2 4)) 5 (f2 5)) 6 (f2 6)) 7 (f2 7)) 8 (f2 8)) 9 (f2 9)) 10 (f2 10)) 11 (f2 11)), aI G o 6 oh, oLed g k lf, aI G k 80 ce, oSt h2 o2 g2 f2, aI G o2 6 oh2, oLed g2 k2 lf2, aI G k2 80 ce2]) (ty := .int) (T := TX1) (C := RX1) (N := 16) cx hi_X1_copyFrom_1 tyX1_ok nmX1 hP hD hS 0 rfl rfl 11 (by decide) (by decide +kernel) rfl rfl rfl rfl (Nat.le_of_ble_eq_true rfl) rfl dX1_copyFrom_98 (fun H locs hP hD hS => ?_)
    refine lv_iconst (v := 0) hx hb dX1_copyFrom_101 (by decide) ?_
    refine lv_istore_n (lv' := [(2, .int 0), (0, .ref h), (1, .ref h2)]) hx hb dX1_copyFrom_102 rfl hl (by decide) rfl (fun ls hl => ?_)
    exact b_X1_copyFrom_103 cx h o g k h2 o2 g2 k2 f2 oh2 lf2 ce2 hst tgt ((((6 : Int32)).toInt - (0 : Int32).toInt).toNat + 1) 0 (upd (upd (upd (upd (upd (upd (upd (upd (upd (upd (upd (upd f 0 (f2 0)) 1 (f2 1)) 2 (f2 2)) 3 (f2 3)) 4 (f2 4)) 5 (f2 5)) 6 (f2 6)) 7 (f2 7)) 8 (f2 8)) 9 (f2 9)) 10 (f2 10)) 11 (f2 11)) oh lf ce (by decide) (Nat.lt_succ_self _) hq H locs hP hD hS _ (lv_sub hl [1, 2, 0] rfl)
  subst hL
  subst hH
  subst hq
  exact key _ _ hP hD hS

/-! X1_number -/
theorem hi_X1_number_0 : ∀ w ∈ u_ws RX0 TX0 3, w ∈ wsX1_number := by decide +kernel
theorem hi_X1_number_1 : ∀ w ∈ u_ws RX1 TX1 16, w ∈ wsX1_number := by decide +kernel
abbrev rm_X1_number : Room := { frames := 2, cells := 0, slots := 0, locals := 41 }
abbrev Q_X1_number (G : gG) (h : Nat) (o : Nat) (g : Nat) (k : Nat)  (f : Nat → Int32) (lf : Nat → Int32) (tgt : Int32) (below : List Frame) (args : Array Value) (s : State) (A : Nat → Prop) : State → Prop := MQ below (qI G tgt [oSt h o g f, oLed g k lf] A) args s 0 0 A
def P_X1_number (f : Nat → Int32) (lf : Nat → Int32) (what : Int32) : Int32 := (if what = 0 then (f 0) else if what = 1 then (f 1) else if what = 2 then (f 2) else if what = 3 then (f 3) else if what = 4 then (f 4) else if what = 5 then (f 5) else if what = 6 then (f 6) else if what = 7 then (f 7) else if what = 8 then (P_X1_offset f) else if what = 9 then (f 8) else if what = 10 then (f 13) else if what = 11 then (f 14) else if what = 12 then (if (f 9) = 0 then 0 else 1) else if what = 13 then (lf 1) else if what = 14 then (f 10) else (f 11))
set_option maxHeartbeats 4000000 in
set_option maxRecDepth 100000 in
theorem c_X1_number (l : Launch) (G : gG) (h : Nat) (o : Nat) (g : Nat) (k : Nat) (f : Nat → Int32) (lf : Nat → Int32) (what : Int32)  : kM l G yX1_number wsX1_number rm_X1_number [.ref h, .int what] [oSt h o g f, oLed g k lf] (qI G ((P_X1_number f lf what)) [oSt h o g f, oLed g k lf]) := by
  refine k_body (cc := cX1_number) (nL := 2) (ret := (some .int)) (by decide) rfl (Nat.le_of_ble_eq_true rfl) ?_
  intro p e s m args below meth c A cx hP hD hS ls hl
  obtain ⟨hx, hb, hml, hown, hts, hr, hlocks, hK, hA⟩ := id cx
  obtain ⟨H, hH⟩ : ∃ H, H = s.heap := ⟨_, rfl⟩
  obtain ⟨locs, hL⟩ : ∃ locs : List Loc, locs = [] := ⟨_, rfl⟩
  obtain ⟨tgt, hq⟩ : ∃ tgt, (P_X1_number f lf what) = tgt := ⟨_, rfl⟩
  have hS : va_S A s.heap H locs := by rw [hH, hL]; exact hS
  rw [← hH] at hP
  have hl : lv_has ls 2 [(0, .ref h), (1, .int what)] := hl
  have key : ∀ (H : Heap) (locs : List Loc), va_P G.1 vwCl [oSt h o g f, oLed g k lf] H → va_D A [oSt h o g f, oLed g k lf] → va_S A s.heap H locs → W p l e rm_X1_number s m args below meth c H locs 0 0 (Q_X1_number G h o g k f lf tgt below args s A) (F0 m 0 ls []) := by
    clear hP hD hS hH hL
    intro H locs hP hD hS
    unfold P_X1_number at hq
    refine lv_iload_n hx hb dX1_number_0 rfl (lv_at hl 1 rfl) ?_
    by_cases c_1_0 : what = 0
    · replace hq := (if_pos c_1_0).symm.trans hq
      refine lv_tableIn (tgt := 76) (off := 75) hx hb dX1_number_1 (sw_lo c_1_0 (by decide)) (sw_hi c_1_0 (by decide)) (sw_at c_1_0 (by decide)) (by decide) ?_
      refine lv_aload_n hx hb dX1_number_76 rfl (lv_at hl 0 rfl) ?_
      refine k_get (v := .int (f 0)) (T := TX1) (C := RX1) (N := 16) cx hi_X1_number_1 hP 0 rfl rfl 0 (by decide) (by decide +kernel) rfl dX1_number_77 ?_
      subst hq
      exact k_iret cx hP hS dX1_number_80
    replace hq := (if_neg c_1_0).symm.trans hq
    by_cases c_1_1 : what = 1
    · replace hq := (if_pos c_1_1).symm.trans hq
      refine lv_tableIn (tgt := 81) (off := 80) hx hb dX1_number_1 (sw_lo c_1_1 (by decide)) (sw_hi c_1_1 (by decide)) (sw_at c_1_1 (by decide)) (by decide) ?_
      refine lv_aload_n hx hb dX1_number_81 rfl (lv_at hl 0 rfl) ?_
      refine k_get (v := .int (f 1)) (T := TX1) (C := RX1) (N := 16) cx hi_X1_number_1 hP 0 rfl rfl 1 (by decide) (by decide +kernel) rfl dX1_number_82 ?_
      subst hq
      exact k_iret cx hP hS dX1_number_85
    replace hq := (if_neg c_1_1).symm.trans hq
    by_cases c_1_2 : what = 2
    · replace hq := (if_pos c_1_2).symm.trans hq
      refine lv_tableIn (tgt := 86) (off := 85) hx hb dX1_number_1 (sw_lo c_1_2 (by decide)) (sw_hi c_1_2 (by decide)) (sw_at c_1_2 (by decide)) (by decide) ?_
      refine lv_aload_n hx hb dX1_number_86 rfl (lv_at hl 0 rfl) ?_
      refine k_get (v := .int (f 2)) (T := TX1) (C := RX1) (N := 16) cx hi_X1_number_1 hP 0 rfl rfl 2 (by decide) (by decide +kernel) rfl dX1_number_87 ?_
      subst hq
      exact k_iret cx hP hS dX1_number_90
    replace hq := (if_neg c_1_2).symm.trans hq
    by_cases c_1_3 : what = 3
    · replace hq := (if_pos c_1_3).symm.trans hq
      refine lv_tableIn (tgt := 91) (off := 90) hx hb dX1_number_1 (sw_lo c_1_3 (by decide)) (sw_hi c_1_3 (by decide)) (sw_at c_1_3 (by decide)) (by decide) ?_
      refine lv_aload_n hx hb dX1_number_91 rfl (lv_at hl 0 rfl) ?_
      refine k_get (v := .int (f 3)) (T := TX1) (C := RX1) (N := 16) cx hi_X1_number_1 hP 0 rfl rfl 3 (by decide) (by decide +kernel) rfl dX1_number_92 ?_
      subst hq
      exact k_iret cx hP hS dX1_number_95
    replace hq := (if_neg c_1_3).symm.trans hq
    by_cases c_1_4 : what = 4
    · replace hq := (if_pos c_1_4).symm.trans hq
      refine lv_tableIn (tgt := 96) (off := 95) hx hb dX1_number_1 (sw_lo c_1_4 (by decide)) (sw_hi c_1_4 (by decide)) (sw_at c_1_4 (by decide)) (by decide) ?_
      refine lv_aload_n hx hb dX1_number_96 rfl (lv_at hl 0 rfl) ?_
      refine k_get (v := .int (f 4)) (T := TX1) (C := RX1) (N := 16) cx hi_X1_number_1 hP 0 rfl rfl 4 (by decide) (by decide +kernel) rfl dX1_number_97 ?_
      subst hq
      exact k_iret cx hP hS dX1_number_100
    replace hq := (if_neg c_1_4).symm.trans hq
    by_cases c_1_5 : what = 5
    · replace hq := (if_pos c_1_5).symm.trans hq
      refine lv_tableIn (tgt := 101) (off := 100) hx hb dX1_number_1 (sw_lo c_1_5 (by decide)) (sw_hi c_1_5 (by decide)) (sw_at c_1_5 (by decide)) (by decide) ?_
      refine lv_aload_n hx hb dX1_number_101 rfl (lv_at hl 0 rfl) ?_
      refine k_get (v := .int (f 5)) (T := TX1) (C := RX1) (N := 16) cx hi_X1_number_1 hP 0 rfl rfl 5 (by decide) (by decide +kernel) rfl dX1_number_102 ?_
      subst hq
      exact k_iret cx hP hS dX1_number_105
    replace hq := (if_neg c_1_5).symm.trans hq
    by_cases c_1_6 : what = 6
    · replace hq := (if_pos c_1_6).symm.trans hq
      refine lv_tableIn (tgt := 106) (off := 105) hx hb dX1_number_1 (sw_lo c_1_6 (by decide)) (sw_hi c_1_6 (by decide)) (sw_at c_1_6 (by decide)) (by decide) ?_
      refine lv_aload_n hx hb dX1_number_106 rfl (lv_at hl 0 rfl) ?_
      refine k_get (v := .int (f 6)) (T := TX1) (C := RX1) (N := 16) cx hi_X1_number_1 hP 0 rfl rfl 6 (by decide) (by decide +kernel) rfl dX1_number_107 ?_
      subst hq
      exact k_iret cx hP hS dX1_number_110
    replace hq := (if_neg c_1_6).symm.trans hq
    by_cases c_1_7 : what = 7
    · replace hq := (if_pos c_1_7).symm.trans hq
      refine lv_tableIn (tgt := 111) (off := 110) hx hb dX1_number_1 (sw_lo c_1_7 (by decide)) (sw_hi c_1_7 (by decide)) (sw_at c_1_7 (by decide)) (by decide) ?_
      refine lv_aload_n hx hb dX1_number_111 rfl (lv_at hl 0 rfl) ?_
      refine k_get (v := .int (f 7)) (T := TX1) (C := RX1) (N := 16) cx hi_X1_number_1 hP 0 rfl rfl 7 (by decide) (by decide +kernel) rfl dX1_number_112 ?_
      subst hq
      exact k_iret cx hP hS dX1_number_115
    replace hq := (if_neg c_1_7).symm.trans hq
    by_cases c_1_8 : what = 8
    · replace hq := (if_pos c_1_8).symm.trans hq
      refine lv_tableIn (tgt := 116) (off := 115) hx hb dX1_number_1 (sw_lo c_1_8 (by decide)) (sw_hi c_1_8 (by decide)) (sw_at c_1_8 (by decide)) (by decide) ?_
      refine lv_aload_n hx hb dX1_number_116 rfl (lv_at hl 0 rfl) ?_
      have hC := c_X1_offset l G h o g f
      refine k_i (ws' := [oSt h o g f, oLed g k lf]) (as := [h]) cx hP hD hS [0] rfl (kr_V (n := 0) (As := []) (ci := 1) cx hC gX1_number_X1_offset rfl rfl rfl (by decide +kernel) ⟨Nat.le_of_ble_eq_true rfl, Nat.le_of_ble_eq_true rfl⟩ rfl rfl rfl hP hD [0] rfl rfl rfl rfl hl (Nat.le_of_ble_eq_true rfl) dX1_number_117 ⟨Nat.le_refl _, Nat.le_refl _⟩) ⟨rfl, rfl⟩ rfl (fun H locs hP hD hS => ?_)
      subst hq
      exact k_iret cx hP hS dX1_number_120
    replace hq := (if_neg c_1_8).symm.trans hq
    by_cases c_1_9 : what = 9
    · replace hq := (if_pos c_1_9).symm.trans hq
      refine lv_tableIn (tgt := 121) (off := 120) hx hb dX1_number_1 (sw_lo c_1_9 (by decide)) (sw_hi c_1_9 (by decide)) (sw_at c_1_9 (by decide)) (by decide) ?_
      refine lv_aload_n hx hb dX1_number_121 rfl (lv_at hl 0 rfl) ?_
      refine k_get (v := .int (f 8)) (T := TX1) (C := RX1) (N := 16) cx hi_X1_number_1 hP 0 rfl rfl 8 (by decide) (by decide +kernel) rfl dX1_number_122 ?_
      subst hq
      exact k_iret cx hP hS dX1_number_125
    replace hq := (if_neg c_1_9).symm.trans hq
    by_cases c_1_10 : what = 10
    · replace hq := (if_pos c_1_10).symm.trans hq
      refine lv_tableIn (tgt := 126) (off := 125) hx hb dX1_number_1 (sw_lo c_1_10 (by decide)) (sw_hi c_1_10 (by decide)) (sw_at c_1_10 (by decide)) (by decide) ?_
      refine lv_aload_n hx hb dX1_number_126 rfl (lv_at hl 0 rfl) ?_
      refine k_get (v := .int (f 13)) (T := TX1) (C := RX1) (N := 16) cx hi_X1_number_1 hP 0 rfl rfl 13 (by decide) (by decide +kernel) rfl dX1_number_127 ?_
      subst hq
      exact k_iret cx hP hS dX1_number_130
    replace hq := (if_neg c_1_10).symm.trans hq
    by_cases c_1_11 : what = 11
    · replace hq := (if_pos c_1_11).symm.trans hq
      refine lv_tableIn (tgt := 131) (off := 130) hx hb dX1_number_1 (sw_lo c_1_11 (by decide)) (sw_hi c_1_11 (by decide)) (sw_at c_1_11 (by decide)) (by decide) ?_
      refine lv_aload_n hx hb dX1_number_131 rfl (lv_at hl 0 rfl) ?_
      refine k_get (v := .int (f 14)) (T := TX1) (C := RX1) (N := 16) cx hi_X1_number_1 hP 0 rfl rfl 14 (by decide) (by decide +kernel) rfl dX1_number_132 ?_
      subst hq
      exact k_iret cx hP hS dX1_number_135
    replace hq := (if_neg c_1_11).symm.trans hq
    by_cases c_1_12 : what = 12
    · replace hq := (if_pos c_1_12).symm.trans hq
      refine lv_tableIn (tgt := 136) (off := 135) hx hb dX1_number_1 (sw_lo c_1_12 (by decide)) (sw_hi c_1_12 (by decide)) (sw_at c_1_12 (by decide)) (by decide) ?_
      refine lv_aload_n hx hb dX1_number_136 rfl (lv_at hl 0 rfl) ?_
      refine k_get (v := .int (f 9)) (T := TX1) (C := RX1) (N := 16) cx hi_X1_number_1 hP 0 rfl rfl 9 (by decide) (by decide +kernel) rfl dX1_number_137 ?_
      refine lv_if_eq (tgt := 147) hx hb dX1_number_140 (by decide) (fun c_140 => ?_) (fun c_140 => ?_)
      · replace hq := (if_pos c_140).symm.trans hq
        refine lv_iconst (v := 0) hx hb dX1_number_147 (by decide) ?_
        subst hq
        exact k_iret cx hP hS dX1_number_148
      · replace hq := (if_neg c_140).symm.trans hq
        refine lv_iconst (v := 1) hx hb dX1_number_143 (by decide) ?_
        refine lv_goto (tgt := 148) hx hb dX1_number_144 (by decide) ?_
        subst hq
        exact k_iret cx hP hS dX1_number_148
    replace hq := (if_neg c_1_12).symm.trans hq
    by_cases c_1_13 : what = 13
    · replace hq := (if_pos c_1_13).symm.trans hq
      refine lv_tableIn (tgt := 149) (off := 148) hx hb dX1_number_1 (sw_lo c_1_13 (by decide)) (sw_hi c_1_13 (by decide)) (sw_at c_1_13 (by decide)) (by decide) ?_
      refine lv_aload_n hx hb dX1_number_149 rfl (lv_at hl 0 rfl) ?_
      refine k_get (v := .ref g) (T := TX1) (C := RX1) (N := 16) cx hi_X1_number_1 hP 0 rfl rfl 15 (by decide) (by decide +kernel) rfl dX1_number_150 ?_
      refine k_getN (v := .int (lf 1)) (T := TX0) (C := RX0) (N := 3) (host := RX3) cx hi_X1_number_0 hP 1 rfl rfl 1 (by decide) nn_X1_97 rfl dX1_number_153 ?_
      subst hq
      exact k_iret cx hP hS dX1_number_156
    replace hq := (if_neg c_1_13).symm.trans hq
    by_cases c_1_14 : what = 14
    · replace hq := (if_pos c_1_14).symm.trans hq
      refine lv_tableIn (tgt := 157) (off := 156) hx hb dX1_number_1 (sw_lo c_1_14 (by decide)) (sw_hi c_1_14 (by decide)) (sw_at c_1_14 (by decide)) (by decide) ?_
      refine lv_aload_n hx hb dX1_number_157 rfl (lv_at hl 0 rfl) ?_
      refine k_get (v := .int (f 10)) (T := TX1) (C := RX1) (N := 16) cx hi_X1_number_1 hP 0 rfl rfl 10 (by decide) (by decide +kernel) rfl dX1_number_158 ?_
      subst hq
      exact k_iret cx hP hS dX1_number_161
    replace hq := (if_neg c_1_14).symm.trans hq
    have e0 := lv_neT (a := 0) c_1_0 (by decide)
    have e1 := lv_neT (a := 1) c_1_1 (by decide)
    have e2 := lv_neT (a := 2) c_1_2 (by decide)
    have e3 := lv_neT (a := 3) c_1_3 (by decide)
    have e4 := lv_neT (a := 4) c_1_4 (by decide)
    have e5 := lv_neT (a := 5) c_1_5 (by decide)
    have e6 := lv_neT (a := 6) c_1_6 (by decide)
    have e7 := lv_neT (a := 7) c_1_7 (by decide)
    have e8 := lv_neT (a := 8) c_1_8 (by decide)
    have e9 := lv_neT (a := 9) c_1_9 (by decide)
    have e10 := lv_neT (a := 10) c_1_10 (by decide)
    have e11 := lv_neT (a := 11) c_1_11 (by decide)
    have e12 := lv_neT (a := 12) c_1_12 (by decide)
    have e13 := lv_neT (a := 13) c_1_13 (by decide)
    have e14 := lv_neT (a := 14) c_1_14 (by decide)
    refine lv_tableOut (tgt := 162) hx hb dX1_number_1 (by omega) (by decide) ?_
    refine lv_aload_n hx hb dX1_number_162 rfl (lv_at hl 0 rfl) ?_
    refine k_get (v := .int (f 11)) (T := TX1) (C := RX1) (N := 16) cx hi_X1_number_1 hP 0 rfl rfl 11 (by decide) (by decide +kernel) rfl dX1_number_163 ?_
    subst hq
    exact k_iret cx hP hS dX1_number_166
  subst hL
  subst hH
  subst hq
  exact key _ _ hP hD hS

/-! X1_mayBe -/
abbrev rm_X1_mayBe : Room := { frames := 0, cells := 0, slots := 0, locals := 0 }
abbrev Q_X1_mayBe (G : gG)    (tgt : Int32) (below : List Frame) (args : Array Value) (s : State) (A : Nat → Prop) : State → Prop := MQ below (qI G tgt [] A) args s 0 0 A
def P_X1_mayBe (what : Int32) (v : Int32) : Int32 := (if what = 0 then (if v < 0 then 0 else (if 3 < v then 0 else 1)) else if what = 1 then (if v < 0 then 0 else (if 3 < v then 0 else 1)) else if what = 2 then (if v < 0 then 0 else (if 9999 < v then 0 else 1)) else if what = 3 then (if v < 1 then 0 else (if 99 < v then 0 else 1)) else if what = 4 then (if v < 0 then 0 else (if 3 < v then 0 else 1)) else if what = 5 then (if v < (-50) then 0 else (if 50 < v then 0 else 1)) else if what = 6 then (if v < 0 then 0 else (if 20 < v then 0 else 1)) else 0)
set_option maxHeartbeats 4000000 in
set_option maxRecDepth 100000 in
theorem c_X1_mayBe (l : Launch) (G : gG)  (what : Int32) (v : Int32)  : kM l G yX1_mayBe wsX1_mayBe rm_X1_mayBe [.int what, .int v] [] (qI G ((P_X1_mayBe what v)) []) := by
  refine k_body (cc := cX1_mayBe) (nL := 2) (ret := (some .boolean)) (by decide) rfl (Nat.le_of_ble_eq_true rfl) ?_
  intro p e s m args below meth c A cx hP hD hS ls hl
  obtain ⟨hx, hb, hml, hown, hts, hr, hlocks, hK, hA⟩ := id cx
  obtain ⟨H, hH⟩ : ∃ H, H = s.heap := ⟨_, rfl⟩
  obtain ⟨locs, hL⟩ : ∃ locs : List Loc, locs = [] := ⟨_, rfl⟩
  obtain ⟨tgt, hq⟩ : ∃ tgt, (P_X1_mayBe what v) = tgt := ⟨_, rfl⟩
  have hS : va_S A s.heap H locs := by rw [hH, hL]; exact hS
  rw [← hH] at hP
  have hl : lv_has ls 2 [(0, .int what), (1, .int v)] := hl
  have key : ∀ (H : Heap) (locs : List Loc), va_P G.1 vwCl [] H → va_D A [] → va_S A s.heap H locs → W p l e rm_X1_mayBe s m args below meth c H locs 0 0 (Q_X1_mayBe G  tgt below args s A) (F0 m 0 ls []) := by
    clear hP hD hS hH hL
    intro H locs hP hD hS
    unfold P_X1_mayBe at hq
    refine lv_iload_n hx hb dX1_mayBe_0 rfl (lv_at hl 0 rfl) ?_
    by_cases c_1_0 : what = 0
    · replace hq := (if_pos c_1_0).symm.trans hq
      refine lv_tableIn (tgt := 44) (off := 43) hx hb dX1_mayBe_1 (sw_lo c_1_0 (by decide)) (sw_hi c_1_0 (by decide)) (sw_at c_1_0 (by decide)) (by decide) ?_
      refine lv_iload_n hx hb dX1_mayBe_44 rfl (lv_at hl 1 rfl) ?_
      refine lv_if_lt (tgt := 57) hx hb dX1_mayBe_45 (by decide) (fun c_45 => ?_) (fun c_45 => ?_)
      · replace hq := (if_pos c_45).symm.trans hq
        refine lv_iconst (v := 0) hx hb dX1_mayBe_57 (by decide) ?_
        subst hq
        exact k_zret (v := 0) (w1 := []) cx (rfl) hP hS dX1_mayBe_58
      · replace hq := (if_neg c_45).symm.trans hq
        refine lv_iload_n hx hb dX1_mayBe_48 rfl (lv_at hl 1 rfl) ?_
        refine lv_iconst (v := 3) hx hb dX1_mayBe_49 (by decide) ?_
        refine lv_icmp_gt (tgt := 57) hx hb dX1_mayBe_50 (by decide) (fun c_50 => ?_) (fun c_50 => ?_)
        · replace hq := (if_pos c_50).symm.trans hq
          refine lv_iconst (v := 0) hx hb dX1_mayBe_57 (by decide) ?_
          subst hq
          exact k_zret (v := 0) (w1 := []) cx (rfl) hP hS dX1_mayBe_58
        · replace hq := (if_neg c_50).symm.trans hq
          refine lv_iconst (v := 1) hx hb dX1_mayBe_53 (by decide) ?_
          refine lv_goto (tgt := 58) hx hb dX1_mayBe_54 (by decide) ?_
          subst hq
          exact k_zret (v := 1) (w1 := []) cx (rfl) hP hS dX1_mayBe_58
    replace hq := (if_neg c_1_0).symm.trans hq
    by_cases c_1_1 : what = 1
    · replace hq := (if_pos c_1_1).symm.trans hq
      refine lv_tableIn (tgt := 44) (off := 43) hx hb dX1_mayBe_1 (sw_lo c_1_1 (by decide)) (sw_hi c_1_1 (by decide)) (sw_at c_1_1 (by decide)) (by decide) ?_
      refine lv_iload_n hx hb dX1_mayBe_44 rfl (lv_at hl 1 rfl) ?_
      refine lv_if_lt (tgt := 57) hx hb dX1_mayBe_45 (by decide) (fun c_45 => ?_) (fun c_45 => ?_)
      · replace hq := (if_pos c_45).symm.trans hq
        refine lv_iconst (v := 0) hx hb dX1_mayBe_57 (by decide) ?_
        subst hq
        exact k_zret (v := 0) (w1 := []) cx (rfl) hP hS dX1_mayBe_58
      · replace hq := (if_neg c_45).symm.trans hq
        refine lv_iload_n hx hb dX1_mayBe_48 rfl (lv_at hl 1 rfl) ?_
        refine lv_iconst (v := 3) hx hb dX1_mayBe_49 (by decide) ?_
        refine lv_icmp_gt (tgt := 57) hx hb dX1_mayBe_50 (by decide) (fun c_50 => ?_) (fun c_50 => ?_)
        · replace hq := (if_pos c_50).symm.trans hq
          refine lv_iconst (v := 0) hx hb dX1_mayBe_57 (by decide) ?_
          subst hq
          exact k_zret (v := 0) (w1 := []) cx (rfl) hP hS dX1_mayBe_58
        · replace hq := (if_neg c_50).symm.trans hq
          refine lv_iconst (v := 1) hx hb dX1_mayBe_53 (by decide) ?_
          refine lv_goto (tgt := 58) hx hb dX1_mayBe_54 (by decide) ?_
          subst hq
          exact k_zret (v := 1) (w1 := []) cx (rfl) hP hS dX1_mayBe_58
    replace hq := (if_neg c_1_1).symm.trans hq
    by_cases c_1_2 : what = 2
    · replace hq := (if_pos c_1_2).symm.trans hq
      refine lv_tableIn (tgt := 59) (off := 58) hx hb dX1_mayBe_1 (sw_lo c_1_2 (by decide)) (sw_hi c_1_2 (by decide)) (sw_at c_1_2 (by decide)) (by decide) ?_
      refine lv_iload_n hx hb dX1_mayBe_59 rfl (lv_at hl 1 rfl) ?_
      refine lv_if_lt (tgt := 74) hx hb dX1_mayBe_60 (by decide) (fun c_60 => ?_) (fun c_60 => ?_)
      · replace hq := (if_pos c_60).symm.trans hq
        refine lv_iconst (v := 0) hx hb dX1_mayBe_74 (by decide) ?_
        subst hq
        exact k_zret (v := 0) (w1 := []) cx (rfl) hP hS dX1_mayBe_75
      · replace hq := (if_neg c_60).symm.trans hq
        refine lv_iload_n hx hb dX1_mayBe_63 rfl (lv_at hl 1 rfl) ?_
        refine lv_sipush (v := 9999) hx hb dX1_mayBe_64 (by decide) ?_
        refine lv_icmp_gt (tgt := 74) hx hb dX1_mayBe_67 (by decide) (fun c_67 => ?_) (fun c_67 => ?_)
        · replace hq := (if_pos c_67).symm.trans hq
          refine lv_iconst (v := 0) hx hb dX1_mayBe_74 (by decide) ?_
          subst hq
          exact k_zret (v := 0) (w1 := []) cx (rfl) hP hS dX1_mayBe_75
        · replace hq := (if_neg c_67).symm.trans hq
          refine lv_iconst (v := 1) hx hb dX1_mayBe_70 (by decide) ?_
          refine lv_goto (tgt := 75) hx hb dX1_mayBe_71 (by decide) ?_
          subst hq
          exact k_zret (v := 1) (w1 := []) cx (rfl) hP hS dX1_mayBe_75
    replace hq := (if_neg c_1_2).symm.trans hq
    by_cases c_1_3 : what = 3
    · replace hq := (if_pos c_1_3).symm.trans hq
      refine lv_tableIn (tgt := 76) (off := 75) hx hb dX1_mayBe_1 (sw_lo c_1_3 (by decide)) (sw_hi c_1_3 (by decide)) (sw_at c_1_3 (by decide)) (by decide) ?_
      refine lv_iload_n hx hb dX1_mayBe_76 rfl (lv_at hl 1 rfl) ?_
      refine lv_iconst (v := 1) hx hb dX1_mayBe_77 (by decide) ?_
      refine lv_icmp_lt (tgt := 91) hx hb dX1_mayBe_78 (by decide) (fun c_78 => ?_) (fun c_78 => ?_)
      · replace hq := (if_pos c_78).symm.trans hq
        refine lv_iconst (v := 0) hx hb dX1_mayBe_91 (by decide) ?_
        subst hq
        exact k_zret (v := 0) (w1 := []) cx (rfl) hP hS dX1_mayBe_92
      · replace hq := (if_neg c_78).symm.trans hq
        refine lv_iload_n hx hb dX1_mayBe_81 rfl (lv_at hl 1 rfl) ?_
        refine lv_bipush (v := 99) hx hb dX1_mayBe_82 (by decide) ?_
        refine lv_icmp_gt (tgt := 91) hx hb dX1_mayBe_84 (by decide) (fun c_84 => ?_) (fun c_84 => ?_)
        · replace hq := (if_pos c_84).symm.trans hq
          refine lv_iconst (v := 0) hx hb dX1_mayBe_91 (by decide) ?_
          subst hq
          exact k_zret (v := 0) (w1 := []) cx (rfl) hP hS dX1_mayBe_92
        · replace hq := (if_neg c_84).symm.trans hq
          refine lv_iconst (v := 1) hx hb dX1_mayBe_87 (by decide) ?_
          refine lv_goto (tgt := 92) hx hb dX1_mayBe_88 (by decide) ?_
          subst hq
          exact k_zret (v := 1) (w1 := []) cx (rfl) hP hS dX1_mayBe_92
    replace hq := (if_neg c_1_3).symm.trans hq
    by_cases c_1_4 : what = 4
    · replace hq := (if_pos c_1_4).symm.trans hq
      refine lv_tableIn (tgt := 44) (off := 43) hx hb dX1_mayBe_1 (sw_lo c_1_4 (by decide)) (sw_hi c_1_4 (by decide)) (sw_at c_1_4 (by decide)) (by decide) ?_
      refine lv_iload_n hx hb dX1_mayBe_44 rfl (lv_at hl 1 rfl) ?_
      refine lv_if_lt (tgt := 57) hx hb dX1_mayBe_45 (by decide) (fun c_45 => ?_) (fun c_45 => ?_)
      · replace hq := (if_pos c_45).symm.trans hq
        refine lv_iconst (v := 0) hx hb dX1_mayBe_57 (by decide) ?_
        subst hq
        exact k_zret (v := 0) (w1 := []) cx (rfl) hP hS dX1_mayBe_58
      · replace hq := (if_neg c_45).symm.trans hq
        refine lv_iload_n hx hb dX1_mayBe_48 rfl (lv_at hl 1 rfl) ?_
        refine lv_iconst (v := 3) hx hb dX1_mayBe_49 (by decide) ?_
        refine lv_icmp_gt (tgt := 57) hx hb dX1_mayBe_50 (by decide) (fun c_50 => ?_) (fun c_50 => ?_)
        · replace hq := (if_pos c_50).symm.trans hq
          refine lv_iconst (v := 0) hx hb dX1_mayBe_57 (by decide) ?_
          subst hq
          exact k_zret (v := 0) (w1 := []) cx (rfl) hP hS dX1_mayBe_58
        · replace hq := (if_neg c_50).symm.trans hq
          refine lv_iconst (v := 1) hx hb dX1_mayBe_53 (by decide) ?_
          refine lv_goto (tgt := 58) hx hb dX1_mayBe_54 (by decide) ?_
          subst hq
          exact k_zret (v := 1) (w1 := []) cx (rfl) hP hS dX1_mayBe_58
    replace hq := (if_neg c_1_4).symm.trans hq
    by_cases c_1_5 : what = 5
    · replace hq := (if_pos c_1_5).symm.trans hq
      refine lv_tableIn (tgt := 93) (off := 92) hx hb dX1_mayBe_1 (sw_lo c_1_5 (by decide)) (sw_hi c_1_5 (by decide)) (sw_at c_1_5 (by decide)) (by decide) ?_
      refine lv_iload_n hx hb dX1_mayBe_93 rfl (lv_at hl 1 rfl) ?_
      refine lv_bipush (v := (-50)) hx hb dX1_mayBe_94 (by decide) ?_
      refine lv_icmp_lt (tgt := 109) hx hb dX1_mayBe_96 (by decide) (fun c_96 => ?_) (fun c_96 => ?_)
      · replace hq := (if_pos c_96).symm.trans hq
        refine lv_iconst (v := 0) hx hb dX1_mayBe_109 (by decide) ?_
        subst hq
        exact k_zret (v := 0) (w1 := []) cx (rfl) hP hS dX1_mayBe_110
      · replace hq := (if_neg c_96).symm.trans hq
        refine lv_iload_n hx hb dX1_mayBe_99 rfl (lv_at hl 1 rfl) ?_
        refine lv_bipush (v := 50) hx hb dX1_mayBe_100 (by decide) ?_
        refine lv_icmp_gt (tgt := 109) hx hb dX1_mayBe_102 (by decide) (fun c_102 => ?_) (fun c_102 => ?_)
        · replace hq := (if_pos c_102).symm.trans hq
          refine lv_iconst (v := 0) hx hb dX1_mayBe_109 (by decide) ?_
          subst hq
          exact k_zret (v := 0) (w1 := []) cx (rfl) hP hS dX1_mayBe_110
        · replace hq := (if_neg c_102).symm.trans hq
          refine lv_iconst (v := 1) hx hb dX1_mayBe_105 (by decide) ?_
          refine lv_goto (tgt := 110) hx hb dX1_mayBe_106 (by decide) ?_
          subst hq
          exact k_zret (v := 1) (w1 := []) cx (rfl) hP hS dX1_mayBe_110
    replace hq := (if_neg c_1_5).symm.trans hq
    by_cases c_1_6 : what = 6
    · replace hq := (if_pos c_1_6).symm.trans hq
      refine lv_tableIn (tgt := 111) (off := 110) hx hb dX1_mayBe_1 (sw_lo c_1_6 (by decide)) (sw_hi c_1_6 (by decide)) (sw_at c_1_6 (by decide)) (by decide) ?_
      refine lv_iload_n hx hb dX1_mayBe_111 rfl (lv_at hl 1 rfl) ?_
      refine lv_if_lt (tgt := 125) hx hb dX1_mayBe_112 (by decide) (fun c_112 => ?_) (fun c_112 => ?_)
      · replace hq := (if_pos c_112).symm.trans hq
        refine lv_iconst (v := 0) hx hb dX1_mayBe_125 (by decide) ?_
        subst hq
        exact k_zret (v := 0) (w1 := []) cx (rfl) hP hS dX1_mayBe_126
      · replace hq := (if_neg c_112).symm.trans hq
        refine lv_iload_n hx hb dX1_mayBe_115 rfl (lv_at hl 1 rfl) ?_
        refine lv_bipush (v := 20) hx hb dX1_mayBe_116 (by decide) ?_
        refine lv_icmp_gt (tgt := 125) hx hb dX1_mayBe_118 (by decide) (fun c_118 => ?_) (fun c_118 => ?_)
        · replace hq := (if_pos c_118).symm.trans hq
          refine lv_iconst (v := 0) hx hb dX1_mayBe_125 (by decide) ?_
          subst hq
          exact k_zret (v := 0) (w1 := []) cx (rfl) hP hS dX1_mayBe_126
        · replace hq := (if_neg c_118).symm.trans hq
          refine lv_iconst (v := 1) hx hb dX1_mayBe_121 (by decide) ?_
          refine lv_goto (tgt := 126) hx hb dX1_mayBe_122 (by decide) ?_
          subst hq
          exact k_zret (v := 1) (w1 := []) cx (rfl) hP hS dX1_mayBe_126
    replace hq := (if_neg c_1_6).symm.trans hq
    have e0 := lv_neT (a := 0) c_1_0 (by decide)
    have e1 := lv_neT (a := 1) c_1_1 (by decide)
    have e2 := lv_neT (a := 2) c_1_2 (by decide)
    have e3 := lv_neT (a := 3) c_1_3 (by decide)
    have e4 := lv_neT (a := 4) c_1_4 (by decide)
    have e5 := lv_neT (a := 5) c_1_5 (by decide)
    have e6 := lv_neT (a := 6) c_1_6 (by decide)
    refine lv_tableOut (tgt := 127) hx hb dX1_mayBe_1 (by omega) (by decide) ?_
    refine lv_iconst (v := 0) hx hb dX1_mayBe_127 (by decide) ?_
    subst hq
    exact k_zret (v := 0) (w1 := []) cx (rfl) hP hS dX1_mayBe_128
  subst hL
  subst hH
  subst hq
  exact key _ _ hP hD hS
theorem zb_X1_mayBe (what : Int32) (v : Int32) : P_X1_mayBe what v = 0 ∨ P_X1_mayBe what v = 1 := by
  unfold P_X1_mayBe
  repeat' first | with_reducible refine zif ?_ ?_ | with_reducible exact Or.inl rfl | with_reducible exact Or.inr rfl 

/-! X1_change -/
theorem hi_X1_change_1 : ∀ w ∈ u_ws RX1 TX1 16, w ∈ wsX1_change := by decide +kernel
abbrev rm_X1_change : Room := { frames := 0, cells := 0, slots := 0, locals := 0 }
abbrev Q_X1_change (G : gG) (h : Nat) (o : Nat) (g : Nat)   (tgt : (Nat → Int32)) (below : List Frame) (args : Array Value) (s : State) (A : Nat → Prop) : State → Prop := MQ below (qV G [oSt h o g tgt] A) args s 0 0 A
def P_X1_change (f : Nat → Int32) (what : Int32) (v : Int32) : (Nat → Int32) := (if what = 0 then (upd f 0 v) else if what = 1 then (upd f 1 v) else if what = 2 then (upd f 2 v) else if what = 3 then (upd f 3 v) else if what = 4 then (upd f 4 v) else if what = 5 then (upd f 5 v) else (upd f 6 v))
set_option maxHeartbeats 4000000 in
set_option maxRecDepth 100000 in
theorem c_X1_change (l : Launch) (G : gG) (h : Nat) (o : Nat) (g : Nat) (f : Nat → Int32) (what : Int32) (v : Int32)  : kM l G yX1_change wsX1_change rm_X1_change [.ref h, .int what, .int v] [oSt h o g f] (qV G [oSt h o g (P_X1_change f what v)]) := by
  refine k_body (cc := cX1_change) (nL := 3) (ret := none) (by decide) rfl (Nat.le_of_ble_eq_true rfl) ?_
  intro p e s m args below meth c A cx hP hD hS ls hl
  obtain ⟨hx, hb, hml, hown, hts, hr, hlocks, hK, hA⟩ := id cx
  obtain ⟨H, hH⟩ : ∃ H, H = s.heap := ⟨_, rfl⟩
  obtain ⟨locs, hL⟩ : ∃ locs : List Loc, locs = [] := ⟨_, rfl⟩
  obtain ⟨tgt, hq⟩ : ∃ tgt, (P_X1_change f what v) = tgt := ⟨_, rfl⟩
  have hS : va_S A s.heap H locs := by rw [hH, hL]; exact hS
  rw [← hH] at hP
  have hl : lv_has ls 3 [(0, .ref h), (1, .int what), (2, .int v)] := hl
  have key : ∀ (H : Heap) (locs : List Loc), va_P G.1 vwCl [oSt h o g f] H → va_D A [oSt h o g f] → va_S A s.heap H locs → W p l e rm_X1_change s m args below meth c H locs 0 0 (Q_X1_change G h o g tgt below args s A) (F0 m 0 ls []) := by
    clear hP hD hS hH hL
    intro H locs hP hD hS
    unfold P_X1_change at hq
    refine lv_iload_n hx hb dX1_change_0 rfl (lv_at hl 1 rfl) ?_
    by_cases c_1_0 : what = 0
    · replace hq := (if_pos c_1_0).symm.trans hq
      refine lv_tableIn (tgt := 40) (off := 39) hx hb dX1_change_1 (sw_lo c_1_0 (by decide)) (sw_hi c_1_0 (by decide)) (sw_at c_1_0 (by decide)) (by decide) ?_
      refine lv_aload_n hx hb dX1_change_40 rfl (lv_at hl 0 rfl) ?_
      refine lv_iload_n hx hb dX1_change_41 rfl (lv_at hl 2 rfl) ?_
      refine k_put (ws' := [oSt h o g (upd f 0 v)]) (ty := .int) (T := TX1) (C := RX1) (N := 16) cx hi_X1_change_1 tyX1_ok nmX1 hP hD hS 0 rfl rfl 0 (by decide) (by decide +kernel) rfl rfl rfl rfl (Nat.le_of_ble_eq_true rfl) rfl dX1_change_42 (fun H locs hP hD hS => ?_)
      refine lv_goto (tgt := 93) hx hb dX1_change_45 (by decide) ?_
      subst hq
      exact k_vret cx hP hS dX1_change_93
    replace hq := (if_neg c_1_0).symm.trans hq
    by_cases c_1_1 : what = 1
    · replace hq := (if_pos c_1_1).symm.trans hq
      refine lv_tableIn (tgt := 48) (off := 47) hx hb dX1_change_1 (sw_lo c_1_1 (by decide)) (sw_hi c_1_1 (by decide)) (sw_at c_1_1 (by decide)) (by decide) ?_
      refine lv_aload_n hx hb dX1_change_48 rfl (lv_at hl 0 rfl) ?_
      refine lv_iload_n hx hb dX1_change_49 rfl (lv_at hl 2 rfl) ?_
      refine k_put (ws' := [oSt h o g (upd f 1 v)]) (ty := .int) (T := TX1) (C := RX1) (N := 16) cx hi_X1_change_1 tyX1_ok nmX1 hP hD hS 0 rfl rfl 1 (by decide) (by decide +kernel) rfl rfl rfl rfl (Nat.le_of_ble_eq_true rfl) rfl dX1_change_50 (fun H locs hP hD hS => ?_)
      refine lv_goto (tgt := 93) hx hb dX1_change_53 (by decide) ?_
      subst hq
      exact k_vret cx hP hS dX1_change_93
    replace hq := (if_neg c_1_1).symm.trans hq
    by_cases c_1_2 : what = 2
    · replace hq := (if_pos c_1_2).symm.trans hq
      refine lv_tableIn (tgt := 56) (off := 55) hx hb dX1_change_1 (sw_lo c_1_2 (by decide)) (sw_hi c_1_2 (by decide)) (sw_at c_1_2 (by decide)) (by decide) ?_
      refine lv_aload_n hx hb dX1_change_56 rfl (lv_at hl 0 rfl) ?_
      refine lv_iload_n hx hb dX1_change_57 rfl (lv_at hl 2 rfl) ?_
      refine k_put (ws' := [oSt h o g (upd f 2 v)]) (ty := .int) (T := TX1) (C := RX1) (N := 16) cx hi_X1_change_1 tyX1_ok nmX1 hP hD hS 0 rfl rfl 2 (by decide) (by decide +kernel) rfl rfl rfl rfl (Nat.le_of_ble_eq_true rfl) rfl dX1_change_58 (fun H locs hP hD hS => ?_)
      refine lv_goto (tgt := 93) hx hb dX1_change_61 (by decide) ?_
      subst hq
      exact k_vret cx hP hS dX1_change_93
    replace hq := (if_neg c_1_2).symm.trans hq
    by_cases c_1_3 : what = 3
    · replace hq := (if_pos c_1_3).symm.trans hq
      refine lv_tableIn (tgt := 64) (off := 63) hx hb dX1_change_1 (sw_lo c_1_3 (by decide)) (sw_hi c_1_3 (by decide)) (sw_at c_1_3 (by decide)) (by decide) ?_
      refine lv_aload_n hx hb dX1_change_64 rfl (lv_at hl 0 rfl) ?_
      refine lv_iload_n hx hb dX1_change_65 rfl (lv_at hl 2 rfl) ?_
      refine k_put (ws' := [oSt h o g (upd f 3 v)]) (ty := .int) (T := TX1) (C := RX1) (N := 16) cx hi_X1_change_1 tyX1_ok nmX1 hP hD hS 0 rfl rfl 3 (by decide) (by decide +kernel) rfl rfl rfl rfl (Nat.le_of_ble_eq_true rfl) rfl dX1_change_66 (fun H locs hP hD hS => ?_)
      refine lv_goto (tgt := 93) hx hb dX1_change_69 (by decide) ?_
      subst hq
      exact k_vret cx hP hS dX1_change_93
    replace hq := (if_neg c_1_3).symm.trans hq
    by_cases c_1_4 : what = 4
    · replace hq := (if_pos c_1_4).symm.trans hq
      refine lv_tableIn (tgt := 72) (off := 71) hx hb dX1_change_1 (sw_lo c_1_4 (by decide)) (sw_hi c_1_4 (by decide)) (sw_at c_1_4 (by decide)) (by decide) ?_
      refine lv_aload_n hx hb dX1_change_72 rfl (lv_at hl 0 rfl) ?_
      refine lv_iload_n hx hb dX1_change_73 rfl (lv_at hl 2 rfl) ?_
      refine k_put (ws' := [oSt h o g (upd f 4 v)]) (ty := .int) (T := TX1) (C := RX1) (N := 16) cx hi_X1_change_1 tyX1_ok nmX1 hP hD hS 0 rfl rfl 4 (by decide) (by decide +kernel) rfl rfl rfl rfl (Nat.le_of_ble_eq_true rfl) rfl dX1_change_74 (fun H locs hP hD hS => ?_)
      refine lv_goto (tgt := 93) hx hb dX1_change_77 (by decide) ?_
      subst hq
      exact k_vret cx hP hS dX1_change_93
    replace hq := (if_neg c_1_4).symm.trans hq
    by_cases c_1_5 : what = 5
    · replace hq := (if_pos c_1_5).symm.trans hq
      refine lv_tableIn (tgt := 80) (off := 79) hx hb dX1_change_1 (sw_lo c_1_5 (by decide)) (sw_hi c_1_5 (by decide)) (sw_at c_1_5 (by decide)) (by decide) ?_
      refine lv_aload_n hx hb dX1_change_80 rfl (lv_at hl 0 rfl) ?_
      refine lv_iload_n hx hb dX1_change_81 rfl (lv_at hl 2 rfl) ?_
      refine k_put (ws' := [oSt h o g (upd f 5 v)]) (ty := .int) (T := TX1) (C := RX1) (N := 16) cx hi_X1_change_1 tyX1_ok nmX1 hP hD hS 0 rfl rfl 5 (by decide) (by decide +kernel) rfl rfl rfl rfl (Nat.le_of_ble_eq_true rfl) rfl dX1_change_82 (fun H locs hP hD hS => ?_)
      refine lv_goto (tgt := 93) hx hb dX1_change_85 (by decide) ?_
      subst hq
      exact k_vret cx hP hS dX1_change_93
    replace hq := (if_neg c_1_5).symm.trans hq
    have e0 := lv_neT (a := 0) c_1_0 (by decide)
    have e1 := lv_neT (a := 1) c_1_1 (by decide)
    have e2 := lv_neT (a := 2) c_1_2 (by decide)
    have e3 := lv_neT (a := 3) c_1_3 (by decide)
    have e4 := lv_neT (a := 4) c_1_4 (by decide)
    have e5 := lv_neT (a := 5) c_1_5 (by decide)
    refine lv_tableOut (tgt := 88) hx hb dX1_change_1 (by omega) (by decide) ?_
    refine lv_aload_n hx hb dX1_change_88 rfl (lv_at hl 0 rfl) ?_
    refine lv_iload_n hx hb dX1_change_89 rfl (lv_at hl 2 rfl) ?_
    refine k_put (ws' := [oSt h o g (upd f 6 v)]) (ty := .int) (T := TX1) (C := RX1) (N := 16) cx hi_X1_change_1 tyX1_ok nmX1 hP hD hS 0 rfl rfl 6 (by decide) (by decide +kernel) rfl rfl rfl rfl (Nat.le_of_ble_eq_true rfl) rfl dX1_change_90 (fun H locs hP hD hS => ?_)
    subst hq
    exact k_vret cx hP hS dX1_change_93
  subst hL
  subst hH
  subst hq
  exact key _ _ hP hD hS

/-! X1_pressKey -/
theorem hi_X1_pressKey_1 : ∀ w ∈ u_ws RX1 TX1 16, w ∈ wsX1_pressKey := by decide +kernel
abbrev rm_X1_pressKey : Room := { frames := 2, cells := 0, slots := 0, locals := 44 }
abbrev Q_X1_pressKey (G : gG) (h : Nat) (o : Nat) (g : Nat) (k : Nat)  (oh : Nat → Int32) (tgt : Int32 × (Nat → Int32) × (Nat → Int32) × (Nat → Int32)) (below : List Frame) (args : Array Value) (s : State) (A : Nat → Prop) : State → Prop := MQ below (qI G tgt.1 [oSt h o g tgt.2.1, aI G o 6 oh, oLed g k tgt.2.2.1, aI G k 80 tgt.2.2.2] A) args s 0 0 A
def P_X1_pressKey (f : Nat → Int32) (oh : Nat → Int32) (lf : Nat → Int32) (ce : Nat → Int32) (rv : Int32) : Int32 × (Nat → Int32) × (Nat → Int32) × (Nat → Int32) := (let j9 := fun (j9_s0 : Int32) => (let u72 := P_X0_write lf ce (jmax (-500) (jmin 500 ((j9_s0 * (P_X1_deflection f (P_X1_difference f oh (f 2)) (P_X1_denominator f oh (f 2)) (f 4))) + (P_X1_offset f)))) j9_s0 (f 2) (f 8); let j114 := fun (j114_w0 : Nat → Int32) => ((jmax (-500) (jmin 500 ((j9_s0 * (P_X1_deflection f (P_X1_difference f oh (f 2)) (P_X1_denominator f oh (f 2)) (f 4))) + (P_X1_offset f)))), (upd (upd j114_w0 7 (P_X1_warmed (j114_w0 7) (j114_w0 3))) 8 ((j114_w0 8) + 1)), u72.1, u72.2); let j99 := fun (_ : Unit) => (j114 (upd (upd (upd f 10 ((f 10) + 1)) 9 1) 11 ((f 11) + 1))); (if ((j9_s0 * (P_X1_deflection f (P_X1_difference f oh (f 2)) (P_X1_denominator f oh (f 2)) (f 4))) + (P_X1_offset f)) < (-5000) then (j99 ()) else (if ((j9_s0 * (P_X1_deflection f (P_X1_difference f oh (f 2)) (P_X1_denominator f oh (f 2)) (f 4))) + (P_X1_offset f)) ≤ 5000 then (j114 (upd f 10 ((f 10) + 1))) else (j99 ())))); (if rv = 0 then (j9 1) else (j9 (-1))))
set_option maxHeartbeats 4000000 in
set_option maxRecDepth 100000 in
theorem c_X1_pressKey (l : Launch) (G : gG) (h : Nat) (o : Nat) (g : Nat) (k : Nat) (f : Nat → Int32) (oh : Nat → Int32) (lf : Nat → Int32) (ce : Nat → Int32) (rv : Int32)  : kM l G yX1_pressKey wsX1_pressKey rm_X1_pressKey [.ref h, .int rv] [oSt h o g f, aI G o 6 oh, oLed g k lf, aI G k 80 ce] (qI G ((P_X1_pressKey f oh lf ce rv).1) [oSt h o g ((P_X1_pressKey f oh lf ce rv).2.1), aI G o 6 oh, oLed g k ((P_X1_pressKey f oh lf ce rv).2.2.1), aI G k 80 ((P_X1_pressKey f oh lf ce rv).2.2.2)]) := by
  refine k_body (cc := cX1_pressKey) (nL := 5) (ret := (some .int)) (by decide) rfl (Nat.le_of_ble_eq_true rfl) ?_
  intro p e s m args below meth c A cx hP hD hS ls hl
  obtain ⟨hx, hb, hml, hown, hts, hr, hlocks, hK, hA⟩ := id cx
  obtain ⟨H, hH⟩ : ∃ H, H = s.heap := ⟨_, rfl⟩
  obtain ⟨locs, hL⟩ : ∃ locs : List Loc, locs = [] := ⟨_, rfl⟩
  obtain ⟨tgt, hq⟩ : ∃ tgt, (P_X1_pressKey f oh lf ce rv) = tgt := ⟨_, rfl⟩
  have hS : va_S A s.heap H locs := by rw [hH, hL]; exact hS
  rw [← hH] at hP
  have hl : lv_has ls 5 [(0, .ref h), (1, .int rv)] := hl
  have key : ∀ (H : Heap) (locs : List Loc), va_P G.1 vwCl [oSt h o g f, aI G o 6 oh, oLed g k lf, aI G k 80 ce] H → va_D A [oSt h o g f, aI G o 6 oh, oLed g k lf, aI G k 80 ce] → va_S A s.heap H locs → W p l e rm_X1_pressKey s m args below meth c H locs 0 0 (Q_X1_pressKey G h o g k oh tgt below args s A) (F0 m 0 ls []) := by
    clear hP hD hS hH hL
    intro H locs hP hD hS
    unfold P_X1_pressKey at hq
    refine lv_iload_n hx hb dX1_pressKey_0 rfl (lv_at hl 1 rfl) ?_
    have J9 : ∀ (j9_s0 : Int32), (let u72 := P_X0_write lf ce (jmax (-500) (jmin 500 ((j9_s0 * (P_X1_deflection f (P_X1_difference f oh (f 2)) (P_X1_denominator f oh (f 2)) (f 4))) + (P_X1_offset f)))) j9_s0 (f 2) (f 8); let j114 := fun (j114_w0 : Nat → Int32) => ((jmax (-500) (jmin 500 ((j9_s0 * (P_X1_deflection f (P_X1_difference f oh (f 2)) (P_X1_denominator f oh (f 2)) (f 4))) + (P_X1_offset f)))), (upd (upd j114_w0 7 (P_X1_warmed (j114_w0 7) (j114_w0 3))) 8 ((j114_w0 8) + 1)), u72.1, u72.2); let j99 := fun (_ : Unit) => (j114 (upd (upd (upd f 10 ((f 10) + 1)) 9 1) 11 ((f 11) + 1))); (if ((j9_s0 * (P_X1_deflection f (P_X1_difference f oh (f 2)) (P_X1_denominator f oh (f 2)) (f 4))) + (P_X1_offset f)) < (-5000) then (j99 ()) else (if ((j9_s0 * (P_X1_deflection f (P_X1_difference f oh (f 2)) (P_X1_denominator f oh (f 2)) (f 4))) + (P_X1_offset f)) ≤ 5000 then (j114 (upd f 10 ((f 10) + 1))) else (j99 ())))) = tgt → ∀ (H : Heap) (locs : List Loc) (ls : Array Slot), va_P G.1 vwCl [oSt h o g f, aI G o 6 oh, oLed g k lf, aI G k 80 ce] H → va_D A [oSt h o g f, aI G o 6 oh, oLed g k lf, aI G k 80 ce] → va_S A s.heap H locs → lv_has ls 5 [(0, .ref h)] → W p l e rm_X1_pressKey s m args below meth c H locs 0 0 (Q_X1_pressKey G h o g k oh tgt below args s A) (F0 m 9 ls [.int j9_s0]) := by
      intro j9_s0 hq H locs ls hP hD hS hl
      refine lv_istore_n (lv' := [(2, .int j9_s0), (0, .ref h)]) hx hb dX1_pressKey_9 rfl hl (by decide) rfl (fun ls hl => ?_)
      refine lv_iload_n hx hb dX1_pressKey_10 rfl (lv_at hl 0 rfl) ?_
      refine lv_aload_n hx hb dX1_pressKey_11 rfl (lv_at hl 1 rfl) ?_
      refine lv_aload_n hx hb dX1_pressKey_12 rfl (lv_at hl 1 rfl) ?_
      refine lv_aload_n hx hb dX1_pressKey_13 rfl (lv_at hl 1 rfl) ?_
      refine k_get (v := .int (f 2)) (T := TX1) (C := RX1) (N := 16) cx hi_X1_pressKey_1 hP 0 rfl rfl 2 (by decide) (by decide +kernel) rfl dX1_pressKey_14 ?_
      have hC := c_X1_difference l G h o g f oh (f 2)
      refine k_i (ws' := [oSt h o g f, aI G o 6 oh, oLed g k lf, aI G k 80 ce]) (as := [h, o]) cx hP hD hS [0, 1] rfl (kr_V (n := 1) (As := [.int (f 2)]) (ci := 1) cx hC gX1_pressKey_X1_difference rfl rfl rfl (by decide +kernel) ⟨Nat.le_of_ble_eq_true rfl, Nat.le_of_ble_eq_true rfl⟩ rfl rfl rfl hP hD [0, 1] rfl rfl rfl rfl hl (Nat.le_of_ble_eq_true rfl) dX1_pressKey_17 ⟨Nat.le_refl _, Nat.le_refl _⟩) ⟨rfl, rfl⟩ rfl (fun H locs hP hD hS => ?_)
      refine lv_aload_n hx hb dX1_pressKey_20 rfl (lv_at hl 1 rfl) ?_
      refine lv_aload_n hx hb dX1_pressKey_21 rfl (lv_at hl 1 rfl) ?_
      refine k_get (v := .int (f 2)) (T := TX1) (C := RX1) (N := 16) cx hi_X1_pressKey_1 hP 0 rfl rfl 2 (by decide) (by decide +kernel) rfl dX1_pressKey_22 ?_
      have hC := c_X1_denominator l G h o g f oh (f 2)
      refine k_i (ws' := [oSt h o g f, aI G o 6 oh, oLed g k lf, aI G k 80 ce]) (as := [h, o]) cx hP hD hS [0, 1] rfl (kr_V (n := 1) (As := [.int (f 2)]) (ci := 1) cx hC gX1_pressKey_X1_denominator rfl rfl rfl (by decide +kernel) ⟨Nat.le_of_ble_eq_true rfl, Nat.le_of_ble_eq_true rfl⟩ rfl rfl rfl hP hD [0, 1] rfl rfl rfl rfl hl (Nat.le_of_ble_eq_true rfl) dX1_pressKey_25 ⟨Nat.le_refl _, Nat.le_refl _⟩) ⟨rfl, rfl⟩ rfl (fun H locs hP hD hS => ?_)
      refine lv_aload_n hx hb dX1_pressKey_28 rfl (lv_at hl 1 rfl) ?_
      refine k_get (v := .int (f 4)) (T := TX1) (C := RX1) (N := 16) cx hi_X1_pressKey_1 hP 0 rfl rfl 4 (by decide) (by decide +kernel) rfl dX1_pressKey_29 ?_
      have hC := c_X1_deflection l G h o g f (P_X1_difference f oh (f 2)) (P_X1_denominator f oh (f 2)) (f 4)
      refine k_i (ws' := [oSt h o g f, aI G o 6 oh, oLed g k lf, aI G k 80 ce]) (as := [h]) cx hP hD hS [0] rfl (kr_V (n := 3) (As := [.int (P_X1_difference f oh (f 2)), .int (P_X1_denominator f oh (f 2)), .int (f 4)]) (ci := 1) cx hC gX1_pressKey_X1_deflection rfl rfl rfl (by decide +kernel) ⟨Nat.le_of_ble_eq_true rfl, Nat.le_of_ble_eq_true rfl⟩ rfl rfl rfl hP hD [0] rfl rfl rfl rfl hl (Nat.le_of_ble_eq_true rfl) dX1_pressKey_32 ⟨Nat.le_refl _, Nat.le_refl _⟩) ⟨rfl, rfl⟩ rfl (fun H locs hP hD hS => ?_)
      refine lv_imul hx hb dX1_pressKey_35 ?_
      refine lv_aload_n hx hb dX1_pressKey_36 rfl (lv_at hl 1 rfl) ?_
      have hC := c_X1_offset l G h o g f
      refine k_i (ws' := [oSt h o g f, aI G o 6 oh, oLed g k lf, aI G k 80 ce]) (as := [h]) cx hP hD hS [0] rfl (kr_V (n := 0) (As := []) (ci := 1) cx hC gX1_pressKey_X1_offset rfl rfl rfl (by decide +kernel) ⟨Nat.le_of_ble_eq_true rfl, Nat.le_of_ble_eq_true rfl⟩ rfl rfl rfl hP hD [0] rfl rfl rfl rfl hl (Nat.le_of_ble_eq_true rfl) dX1_pressKey_37 ⟨Nat.le_refl _, Nat.le_refl _⟩) ⟨rfl, rfl⟩ rfl (fun H locs hP hD hS => ?_)
      refine lv_iadd hx hb dX1_pressKey_40 ?_
      refine lv_istore_n (lv' := [(3, .int ((j9_s0 * (P_X1_deflection f (P_X1_difference f oh (f 2)) (P_X1_denominator f oh (f 2)) (f 4))) + (P_X1_offset f))), (2, .int j9_s0), (0, .ref h)]) hx hb dX1_pressKey_41 rfl hl (by decide) rfl (fun ls hl => ?_)
      refine lv_sipush (v := (-500)) hx hb dX1_pressKey_42 (by decide) ?_
      refine lv_sipush (v := 500) hx hb dX1_pressKey_45 (by decide) ?_
      refine lv_iload_n hx hb dX1_pressKey_48 rfl (lv_at hl 0 rfl) ?_
      refine k_min cx hl (by decide +kernel) (by decide +kernel) (by decide +kernel) (by decide +kernel) ⟨Nat.le_of_ble_eq_true rfl, Nat.le_of_ble_eq_true rfl, Nat.zero_le _, Nat.zero_le _⟩ dX1_pressKey_49 ?_
      refine k_max cx hl (by decide +kernel) (by decide +kernel) (by decide +kernel) (by decide +kernel) ⟨Nat.le_of_ble_eq_true rfl, Nat.le_of_ble_eq_true rfl, Nat.zero_le _, Nat.zero_le _⟩ dX1_pressKey_52 ?_
      refine lv_istore (lv' := [(4, .int (jmax (-500) (jmin 500 ((j9_s0 * (P_X1_deflection f (P_X1_difference f oh (f 2)) (P_X1_denominator f oh (f 2)) (f 4))) + (P_X1_offset f))))), (3, .int ((j9_s0 * (P_X1_deflection f (P_X1_difference f oh (f 2)) (P_X1_denominator f oh (f 2)) (f 4))) + (P_X1_offset f))), (2, .int j9_s0), (0, .ref h)]) hx hb dX1_pressKey_55 hl (by decide) rfl (fun ls hl => ?_)
      refine lv_aload_n hx hb dX1_pressKey_57 rfl (lv_at hl 3 rfl) ?_
      refine k_get (v := .ref g) (T := TX1) (C := RX1) (N := 16) cx hi_X1_pressKey_1 hP 0 rfl rfl 15 (by decide) (by decide +kernel) rfl dX1_pressKey_58 ?_
      refine lv_iload hx hb dX1_pressKey_61 (lv_at hl 0 rfl) ?_
      refine lv_iload_n hx hb dX1_pressKey_63 rfl (lv_at hl 2 rfl) ?_
      refine lv_aload_n hx hb dX1_pressKey_64 rfl (lv_at hl 3 rfl) ?_
      refine k_get (v := .int (f 2)) (T := TX1) (C := RX1) (N := 16) cx hi_X1_pressKey_1 hP 0 rfl rfl 2 (by decide) (by decide +kernel) rfl dX1_pressKey_65 ?_
      refine lv_aload_n hx hb dX1_pressKey_68 rfl (lv_at hl 3 rfl) ?_
      refine k_get (v := .int (f 8)) (T := TX1) (C := RX1) (N := 16) cx hi_X1_pressKey_1 hP 0 rfl rfl 8 (by decide) (by decide +kernel) rfl dX1_pressKey_69 ?_
      have hC := c_X0_write l G g k lf ce (jmax (-500) (jmin 500 ((j9_s0 * (P_X1_deflection f (P_X1_difference f oh (f 2)) (P_X1_denominator f oh (f 2)) (f 4))) + (P_X1_offset f)))) j9_s0 (f 2) (f 8)
      generalize hu72 : P_X0_write lf ce (jmax (-500) (jmin 500 ((j9_s0 * (P_X1_deflection f (P_X1_difference f oh (f 2)) (P_X1_denominator f oh (f 2)) (f 4))) + (P_X1_offset f)))) j9_s0 (f 2) (f 8) = u72 at hC hq
      refine k_v (ws' := [oSt h o g f, aI G o 6 oh, oLed g k u72.1, aI G k 80 u72.2]) (as := [g, k]) cx hP hD hS [2, 3] rfl (kr_VN (n := 4) (As := [.int (jmax (-500) (jmin 500 ((j9_s0 * (P_X1_deflection f (P_X1_difference f oh (f 2)) (P_X1_denominator f oh (f 2)) (f 4))) + (P_X1_offset f)))), .int j9_s0, .int (f 2), .int (f 8)]) (ci := 0) cx hC gX1_pressKey_X0_write_n129 rfl rfl rfl nn_X1_129 (by decide +kernel) (by decide +kernel) (by decide +kernel) (by decide +kernel) ⟨Nat.le_of_ble_eq_true rfl, Nat.le_of_ble_eq_true rfl⟩ rfl rfl rfl hP hD [2, 3] rfl rfl rfl rfl hl (Nat.le_of_ble_eq_true rfl) dX1_pressKey_72 ⟨Nat.le_refl _, Nat.le_refl _⟩) ⟨rfl, rfl⟩ rfl (fun H locs hP hD hS => ?_)
      refine lv_aload_n hx hb dX1_pressKey_75 rfl (lv_at hl 3 rfl) ?_
      refine lv_dup hx hb dX1_pressKey_76 rfl ?_
      refine k_get (v := .int (f 10)) (T := TX1) (C := RX1) (N := 16) cx hi_X1_pressKey_1 hP 0 rfl rfl 10 (by decide) (by decide +kernel) rfl dX1_pressKey_77 ?_
      refine lv_iconst (v := 1) hx hb dX1_pressKey_80 (by decide) ?_
      refine lv_iadd hx hb dX1_pressKey_81 ?_
      refine k_put (ws' := [oSt h o g (upd f 10 ((f 10) + 1)), aI G o 6 oh, oLed g k u72.1, aI G k 80 u72.2]) (ty := .int) (T := TX1) (C := RX1) (N := 16) cx hi_X1_pressKey_1 tyX1_ok nmX1 hP hD hS 0 rfl rfl 10 (by decide) (by decide +kernel) rfl rfl rfl rfl (Nat.le_of_ble_eq_true rfl) rfl dX1_pressKey_82 (fun H locs hP hD hS => ?_)
      refine lv_iload_n hx hb dX1_pressKey_85 rfl (lv_at hl 1 rfl) ?_
      refine lv_sipush (v := (-5000)) hx hb dX1_pressKey_86 (by decide) ?_
      have J114 : ∀ (j114_w0 : Nat → Int32), ((jmax (-500) (jmin 500 ((j9_s0 * (P_X1_deflection f (P_X1_difference f oh (f 2)) (P_X1_denominator f oh (f 2)) (f 4))) + (P_X1_offset f)))), (upd (upd j114_w0 7 (P_X1_warmed (j114_w0 7) (j114_w0 3))) 8 ((j114_w0 8) + 1)), u72.1, u72.2) = tgt → ∀ (H : Heap) (locs : List Loc) (ls : Array Slot), va_P G.1 vwCl [oSt h o g j114_w0, aI G o 6 oh, oLed g k u72.1, aI G k 80 u72.2] H → va_D A [oSt h o g j114_w0, aI G o 6 oh, oLed g k u72.1, aI G k 80 u72.2] → va_S A s.heap H locs → lv_has ls 5 [(0, .ref h), (4, .int (jmax (-500) (jmin 500 ((j9_s0 * (P_X1_deflection f (P_X1_difference f oh (f 2)) (P_X1_denominator f oh (f 2)) (f 4))) + (P_X1_offset f)))))] → W p l e rm_X1_pressKey s m args below meth c H locs 0 0 (Q_X1_pressKey G h o g k oh tgt below args s A) (F0 m 114 ls []) := by
        intro j114_w0 hq H locs ls hP hD hS hl
        refine lv_aload_n hx hb dX1_pressKey_114 rfl (lv_at hl 0 rfl) ?_
        refine lv_aload_n hx hb dX1_pressKey_115 rfl (lv_at hl 0 rfl) ?_
        refine k_get (v := .int (j114_w0 7)) (T := TX1) (C := RX1) (N := 16) cx hi_X1_pressKey_1 hP 0 rfl rfl 7 (by decide) (by decide +kernel) rfl dX1_pressKey_116 ?_
        refine lv_aload_n hx hb dX1_pressKey_119 rfl (lv_at hl 0 rfl) ?_
        refine k_get (v := .int (j114_w0 3)) (T := TX1) (C := RX1) (N := 16) cx hi_X1_pressKey_1 hP 0 rfl rfl 3 (by decide) (by decide +kernel) rfl dX1_pressKey_120 ?_
        have hC := c_X1_warmed l G (j114_w0 7) (j114_w0 3)
        refine k_i (ws' := [oSt h o g j114_w0, aI G o 6 oh, oLed g k u72.1, aI G k 80 u72.2]) (as := []) cx hP hD hS [] rfl (kr_S (n := 2) (As := [.int (j114_w0 7), .int (j114_w0 3)]) cx hC gX1_pressKey_X1_warmed rfl rfl rfl (by decide +kernel) ⟨Nat.le_of_ble_eq_true rfl, Nat.le_of_ble_eq_true rfl⟩ hP hD [] rfl rfl rfl rfl hl (Nat.le_of_ble_eq_true rfl) dX1_pressKey_123 ⟨Nat.le_refl _, Nat.le_refl _⟩) ⟨rfl, rfl⟩ rfl (fun H locs hP hD hS => ?_)
        refine k_put (ws' := [oSt h o g (upd j114_w0 7 (P_X1_warmed (j114_w0 7) (j114_w0 3))), aI G o 6 oh, oLed g k u72.1, aI G k 80 u72.2]) (ty := .int) (T := TX1) (C := RX1) (N := 16) cx hi_X1_pressKey_1 tyX1_ok nmX1 hP hD hS 0 rfl rfl 7 (by decide) (by decide +kernel) rfl rfl rfl rfl (Nat.le_of_ble_eq_true rfl) rfl dX1_pressKey_126 (fun H locs hP hD hS => ?_)
        refine lv_aload_n hx hb dX1_pressKey_129 rfl (lv_at hl 0 rfl) ?_
        refine lv_dup hx hb dX1_pressKey_130 rfl ?_
        refine k_get (v := .int (j114_w0 8)) (T := TX1) (C := RX1) (N := 16) cx hi_X1_pressKey_1 hP 0 rfl rfl 8 (by decide) (by decide +kernel) rfl dX1_pressKey_131 ?_
        refine lv_iconst (v := 1) hx hb dX1_pressKey_134 (by decide) ?_
        refine lv_iadd hx hb dX1_pressKey_135 ?_
        refine k_put (ws' := [oSt h o g (upd (upd j114_w0 7 (P_X1_warmed (j114_w0 7) (j114_w0 3))) 8 ((j114_w0 8) + 1)), aI G o 6 oh, oLed g k u72.1, aI G k 80 u72.2]) (ty := .int) (T := TX1) (C := RX1) (N := 16) cx hi_X1_pressKey_1 tyX1_ok nmX1 hP hD hS 0 rfl rfl 8 (by decide) (by decide +kernel) rfl rfl rfl rfl (Nat.le_of_ble_eq_true rfl) rfl dX1_pressKey_136 (fun H locs hP hD hS => ?_)
        refine lv_iload hx hb dX1_pressKey_139 (lv_at hl 1 rfl) ?_
        subst hq
        exact k_iret cx hP hS dX1_pressKey_141
      have J99 : ∀ (_ : Unit), (let j114 := fun (j114_w0 : Nat → Int32) => ((jmax (-500) (jmin 500 ((j9_s0 * (P_X1_deflection f (P_X1_difference f oh (f 2)) (P_X1_denominator f oh (f 2)) (f 4))) + (P_X1_offset f)))), (upd (upd j114_w0 7 (P_X1_warmed (j114_w0 7) (j114_w0 3))) 8 ((j114_w0 8) + 1)), u72.1, u72.2); (j114 (upd (upd (upd f 10 ((f 10) + 1)) 9 1) 11 ((f 11) + 1)))) = tgt → ∀ (H : Heap) (locs : List Loc) (ls : Array Slot), va_P G.1 vwCl [oSt h o g (upd f 10 ((f 10) + 1)), aI G o 6 oh, oLed g k u72.1, aI G k 80 u72.2] H → va_D A [oSt h o g (upd f 10 ((f 10) + 1)), aI G o 6 oh, oLed g k u72.1, aI G k 80 u72.2] → va_S A s.heap H locs → lv_has ls 5 [(0, .ref h), (4, .int (jmax (-500) (jmin 500 ((j9_s0 * (P_X1_deflection f (P_X1_difference f oh (f 2)) (P_X1_denominator f oh (f 2)) (f 4))) + (P_X1_offset f)))))] → W p l e rm_X1_pressKey s m args below meth c H locs 0 0 (Q_X1_pressKey G h o g k oh tgt below args s A) (F0 m 99 ls []) := by
        intro _ hq H locs ls hP hD hS hl
        refine lv_aload_n hx hb dX1_pressKey_99 rfl (lv_at hl 0 rfl) ?_
        refine lv_iconst (v := 1) hx hb dX1_pressKey_100 (by decide) ?_
        refine k_put (ws' := [oSt h o g (upd (upd f 10 ((f 10) + 1)) 9 1), aI G o 6 oh, oLed g k u72.1, aI G k 80 u72.2]) (ty := .boolean) (T := TX1) (C := RX1) (N := 16) cx hi_X1_pressKey_1 tyX1_ok nmX1 hP hD hS 0 rfl rfl 9 (by decide) (by decide +kernel) rfl rfl rfl rfl (Nat.le_of_ble_eq_true rfl) rfl dX1_pressKey_101 (fun H locs hP hD hS => ?_)
        refine lv_aload_n hx hb dX1_pressKey_104 rfl (lv_at hl 0 rfl) ?_
        refine lv_dup hx hb dX1_pressKey_105 rfl ?_
        refine k_get (v := .int (f 11)) (T := TX1) (C := RX1) (N := 16) cx hi_X1_pressKey_1 hP 0 rfl rfl 11 (by decide) (by decide +kernel) rfl dX1_pressKey_106 ?_
        refine lv_iconst (v := 1) hx hb dX1_pressKey_109 (by decide) ?_
        refine lv_iadd hx hb dX1_pressKey_110 ?_
        refine k_put (ws' := [oSt h o g (upd (upd (upd f 10 ((f 10) + 1)) 9 1) 11 ((f 11) + 1)), aI G o 6 oh, oLed g k u72.1, aI G k 80 u72.2]) (ty := .int) (T := TX1) (C := RX1) (N := 16) cx hi_X1_pressKey_1 tyX1_ok nmX1 hP hD hS 0 rfl rfl 11 (by decide) (by decide +kernel) rfl rfl rfl rfl (Nat.le_of_ble_eq_true rfl) rfl dX1_pressKey_111 (fun H locs hP hD hS => ?_)
        exact J114 (upd (upd (upd f 10 ((f 10) + 1)) 9 1) 11 ((f 11) + 1)) hq H locs ls hP hD hS (lv_sub hl [0, 1] rfl)
      refine lv_icmp_lt (tgt := 99) hx hb dX1_pressKey_89 (by decide) (fun c_89 => ?_) (fun c_89 => ?_)
      · replace hq := (if_pos c_89).symm.trans hq
        exact J99 () hq H locs ls hP hD hS (lv_sub hl [3, 0] rfl)
      · replace hq := (if_neg c_89).symm.trans hq
        refine lv_iload_n hx hb dX1_pressKey_92 rfl (lv_at hl 1 rfl) ?_
        refine lv_sipush (v := 5000) hx hb dX1_pressKey_93 (by decide) ?_
        refine lv_icmp_le (tgt := 114) hx hb dX1_pressKey_96 (by decide) (fun c_96 => ?_) (fun c_96 => ?_)
        · replace hq := (if_pos c_96).symm.trans hq
          exact J114 (upd f 10 ((f 10) + 1)) hq H locs ls hP hD hS (lv_sub hl [3, 0] rfl)
        · replace hq := (if_neg c_96).symm.trans hq
          exact J99 () hq H locs ls hP hD hS (lv_sub hl [3, 0] rfl)
    refine lv_if_eq (tgt := 8) hx hb dX1_pressKey_1 (by decide) (fun c_1 => ?_) (fun c_1 => ?_)
    · replace hq := (if_pos c_1).symm.trans hq
      refine lv_iconst (v := 1) hx hb dX1_pressKey_8 (by decide) ?_
      exact J9 1 hq H locs ls hP hD hS (lv_sub hl [0] rfl)
    · replace hq := (if_neg c_1).symm.trans hq
      refine lv_iconst (v := (-1)) hx hb dX1_pressKey_4 (by decide) ?_
      refine lv_goto (tgt := 9) hx hb dX1_pressKey_5 (by decide) ?_
      exact J9 (-1) hq H locs ls hP hD hS (lv_sub hl [0] rfl)
  subst hL
  subst hH
  subst hq
  exact key _ _ hP hD hS

/-! X1_pressBothWays -/
theorem hi_X1_pressBothWays_1 : ∀ w ∈ u_ws RX1 TX1 16, w ∈ wsX1_pressBothWays := by decide +kernel
abbrev rm_X1_pressBothWays : Room := { frames := 3, cells := 0, slots := 0, locals := 68 }
abbrev Q_X1_pressBothWays (G : gG) (h : Nat) (o : Nat) (g : Nat) (k : Nat)  (oh : Nat → Int32) (tgt : Int32 × (Nat → Int32) × (Nat → Int32) × (Nat → Int32)) (below : List Frame) (args : Array Value) (s : State) (A : Nat → Prop) : State → Prop := MQ below (qI G tgt.1 [oSt h o g tgt.2.1, aI G o 6 oh, oLed g k tgt.2.2.1, aI G k 80 tgt.2.2.2] A) args s 0 0 A
def P_X1_pressBothWays (f : Nat → Int32) (oh : Nat → Int32) (lf : Nat → Int32) (ce : Nat → Int32) : Int32 × (Nat → Int32) × (Nat → Int32) × (Nat → Int32) := (let u2 := P_X1_pressKey f oh lf ce 0; (if (u2.2.1 9) = 0 then (let u20 := P_X1_pressKey u2.2.1 oh u2.2.2.1 u2.2.2.2 1; ((u2.1 - u20.1), u20.2.1, u20.2.2.1, u20.2.2.2)) else (u2.1, u2.2.1, u2.2.2.1, u2.2.2.2)))
set_option maxHeartbeats 4000000 in
set_option maxRecDepth 100000 in
theorem c_X1_pressBothWays (l : Launch) (G : gG) (h : Nat) (o : Nat) (g : Nat) (k : Nat) (f : Nat → Int32) (oh : Nat → Int32) (lf : Nat → Int32) (ce : Nat → Int32)  : kM l G yX1_pressBothWays wsX1_pressBothWays rm_X1_pressBothWays [.ref h] [oSt h o g f, aI G o 6 oh, oLed g k lf, aI G k 80 ce] (qI G ((P_X1_pressBothWays f oh lf ce).1) [oSt h o g ((P_X1_pressBothWays f oh lf ce).2.1), aI G o 6 oh, oLed g k ((P_X1_pressBothWays f oh lf ce).2.2.1), aI G k 80 ((P_X1_pressBothWays f oh lf ce).2.2.2)]) := by
  refine k_body (cc := cX1_pressBothWays) (nL := 2) (ret := (some .int)) (by decide) rfl (Nat.le_of_ble_eq_true rfl) ?_
  intro p e s m args below meth c A cx hP hD hS ls hl
  obtain ⟨hx, hb, hml, hown, hts, hr, hlocks, hK, hA⟩ := id cx
  obtain ⟨H, hH⟩ : ∃ H, H = s.heap := ⟨_, rfl⟩
  obtain ⟨locs, hL⟩ : ∃ locs : List Loc, locs = [] := ⟨_, rfl⟩
  obtain ⟨tgt, hq⟩ : ∃ tgt, (P_X1_pressBothWays f oh lf ce) = tgt := ⟨_, rfl⟩
  have hS : va_S A s.heap H locs := by rw [hH, hL]; exact hS
  rw [← hH] at hP
  have hl : lv_has ls 2 [(0, .ref h)] := hl
  have key : ∀ (H : Heap) (locs : List Loc), va_P G.1 vwCl [oSt h o g f, aI G o 6 oh, oLed g k lf, aI G k 80 ce] H → va_D A [oSt h o g f, aI G o 6 oh, oLed g k lf, aI G k 80 ce] → va_S A s.heap H locs → W p l e rm_X1_pressBothWays s m args below meth c H locs 0 0 (Q_X1_pressBothWays G h o g k oh tgt below args s A) (F0 m 0 ls []) := by
    clear hP hD hS hH hL
    intro H locs hP hD hS
    unfold P_X1_pressBothWays at hq
    refine lv_aload_n hx hb dX1_pressBothWays_0 rfl (lv_at hl 0 rfl) ?_
    refine lv_iconst (v := 0) hx hb dX1_pressBothWays_1 (by decide) ?_
    have hC := c_X1_pressKey l G h o g k f oh lf ce 0
    generalize hu2 : P_X1_pressKey f oh lf ce 0 = u2 at hC hq
    refine k_i (ws' := [oSt h o g u2.2.1, aI G o 6 oh, oLed g k u2.2.2.1, aI G k 80 u2.2.2.2]) (as := [h, o, g, k]) cx hP hD hS [0, 1, 2, 3] rfl (kr_V (n := 1) (As := [.int 0]) (ci := 1) cx hC gX1_pressBothWays_X1_pressKey rfl rfl rfl (by decide +kernel) ⟨Nat.le_of_ble_eq_true rfl, Nat.le_of_ble_eq_true rfl⟩ rfl rfl rfl hP hD [0, 1, 2, 3] rfl rfl rfl rfl hl (Nat.le_of_ble_eq_true rfl) dX1_pressBothWays_2 ⟨Nat.le_refl _, Nat.le_refl _⟩) ⟨rfl, rfl⟩ rfl (fun H locs hP hD hS => ?_)
    refine lv_istore_n (lv' := [(1, .int u2.1), (0, .ref h)]) hx hb dX1_pressBothWays_5 rfl hl (by decide) rfl (fun ls hl => ?_)
    refine lv_aload_n hx hb dX1_pressBothWays_6 rfl (lv_at hl 1 rfl) ?_
    refine k_get (v := .int (u2.2.1 9)) (T := TX1) (C := RX1) (N := 16) cx hi_X1_pressBothWays_1 hP 0 rfl rfl 9 (by decide) (by decide +kernel) rfl dX1_pressBothWays_7 ?_
    refine lv_if_eq (tgt := 17) hx hb dX1_pressBothWays_10 (by decide) (fun c_10 => ?_) (fun c_10 => ?_)
    · replace hq := (if_pos c_10).symm.trans hq
      refine lv_iload_n hx hb dX1_pressBothWays_17 rfl (lv_at hl 0 rfl) ?_
      refine lv_aload_n hx hb dX1_pressBothWays_18 rfl (lv_at hl 1 rfl) ?_
      refine lv_iconst (v := 1) hx hb dX1_pressBothWays_19 (by decide) ?_
      have hC := c_X1_pressKey l G h o g k u2.2.1 oh u2.2.2.1 u2.2.2.2 1
      generalize hu20 : P_X1_pressKey u2.2.1 oh u2.2.2.1 u2.2.2.2 1 = u20 at hC hq
      refine k_i (ws' := [oSt h o g u20.2.1, aI G o 6 oh, oLed g k u20.2.2.1, aI G k 80 u20.2.2.2]) (as := [h, o, g, k]) cx hP hD hS [0, 1, 2, 3] rfl (kr_V (n := 1) (As := [.int 1]) (ci := 1) cx hC gX1_pressBothWays_X1_pressKey rfl rfl rfl (by decide +kernel) ⟨Nat.le_of_ble_eq_true rfl, Nat.le_of_ble_eq_true rfl⟩ rfl rfl rfl hP hD [0, 1, 2, 3] rfl rfl rfl rfl hl (Nat.le_of_ble_eq_true rfl) dX1_pressBothWays_20 ⟨Nat.le_refl _, Nat.le_refl _⟩) ⟨rfl, rfl⟩ rfl (fun H locs hP hD hS => ?_)
      refine lv_isub hx hb dX1_pressBothWays_23 ?_
      subst hq
      exact k_iret cx hP hS dX1_pressBothWays_24
    · replace hq := (if_neg c_10).symm.trans hq
      refine lv_iload_n hx hb dX1_pressBothWays_13 rfl (lv_at hl 0 rfl) ?_
      refine lv_goto (tgt := 24) hx hb dX1_pressBothWays_14 (by decide) ?_
      subst hq
      exact k_iret cx hP hS dX1_pressBothWays_24
  subst hL
  subst hH
  subst hq
  exact key _ _ hP hD hS

/-! X1_waitTicks -/
theorem hi_X1_waitTicks_1 : ∀ w ∈ u_ws RX1 TX1 16, w ∈ wsX1_waitTicks := by decide +kernel
abbrev rm_X1_waitTicks : Room := { frames := 2, cells := 0, slots := 0, locals := 33 }
abbrev Q_X1_waitTicks (G : gG) (h : Nat) (o : Nat) (g : Nat)   (tgt : (Nat → Int32)) (below : List Frame) (args : Array Value) (s : State) (A : Nat → Prop) : State → Prop := MQ below (qV G [oSt h o g tgt] A) args s 0 0 A
def P_X1_waitTicks_2 (tk : Int32) : Nat → Int32 → (Nat → Int32) → (Nat → Int32)
  | 0, _, _ => (fun _ => 0)
  | n + 1, v2, f => (if tk ≤ v2 then f else (P_X1_waitTicks_2 tk n (v2 + 1) (upd (upd f 7 (P_X1_cooled (f 7))) 8 ((f 8) + 1))))
set_option maxHeartbeats 4000000 in
set_option maxRecDepth 100000 in
theorem b_X1_waitTicks_2 {p : Program} {l : Launch} {e : Env} {s : State} {m : MethodId} {args : Array Value} {below : List Frame} {meth : Method} {c : Code} {G : gG} {A : Nat → Prop} (cx : Cx p s m args meth c cX1_waitTicks 3 yX1_waitTicks.cls wsX1_waitTicks none G A) (h : Nat) (o : Nat) (g : Nat) (tk : Int32)   (tgt : (Nat → Int32)) : ∀ (n : Nat) (v2 : Int32) (f : Nat → Int32) (h0 : ¬ v2 < 0) (hm : ((tk).toInt - (v2 : Int32).toInt).toNat < n) (hq : P_X1_waitTicks_2  tk n v2 f = tgt) (H : Heap) (locs : List Loc) (hP : va_P G.1 vwCl [oSt h o g f] H) (hD : va_D A [oSt h o g f]) (hS : va_S A s.heap H locs) (ls : Array Slot) (hl : lv_has ls 3 [(0, .ref h), (1, .int tk), (2, .int v2)]), W p l e rm_X1_waitTicks s m args below meth c H locs 0 0 (Q_X1_waitTicks G h o g tgt below args s A) (F0 m 2 ls []) := by
  obtain ⟨hx, hb, hml, hown, hts, hr, hlocks, hK, hA⟩ := id cx
  intro n
  induction n with
  | zero => intros; omega
  | succ n ih =>
    intro v2 f h0 hm hq H locs hP hD hS ls hl
    unfold P_X1_waitTicks_2 at hq
    refine lv_iload_n hx hb dX1_waitTicks_2 rfl (lv_at hl 2 rfl) ?_
    refine lv_iload_n hx hb dX1_waitTicks_3 rfl (lv_at hl 1 rfl) ?_
    refine lv_icmp_ge (tgt := 34) hx hb dX1_waitTicks_4 (by decide) (fun c_4 => ?_) (fun c_4 => ?_)
    · replace hq := (if_pos c_4).symm.trans hq
      subst hq
      exact k_vret cx hP hS dX1_waitTicks_34
    · replace hq := (if_neg c_4).symm.trans hq
      refine lv_aload_n hx hb dX1_waitTicks_7 rfl (lv_at hl 0 rfl) ?_
      refine lv_aload_n hx hb dX1_waitTicks_8 rfl (lv_at hl 0 rfl) ?_
      refine k_get (v := .int (f 7)) (T := TX1) (C := RX1) (N := 16) cx hi_X1_waitTicks_1 hP 0 rfl rfl 7 (by decide) (by decide +kernel) rfl dX1_waitTicks_9 ?_
      have hC := c_X1_cooled l G (f 7)
      refine k_i (ws' := [oSt h o g f]) (as := []) cx hP hD hS [] rfl (kr_S (n := 1) (As := [.int (f 7)]) cx hC gX1_waitTicks_X1_cooled rfl rfl rfl (by decide +kernel) ⟨Nat.le_of_ble_eq_true rfl, Nat.le_of_ble_eq_true rfl⟩ hP hD [] rfl rfl rfl rfl hl (Nat.le_of_ble_eq_true rfl) dX1_waitTicks_12 ⟨Nat.le_refl _, Nat.le_refl _⟩) ⟨rfl, rfl⟩ rfl (fun H locs hP hD hS => ?_)
      refine k_put (ws' := [oSt h o g (upd f 7 (P_X1_cooled (f 7)))]) (ty := .int) (T := TX1) (C := RX1) (N := 16) cx hi_X1_waitTicks_1 tyX1_ok nmX1 hP hD hS 0 rfl rfl 7 (by decide) (by decide +kernel) rfl rfl rfl rfl (Nat.le_of_ble_eq_true rfl) rfl dX1_waitTicks_15 (fun H locs hP hD hS => ?_)
      refine lv_aload_n hx hb dX1_waitTicks_18 rfl (lv_at hl 0 rfl) ?_
      refine lv_dup hx hb dX1_waitTicks_19 rfl ?_
      refine k_get (v := .int (f 8)) (T := TX1) (C := RX1) (N := 16) cx hi_X1_waitTicks_1 hP 0 rfl rfl 8 (by decide) (by decide +kernel) rfl dX1_waitTicks_20 ?_
      refine lv_iconst (v := 1) hx hb dX1_waitTicks_23 (by decide) ?_
      refine lv_iadd hx hb dX1_waitTicks_24 ?_
      refine k_put (ws' := [oSt h o g (upd (upd f 7 (P_X1_cooled (f 7))) 8 ((f 8) + 1))]) (ty := .int) (T := TX1) (C := RX1) (N := 16) cx hi_X1_waitTicks_1 tyX1_ok nmX1 hP hD hS 0 rfl rfl 8 (by decide) (by decide +kernel) rfl rfl rfl rfl (Nat.le_of_ble_eq_true rfl) rfl dX1_waitTicks_25 (fun H locs hP hD hS => ?_)
      refine lv_iinc (v := (v2 + 1)) (lv' := [(2, .int (v2 + 1)), (0, .ref h), (1, .int tk)]) hx hb dX1_waitTicks_28 hl (k := 2) rfl rfl (by decide) rfl (fun ls hl => ?_)
      refine lv_goto (tgt := 2) hx hb dX1_waitTicks_31 (by decide) ?_
      exact ih (v2 + 1) (upd (upd f 7 (P_X1_cooled (f 7))) 8 ((f 8) + 1)) (nn_inc h0 (N := tk) (by assumption)) (by have hmd := mu_up (N := tk) (by assumption); omega) hq H locs hP hD hS _ (lv_sub hl [1, 2, 0] rfl)
def P_X1_waitTicks (f : Nat → Int32) (tk : Int32) : (Nat → Int32) := (P_X1_waitTicks_2 tk (((tk).toInt - (0 : Int32).toInt).toNat + 1) 0 f)
set_option maxHeartbeats 4000000 in
set_option maxRecDepth 100000 in
theorem c_X1_waitTicks (l : Launch) (G : gG) (h : Nat) (o : Nat) (g : Nat) (f : Nat → Int32) (tk : Int32)  : kM l G yX1_waitTicks wsX1_waitTicks rm_X1_waitTicks [.ref h, .int tk] [oSt h o g f] (qV G [oSt h o g (P_X1_waitTicks f tk)]) := by
  refine k_body (cc := cX1_waitTicks) (nL := 3) (ret := none) (by decide) rfl (Nat.le_of_ble_eq_true rfl) ?_
  intro p e s m args below meth c A cx hP hD hS ls hl
  obtain ⟨hx, hb, hml, hown, hts, hr, hlocks, hK, hA⟩ := id cx
  obtain ⟨H, hH⟩ : ∃ H, H = s.heap := ⟨_, rfl⟩
  obtain ⟨locs, hL⟩ : ∃ locs : List Loc, locs = [] := ⟨_, rfl⟩
  obtain ⟨tgt, hq⟩ : ∃ tgt, (P_X1_waitTicks f tk) = tgt := ⟨_, rfl⟩
  have hS : va_S A s.heap H locs := by rw [hH, hL]; exact hS
  rw [← hH] at hP
  have hl : lv_has ls 3 [(0, .ref h), (1, .int tk)] := hl
  have key : ∀ (H : Heap) (locs : List Loc), va_P G.1 vwCl [oSt h o g f] H → va_D A [oSt h o g f] → va_S A s.heap H locs → W p l e rm_X1_waitTicks s m args below meth c H locs 0 0 (Q_X1_waitTicks G h o g tgt below args s A) (F0 m 0 ls []) := by
    clear hP hD hS hH hL
    intro H locs hP hD hS
    unfold P_X1_waitTicks at hq
    refine lv_iconst (v := 0) hx hb dX1_waitTicks_0 (by decide) ?_
    refine lv_istore_n (lv' := [(2, .int 0), (0, .ref h), (1, .int tk)]) hx hb dX1_waitTicks_1 rfl hl (by decide) rfl (fun ls hl => ?_)
    exact b_X1_waitTicks_2 cx h o g tk  tgt (((tk).toInt - (0 : Int32).toInt).toNat + 1) 0 f (by decide) (Nat.lt_succ_self _) hq H locs hP hD hS _ (lv_sub hl [1, 2, 0] rfl)
  subst hL
  subst hH
  subst hq
  exact key _ _ hP hD hS

/-! X1_loosen -/
theorem hi_X1_loosen_1 : ∀ w ∈ u_ws RX1 TX1 16, w ∈ wsX1_loosen := by decide +kernel
abbrev rm_X1_loosen : Room := { frames := 3, cells := 0, slots := 0, locals := 55 }
abbrev Q_X1_loosen (G : gG) (h : Nat) (o : Nat) (g : Nat)   (tgt : (Nat → Int32)) (below : List Frame) (args : Array Value) (s : State) (A : Nat → Prop) : State → Prop := MQ below (qV G [oSt h o g tgt] A) args s 0 0 A
def P_X1_loosen (f : Nat → Int32) : (Nat → Int32) := (let u7 := P_X1_waitTicks (upd f 9 0) 5; u7)
set_option maxHeartbeats 4000000 in
set_option maxRecDepth 100000 in
theorem c_X1_loosen (l : Launch) (G : gG) (h : Nat) (o : Nat) (g : Nat) (f : Nat → Int32)  : kM l G yX1_loosen wsX1_loosen rm_X1_loosen [.ref h] [oSt h o g f] (qV G [oSt h o g (P_X1_loosen f)]) := by
  refine k_body (cc := cX1_loosen) (nL := 1) (ret := none) (by decide) rfl (Nat.le_of_ble_eq_true rfl) ?_
  intro p e s m args below meth c A cx hP hD hS ls hl
  obtain ⟨hx, hb, hml, hown, hts, hr, hlocks, hK, hA⟩ := id cx
  obtain ⟨H, hH⟩ : ∃ H, H = s.heap := ⟨_, rfl⟩
  obtain ⟨locs, hL⟩ : ∃ locs : List Loc, locs = [] := ⟨_, rfl⟩
  obtain ⟨tgt, hq⟩ : ∃ tgt, (P_X1_loosen f) = tgt := ⟨_, rfl⟩
  have hS : va_S A s.heap H locs := by rw [hH, hL]; exact hS
  rw [← hH] at hP
  have hl : lv_has ls 1 [(0, .ref h)] := hl
  have key : ∀ (H : Heap) (locs : List Loc), va_P G.1 vwCl [oSt h o g f] H → va_D A [oSt h o g f] → va_S A s.heap H locs → W p l e rm_X1_loosen s m args below meth c H locs 0 0 (Q_X1_loosen G h o g tgt below args s A) (F0 m 0 ls []) := by
    clear hP hD hS hH hL
    intro H locs hP hD hS
    unfold P_X1_loosen at hq
    refine lv_aload_n hx hb dX1_loosen_0 rfl (lv_at hl 0 rfl) ?_
    refine lv_iconst (v := 0) hx hb dX1_loosen_1 (by decide) ?_
    refine k_put (ws' := [oSt h o g (upd f 9 0)]) (ty := .boolean) (T := TX1) (C := RX1) (N := 16) cx hi_X1_loosen_1 tyX1_ok nmX1 hP hD hS 0 rfl rfl 9 (by decide) (by decide +kernel) rfl rfl rfl rfl (Nat.le_of_ble_eq_true rfl) rfl dX1_loosen_2 (fun H locs hP hD hS => ?_)
    refine lv_aload_n hx hb dX1_loosen_5 rfl (lv_at hl 0 rfl) ?_
    refine lv_iconst (v := 5) hx hb dX1_loosen_6 (by decide) ?_
    have hC := c_X1_waitTicks l G h o g (upd f 9 0) 5
    generalize hu7 : P_X1_waitTicks (upd f 9 0) 5 = u7 at hC hq
    refine k_v (ws' := [oSt h o g u7]) (as := [h]) cx hP hD hS [0] rfl (kr_V (n := 1) (As := [.int 5]) (ci := 1) cx hC gX1_loosen_X1_waitTicks rfl rfl rfl (by decide +kernel) ⟨Nat.le_of_ble_eq_true rfl, Nat.le_of_ble_eq_true rfl⟩ rfl rfl rfl hP hD [0] rfl rfl rfl rfl hl (Nat.le_of_ble_eq_true rfl) dX1_loosen_7 ⟨Nat.le_refl _, Nat.le_refl _⟩) ⟨rfl, rfl⟩ rfl (fun H locs hP hD hS => ?_)
    subst hq
    exact k_vret cx hP hS dX1_loosen_10
  subst hL
  subst hH
  subst hq
  exact key _ _ hP hD hS
