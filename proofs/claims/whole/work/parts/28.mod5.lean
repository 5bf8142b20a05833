/-! X4_runScript -/
theorem hi_X4_runScript_4 : ∀ w ∈ u_ws RX4 TX4 11, w ∈ wsX4_runScript := by decide +kernel
abbrev rm_X4_runScript : Room := { frames := 8, cells := 0, slots := 0, locals := 182 }
abbrev Q_X4_runScript (G : gG) (m0 : Nat) (te : Nat) (re : Nat) (no : Nat) (tr : Nat) (di : Nat) (ke : Nat) (ik : Nat)  (pn : Nat → Int32) (tgt : Int32 × (Nat → Int32) × (Nat → Int32)) (below : List Frame) (args : Array Value) (s : State) (A : Nat → Prop) : State → Prop := MQ below (qI G tgt.1 [oMo m0 te re no tr di ke ik tgt.2.1, aI G no 101 pn, aI G tr 101 tgt.2.2] A) args s 0 0 A
def P_X4_runScript_84 (pn : Nat → Int32) (nn : Int32) (sc : Int64) : Nat → Int64 → Int64 → Int32 → (Nat → Int32) → (Nat → Int32) → Int32 × (Nat → Int32) × (Nat → Int32)
  | 0, _, _, _, _, _ => (0, (fun _ => 0), (fun _ => 0))
  | n + 1, v4, v6, v8, mf, pt => (if nn ≤ v8 then ((-9999), mf, pt) else (let u126 := P_X4_does mf pt (((v6 / (v4 / 100000))).toInt32 / 10000) (((v6 / (v4 / 100000))).toInt32 - ((v6 / (v4 / 100000))).toInt32 / 10000 * 10000); (if u126.1 = 0 then (v8, mf, u126.2) else (P_X4_runScript_84 pn nn sc n (v4 / 100000) (v6 - v6 / (v4 / 100000) * (v4 / 100000)) (v8 + 1) mf u126.2))))
set_option maxHeartbeats 4000000 in
set_option maxRecDepth 100000 in
theorem b_X4_runScript_84 {p : Program} {l : Launch} {e : Env} {s : State} {m : MethodId} {args : Array Value} {below : List Frame} {meth : Method} {c : Code} {G : gG} {A : Nat → Prop} (cx : Cx p s m args meth c cX4_runScript 10 yX4_runScript.cls wsX4_runScript (some .int) G A) (m0 : Nat) (te : Nat) (re : Nat) (no : Nat) (tr : Nat) (di : Nat) (ke : Nat) (ik : Nat) (pn : Nat → Int32) (nn : Int32) (sc : Int64) (hpv : PV pn)  (tgt : Int32 × (Nat → Int32) × (Nat → Int32)) : ∀ (n : Nat) (v4 : Int64) (v6 : Int64) (v8 : Int32) (mf : Nat → Int32) (pt : Nat → Int32) (h0 : ¬ v8 < 0) (hpt : PV pt) (hal : AL v4 nn v8) (hle : LL v6 v4) (hm : ((nn).toInt - (v8 : Int32).toInt).toNat < n) (hq : P_X4_runScript_84  pn nn sc n v4 v6 v8 mf pt = tgt) (H : Heap) (locs : List Loc) (hP : va_P G.1 vwCl [oMo m0 te re no tr di ke ik mf, aI G no 101 pn, aI G tr 101 pt] H) (hD : va_D A [oMo m0 te re no tr di ke ik mf, aI G no 101 pn, aI G tr 101 pt]) (hS : va_S A s.heap H locs) (ls : Array Slot) (hl : lv_has ls 10 [(0, .ref m0), (1, .int nn), (4, .long v4), (6, .long v6), (8, .int v8)]), W p l e rm_X4_runScript s m args below meth c H locs 0 0 (Q_X4_runScript G m0 te re no tr di ke ik pn tgt below args s A) (F0 m 84 ls []) := by
  obtain ⟨hx, hb, hml, hown, hts, hr, hlocks, hK, hA⟩ := id cx
  intro n
  induction n with
  | zero => intros; omega
  | succ n ih =>
    intro v4 v6 v8 mf pt h0 hpt hal hle hm hq H locs hP hD hS ls hl
    unfold P_X4_runScript_84 at hq
    refine lv_iload hx hb dX4_runScript_84 (lv_at hl 4 rfl) ?_
    refine lv_iload_n hx hb dX4_runScript_86 rfl (lv_at hl 1 rfl) ?_
    refine lv_icmp_ge (tgt := 141) hx hb dX4_runScript_87 (by decide) (fun c_87 => ?_) (fun c_87 => ?_)
    · replace hq := (if_pos c_87).symm.trans hq
      refine lv_sipush (v := (-9999)) hx hb dX4_runScript_141 (by decide) ?_
      subst hq
      exact k_iret cx hP hS dX4_runScript_144
    · replace hq := (if_neg c_87).symm.trans hq
      refine lv_lload hx hb dX4_runScript_90 (lv_at hl 2 rfl) ?_
      refine k_ldc2 (v := 100000) cx (by decide +kernel) dX4_runScript_92 ?_
      refine lv_ldiv hx hb dX4_runScript_95 (by decide) ?_
      refine lv_lstore (lv' := [(4, .long (v4 / 100000)), (0, .ref m0), (1, .int nn), (6, .long v6), (8, .int v8)]) hx hb dX4_runScript_96 hl (by decide) rfl (fun ls hl => ?_)
      refine lv_lload hx hb dX4_runScript_98 (lv_at hl 3 rfl) ?_
      refine lv_lload hx hb dX4_runScript_100 (lv_at hl 0 rfl) ?_
      refine lv_ldiv hx hb dX4_runScript_102 (al_ne hal c_87) ?_
      refine lv_l2i hx hb dX4_runScript_103 rfl ?_
      refine lv_istore (lv' := [(9, .int ((v6 / (v4 / 100000))).toInt32), (4, .long (v4 / 100000)), (0, .ref m0), (1, .int nn), (6, .long v6), (8, .int v8)]) hx hb dX4_runScript_104 hl (by decide) rfl (fun ls hl => ?_)
      refine lv_lload hx hb dX4_runScript_106 (lv_at hl 4 rfl) ?_
      refine lv_lload hx hb dX4_runScript_108 (lv_at hl 1 rfl) ?_
      refine lv_lrem hx hb dX4_runScript_110 (al_ne hal c_87) ?_
      refine lv_lstore (lv' := [(6, .long (v6 - v6 / (v4 / 100000) * (v4 / 100000))), (9, .int ((v6 / (v4 / 100000))).toInt32), (4, .long (v4 / 100000)), (0, .ref m0), (1, .int nn), (8, .int v8)]) hx hb dX4_runScript_111 hl (by decide) rfl (fun ls hl => ?_)
      refine lv_aload_n hx hb dX4_runScript_113 rfl (lv_at hl 3 rfl) ?_
      refine lv_iload hx hb dX4_runScript_114 (lv_at hl 1 rfl) ?_
      refine lv_sipush (v := 10000) hx hb dX4_runScript_116 (by decide) ?_
      refine lv_idiv hx hb dX4_runScript_119 (by decide) ?_
      refine lv_iload hx hb dX4_runScript_120 (lv_at hl 1 rfl) ?_
      refine lv_sipush (v := 10000) hx hb dX4_runScript_122 (by decide) ?_
      refine lv_irem hx hb dX4_runScript_125 (by decide) ?_
      have hC := c_X4_does l G m0 te re no tr di ke ik mf pt (((v6 / (v4 / 100000))).toInt32 / 10000) (((v6 / (v4 / 100000))).toInt32 - ((v6 / (v4 / 100000))).toInt32 / 10000 * 10000) (hpt)
      generalize hu126 : P_X4_does mf pt (((v6 / (v4 / 100000))).toInt32 / 10000) (((v6 / (v4 / 100000))).toInt32 - ((v6 / (v4 / 100000))).toInt32 / 10000 * 10000) = u126 at hC hq
      refine k_i (ws' := [oMo m0 te re no tr di ke ik mf, aI G no 101 pn, aI G tr 101 u126.2]) (as := [m0, tr]) cx hP hD hS [0, 2] rfl (kr_V (n := 2) (As := [.int (((v6 / (v4 / 100000))).toInt32 / 10000), .int (((v6 / (v4 / 100000))).toInt32 - ((v6 / (v4 / 100000))).toInt32 / 10000 * 10000)]) (ci := 4) cx hC gX4_runScript_X4_does rfl rfl rfl (by decide +kernel) ⟨Nat.le_of_ble_eq_true rfl, Nat.le_of_ble_eq_true rfl⟩ rfl rfl rfl hP hD [0, 2] rfl rfl rfl rfl hl (Nat.le_of_ble_eq_true rfl) dX4_runScript_126 ⟨Nat.le_refl _, Nat.le_refl _⟩) ⟨rfl, rfl⟩ rfl (fun H locs hP hD hS => ?_)
      refine lv_if_ne (tgt := 135) hx hb dX4_runScript_129 (by decide) (fun c_129 => ?_) (fun c_129 => ?_)
      · replace hq := (if_neg c_129).symm.trans hq
        refine lv_iinc (v := (v8 + 1)) (lv' := [(8, .int (v8 + 1)), (6, .long (v6 - v6 / (v4 / 100000) * (v4 / 100000))), (9, .int ((v6 / (v4 / 100000))).toInt32), (4, .long (v4 / 100000)), (0, .ref m0), (1, .int nn)]) hx hb dX4_runScript_135 hl (k := 5) rfl rfl (by decide) rfl (fun ls hl => ?_)
        refine lv_goto (tgt := 84) hx hb dX4_runScript_138 (by decide) ?_
        exact ih (v4 / 100000) (v6 - v6 / (v4 / 100000) * (v4 / 100000)) (v8 + 1) mf u126.2 (nn_inc h0 (N := nn) (by assumption)) (pv_does hu126 hpt (rb_grp hal hle c_87)) (al_s hal c_87 h0) (ll_s hal hle c_87) (by have hmd := mu_up (by assumption); omega) hq H locs hP hD hS _ (lv_sub hl [4, 5, 3, 1, 0] rfl)
      · replace hq := (if_pos c_129).symm.trans hq
        refine lv_iload hx hb dX4_runScript_132 (lv_at hl 5 rfl) ?_
        subst hq
        exact k_iret cx hP hS dX4_runScript_134
def P_X4_runScript (mf : Nat → Int32) (pn : Nat → Int32) (pt : Nat → Int32) (nn : Int32) (sc : Int64) : Int32 × (Nat → Int32) × (Nat → Int32) := (if nn = 1 then (let j56 := fun (j56_4 : Int64) => (0, (upd mf 0 1), pt); (if (P_X4_in ((nn).toInt64) 1 3) = 0 then (j56 100000) else (if (P_X4_in sc 0 (100000 - 1)) = 0 then (j56 100000) else (let u75 := P_X4_copyPage 101 101 pn pt 0 0; (P_X4_runScript_84 pn nn sc (((nn).toInt - (0 : Int32).toInt).toNat + 1) 100000 sc 0 (upd mf 0 0) u75))))) else (if nn = 2 then (let j56 := fun (j56_4 : Int64) => (0, (upd mf 0 1), pt); (if (P_X4_in ((nn).toInt64) 1 3) = 0 then (j56 10000000000) else (if (P_X4_in sc 0 (10000000000 - 1)) = 0 then (j56 10000000000) else (let u75 := P_X4_copyPage 101 101 pn pt 0 0; (P_X4_runScript_84 pn nn sc (((nn).toInt - (0 : Int32).toInt).toNat + 1) 10000000000 sc 0 (upd mf 0 0) u75))))) else (let j56 := fun (j56_4 : Int64) => (0, (upd mf 0 1), pt); (if (P_X4_in ((nn).toInt64) 1 3) = 0 then (j56 1000000000000000) else (if (P_X4_in sc 0 (1000000000000000 - 1)) = 0 then (j56 1000000000000000) else (let u75 := P_X4_copyPage 101 101 pn pt 0 0; (P_X4_runScript_84 pn nn sc (((nn).toInt - (0 : Int32).toInt).toNat + 1) 1000000000000000 sc 0 (upd mf 0 0) u75)))))))
set_option maxHeartbeats 4000000 in
set_option maxRecDepth 100000 in
theorem c_X4_runScript (l : Launch) (G : gG) (m0 : Nat) (te : Nat) (re : Nat) (no : Nat) (tr : Nat) (di : Nat) (ke : Nat) (ik : Nat) (mf : Nat → Int32) (pn : Nat → Int32) (pt : Nat → Int32) (nn : Int32) (sc : Int64) (hpv : PV pn) : kM l G yX4_runScript wsX4_runScript rm_X4_runScript [.ref m0, .int nn, .long sc] [oMo m0 te re no tr di ke ik mf, aI G no 101 pn, aI G tr 101 pt] (qI G ((P_X4_runScript mf pn pt nn sc).1) [oMo m0 te re no tr di ke ik ((P_X4_runScript mf pn pt nn sc).2.1), aI G no 101 pn, aI G tr 101 ((P_X4_runScript mf pn pt nn sc).2.2)]) := by
  refine k_body (cc := cX4_runScript) (nL := 10) (ret := (some .int)) (by decide) rfl (Nat.le_of_ble_eq_true rfl) ?_
  intro p e s m args below meth c A cx hP hD hS ls hl
  obtain ⟨hx, hb, hml, hown, hts, hr, hlocks, hK, hA⟩ := id cx
  obtain ⟨H, hH⟩ : ∃ H, H = s.heap := ⟨_, rfl⟩
  obtain ⟨locs, hL⟩ : ∃ locs : List Loc, locs = [] := ⟨_, rfl⟩
  obtain ⟨tgt, hq⟩ : ∃ tgt, (P_X4_runScript mf pn pt nn sc) = tgt := ⟨_, rfl⟩
  have hS : va_S A s.heap H locs := by rw [hH, hL]; exact hS
  rw [← hH] at hP
  have hl : lv_has ls 10 [(0, .ref m0), (1, .int nn), (2, .long sc)] := hl
  have key : ∀ (H : Heap) (locs : List Loc), va_P G.1 vwCl [oMo m0 te re no tr di ke ik mf, aI G no 101 pn, aI G tr 101 pt] H → va_D A [oMo m0 te re no tr di ke ik mf, aI G no 101 pn, aI G tr 101 pt] → va_S A s.heap H locs → W p l e rm_X4_runScript s m args below meth c H locs 0 0 (Q_X4_runScript G m0 te re no tr di ke ik pn tgt below args s A) (F0 m 0 ls []) := by
    clear hP hD hS hH hL
    intro H locs hP hD hS
    unfold P_X4_runScript at hq
    refine lv_iload_n hx hb dX4_runScript_0 rfl (lv_at hl 1 rfl) ?_
    refine lv_iconst (v := 1) hx hb dX4_runScript_1 (by decide) ?_
    refine lv_icmp_ne (tgt := 11) hx hb dX4_runScript_2 (by decide) (fun c_2 => ?_) (fun c_2 => ?_)
    · replace hq := (if_neg c_2).symm.trans hq
      refine lv_iload_n hx hb dX4_runScript_11 rfl (lv_at hl 1 rfl) ?_
      refine lv_iconst (v := 2) hx hb dX4_runScript_12 (by decide) ?_
      refine lv_icmp_ne (tgt := 22) hx hb dX4_runScript_13 (by decide) (fun c_13 => ?_) (fun c_13 => ?_)
      · replace hq := (if_neg c_13).symm.trans hq
        refine k_ldc2 (v := 1000000000000000) cx (by decide +kernel) dX4_runScript_22 ?_
        refine lv_lstore (lv' := [(4, .long 1000000000000000), (0, .ref m0), (1, .int nn), (2, .long sc)]) hx hb dX4_runScript_25 hl (by decide) rfl (fun ls hl => ?_)
        refine lv_aload_n hx hb dX4_runScript_27 rfl (lv_at hl 1 rfl) ?_
        refine lv_iload_n hx hb dX4_runScript_28 rfl (lv_at hl 2 rfl) ?_
        refine lv_i2l hx hb dX4_runScript_29 rfl ?_
        refine lv_lconst (v := 1) hx hb dX4_runScript_30 (by decide) ?_
        refine k_ldc2 (v := 3) cx (by decide +kernel) dX4_runScript_31 ?_
        have hC := c_X4_in l G ((nn).toInt64) 1 3
        refine k_i (ws' := [oMo m0 te re no tr di ke ik mf, aI G no 101 pn, aI G tr 101 pt]) (as := []) cx hP hD hS [] rfl (kr_S (n := 3) (As := [.long (nn).toInt64, .long 1, .long 3]) cx hC gX4_runScript_X4_in rfl rfl rfl (by decide +kernel) ⟨Nat.le_of_ble_eq_true rfl, Nat.le_of_ble_eq_true rfl⟩ hP hD [] rfl rfl rfl rfl hl (Nat.le_of_ble_eq_true rfl) dX4_runScript_34 ⟨Nat.le_refl _, Nat.le_refl _⟩) ⟨rfl, rfl⟩ rfl (fun H locs hP hD hS => ?_)
        have J56 : ∀ (j56_4 : Int64), (0, (upd mf 0 1), pt) = tgt → ∀ (H : Heap) (locs : List Loc) (ls : Array Slot), va_P G.1 vwCl [oMo m0 te re no tr di ke ik mf, aI G no 101 pn, aI G tr 101 pt] H → va_D A [oMo m0 te re no tr di ke ik mf, aI G no 101 pn, aI G tr 101 pt] → va_S A s.heap H locs → lv_has ls 10 [(0, .ref m0), (1, .int nn), (2, .long sc), (4, .long j56_4)] → W p l e rm_X4_runScript s m args below meth c H locs 0 0 (Q_X4_runScript G m0 te re no tr di ke ik pn tgt below args s A) (F0 m 56 ls [.ref m0]) := by
          intro j56_4 hq H locs ls hP hD hS hl
          refine lv_iconst (v := 1) hx hb dX4_runScript_56 (by decide) ?_
          have hC := c_X4_refused l G m0 te re no tr di ke ik mf 1
          rw [ref_1] at hC
          refine k_i (r := 1) (ws' := [oMo m0 te re no tr di ke ik (upd mf 0 1), aI G no 101 pn, aI G tr 101 pt]) (as := [m0]) cx hP hD hS [0] rfl (kr_V (n := 1) (As := [.int 1]) (ci := 4) cx hC gX4_runScript_X4_refused rfl rfl rfl (by decide +kernel) ⟨Nat.le_of_ble_eq_true rfl, Nat.le_of_ble_eq_true rfl⟩ rfl rfl rfl hP hD [0] rfl rfl rfl rfl hl (Nat.le_of_ble_eq_true rfl) dX4_runScript_57 ⟨Nat.le_refl _, Nat.le_refl _⟩) ⟨rfl, rfl⟩ rfl (fun H locs hP hD hS => ?_)
          refine lv_if_eq (tgt := 65) hx hb dX4_runScript_60 (by decide) (fun cz => absurd cz (by decide)) (fun _ => ?_)
          refine lv_iconst (v := 0) hx hb dX4_runScript_63 (by decide) ?_
          subst hq
          exact k_iret cx hP hS dX4_runScript_64
        refine lv_if_eq (tgt := 56) hx hb dX4_runScript_37 (by decide) (fun c_37 => ?_) (fun c_37 => ?_)
        · replace hq := (if_pos c_37).symm.trans hq
          exact J56 1000000000000000 hq H locs ls hP hD hS (lv_sub hl [1, 2, 3, 0] rfl)
        · replace hq := (if_neg c_37).symm.trans hq
          refine lv_lload_n hx hb dX4_runScript_40 rfl (lv_at hl 3 rfl) ?_
          refine lv_lconst (v := 0) hx hb dX4_runScript_41 (by decide) ?_
          refine lv_lload hx hb dX4_runScript_42 (lv_at hl 0 rfl) ?_
          refine lv_lconst (v := 1) hx hb dX4_runScript_44 (by decide) ?_
          refine lv_lsub hx hb dX4_runScript_45 ?_
          have hC := c_X4_in l G sc 0 (1000000000000000 - 1)
          refine k_i (ws' := [oMo m0 te re no tr di ke ik mf, aI G no 101 pn, aI G tr 101 pt]) (as := []) cx hP hD hS [] rfl (kr_S (n := 3) (As := [.long sc, .long 0, .long (1000000000000000 - 1)]) cx hC gX4_runScript_X4_in rfl rfl rfl (by decide +kernel) ⟨Nat.le_of_ble_eq_true rfl, Nat.le_of_ble_eq_true rfl⟩ hP hD [] rfl rfl rfl rfl hl (Nat.le_of_ble_eq_true rfl) dX4_runScript_46 ⟨Nat.le_refl _, Nat.le_refl _⟩) ⟨rfl, rfl⟩ rfl (fun H locs hP hD hS => ?_)
          refine lv_if_eq (tgt := 56) hx hb dX4_runScript_49 (by decide) (fun c_49 => ?_) (fun c_49 => ?_)
          · replace hq := (if_pos c_49).symm.trans hq
            exact J56 1000000000000000 hq H locs ls hP hD hS (lv_sub hl [1, 2, 3, 0] rfl)
          · replace hq := (if_neg c_49).symm.trans hq
            refine lv_iconst (v := 0) hx hb dX4_runScript_52 (by decide) ?_
            refine lv_goto (tgt := 57) hx hb dX4_runScript_53 (by decide) ?_
            have hC := c_X4_refused l G m0 te re no tr di ke ik mf 0
            rw [ref_0] at hC
            refine k_i (r := 0) (ws' := [oMo m0 te re no tr di ke ik (upd mf 0 0), aI G no 101 pn, aI G tr 101 pt]) (as := [m0]) cx hP hD hS [0] rfl (kr_V (n := 1) (As := [.int 0]) (ci := 4) cx hC gX4_runScript_X4_refused rfl rfl rfl (by decide +kernel) ⟨Nat.le_of_ble_eq_true rfl, Nat.le_of_ble_eq_true rfl⟩ rfl rfl rfl hP hD [0] rfl rfl rfl rfl hl (Nat.le_of_ble_eq_true rfl) dX4_runScript_57 ⟨Nat.le_refl _, Nat.le_refl _⟩) ⟨rfl, rfl⟩ rfl (fun H locs hP hD hS => ?_)
            refine lv_if_eq (tgt := 65) hx hb dX4_runScript_60 (by decide) (fun _ => ?_) (fun cz => absurd (by decide) cz)
            refine lv_aload_n hx hb dX4_runScript_65 rfl (lv_at hl 1 rfl) ?_
            refine k_get (v := .ref no) (T := TX4) (C := RX4) (N := 11) cx hi_X4_runScript_4 hP 0 rfl rfl 5 (by decide) (by decide +kernel) rfl dX4_runScript_66 ?_
            refine lv_iconst (v := 0) hx hb dX4_runScript_69 (by decide) ?_
            refine lv_aload_n hx hb dX4_runScript_70 rfl (lv_at hl 1 rfl) ?_
            refine k_get (v := .ref tr) (T := TX4) (C := RX4) (N := 11) cx hi_X4_runScript_4 hP 0 rfl rfl 6 (by decide) (by decide +kernel) rfl dX4_runScript_71 ?_
            refine lv_iconst (v := 0) hx hb dX4_runScript_74 (by decide) ?_
            have hC := c_X4_copyPage l G no tr 101 101 pn pt 0 0 (by first | exact cp0 | assumption) (by first | exact cp0 | assumption)
            generalize hu75 : P_X4_copyPage 101 101 pn pt 0 0 = u75 at hC hq
            refine k_v (ws' := [oMo m0 te re no tr di ke ik (upd mf 0 0), aI G no 101 pn, aI G tr 101 u75]) (as := [no, tr]) cx hP hD hS [1, 2] rfl (kr_S (n := 4) (As := [.ref no, .int 0, .ref tr, .int 0]) cx hC gX4_runScript_X4_copyPage rfl rfl rfl (by decide +kernel) ⟨Nat.le_of_ble_eq_true rfl, Nat.le_of_ble_eq_true rfl⟩ hP hD [1, 2] rfl rfl rfl rfl hl (Nat.le_of_ble_eq_true rfl) dX4_runScript_75 ⟨Nat.le_refl _, Nat.le_refl _⟩) ⟨rfl, rfl⟩ rfl (fun H locs hP hD hS => ?_)
            refine lv_lload_n hx hb dX4_runScript_78 rfl (lv_at hl 3 rfl) ?_
            refine lv_lstore (lv' := [(6, .long sc), (4, .long 1000000000000000), (0, .ref m0), (1, .int nn), (2, .long sc)]) hx hb dX4_runScript_79 hl (by decide) rfl (fun ls hl => ?_)
            refine lv_iconst (v := 0) hx hb dX4_runScript_81 (by decide) ?_
            refine lv_istore (lv' := [(8, .int 0), (6, .long sc), (4, .long 1000000000000000), (0, .ref m0), (1, .int nn), (2, .long sc)]) hx hb dX4_runScript_82 hl (by decide) rfl (fun ls hl => ?_)
            exact b_X4_runScript_84 cx m0 te re no tr di ke ik pn nn sc hpv tgt (((nn).toInt - (0 : Int32).toInt).toNat + 1) 1000000000000000 sc 0 (upd mf 0 0) u75 (by decide) (pv_copy hu75 hpv) (by first | exact al_1 c_2 | exact al_2 c_13 | exact al_3 c_2 c_13 c_37) (ll_0 c_49 (by decide)) (Nat.lt_succ_self _) hq H locs hP hD hS _ (lv_sub hl [3, 4, 2, 1, 0] rfl)
      · replace hq := (if_pos c_13).symm.trans hq
        refine k_ldc2 (v := 10000000000) cx (by decide +kernel) dX4_runScript_16 ?_
        refine lv_goto (tgt := 25) hx hb dX4_runScript_19 (by decide) ?_
        refine lv_lstore (lv' := [(4, .long 10000000000), (0, .ref m0), (1, .int nn), (2, .long sc)]) hx hb dX4_runScript_25 hl (by decide) rfl (fun ls hl => ?_)
        refine lv_aload_n hx hb dX4_runScript_27 rfl (lv_at hl 1 rfl) ?_
        refine lv_iload_n hx hb dX4_runScript_28 rfl (lv_at hl 2 rfl) ?_
        refine lv_i2l hx hb dX4_runScript_29 rfl ?_
        refine lv_lconst (v := 1) hx hb dX4_runScript_30 (by decide) ?_
        refine k_ldc2 (v := 3) cx (by decide +kernel) dX4_runScript_31 ?_
        have hC := c_X4_in l G ((nn).toInt64) 1 3
        refine k_i (ws' := [oMo m0 te re no tr di ke ik mf, aI G no 101 pn, aI G tr 101 pt]) (as := []) cx hP hD hS [] rfl (kr_S (n := 3) (As := [.long (nn).toInt64, .long 1, .long 3]) cx hC gX4_runScript_X4_in rfl rfl rfl (by decide +kernel) ⟨Nat.le_of_ble_eq_true rfl, Nat.le_of_ble_eq_true rfl⟩ hP hD [] rfl rfl rfl rfl hl (Nat.le_of_ble_eq_true rfl) dX4_runScript_34 ⟨Nat.le_refl _, Nat.le_refl _⟩) ⟨rfl, rfl⟩ rfl (fun H locs hP hD hS => ?_)
        have J56 : ∀ (j56_4 : Int64), (0, (upd mf 0 1), pt) = tgt → ∀ (H : Heap) (locs : List Loc) (ls : Array Slot), va_P G.1 vwCl [oMo m0 te re no tr di ke ik mf, aI G no 101 pn, aI G tr 101 pt] H → va_D A [oMo m0 te re no tr di ke ik mf, aI G no 101 pn, aI G tr 101 pt] → va_S A s.heap H locs → lv_has ls 10 [(0, .ref m0), (1, .int nn), (2, .long sc), (4, .long j56_4)] → W p l e rm_X4_runScript s m args below meth c H locs 0 0 (Q_X4_runScript G m0 te re no tr di ke ik pn tgt below args s A) (F0 m 56 ls [.ref m0]) := by
          intro j56_4 hq H locs ls hP hD hS hl
          refine lv_iconst (v := 1) hx hb dX4_runScript_56 (by decide) ?_
          have hC := c_X4_refused l G m0 te re no tr di ke ik mf 1
          rw [ref_1] at hC
          refine k_i (r := 1) (ws' := [oMo m0 te re no tr di ke ik (upd mf 0 1), aI G no 101 pn, aI G tr 101 pt]) (as := [m0]) cx hP hD hS [0] rfl (kr_V (n := 1) (As := [.int 1]) (ci := 4) cx hC gX4_runScript_X4_refused rfl rfl rfl (by decide +kernel) ⟨Nat.le_of_ble_eq_true rfl, Nat.le_of_ble_eq_true rfl⟩ rfl rfl rfl hP hD [0] rfl rfl rfl rfl hl (Nat.le_of_ble_eq_true rfl) dX4_runScript_57 ⟨Nat.le_refl _, Nat.le_refl _⟩) ⟨rfl, rfl⟩ rfl (fun H locs hP hD hS => ?_)
          refine lv_if_eq (tgt := 65) hx hb dX4_runScript_60 (by decide) (fun cz => absurd cz (by decide)) (fun _ => ?_)
          refine lv_iconst (v := 0) hx hb dX4_runScript_63 (by decide) ?_
          subst hq
          exact k_iret cx hP hS dX4_runScript_64
        refine lv_if_eq (tgt := 56) hx hb dX4_runScript_37 (by decide) (fun c_37 => ?_) (fun c_37 => ?_)
        · replace hq := (if_pos c_37).symm.trans hq
          exact J56 10000000000 hq H locs ls hP hD hS (lv_sub hl [1, 2, 3, 0] rfl)
        · replace hq := (if_neg c_37).symm.trans hq
          refine lv_lload_n hx hb dX4_runScript_40 rfl (lv_at hl 3 rfl) ?_
          refine lv_lconst (v := 0) hx hb dX4_runScript_41 (by decide) ?_
          refine lv_lload hx hb dX4_runScript_42 (lv_at hl 0 rfl) ?_
          refine lv_lconst (v := 1) hx hb dX4_runScript_44 (by decide) ?_
          refine lv_lsub hx hb dX4_runScript_45 ?_
          have hC := c_X4_in l G sc 0 (10000000000 - 1)
          refine k_i (ws' := [oMo m0 te re no tr di ke ik mf, aI G no 101 pn, aI G tr 101 pt]) (as := []) cx hP hD hS [] rfl (kr_S (n := 3) (As := [.long sc, .long 0, .long (10000000000 - 1)]) cx hC gX4_runScript_X4_in rfl rfl rfl (by decide +kernel) ⟨Nat.le_of_ble_eq_true rfl, Nat.le_of_ble_eq_true rfl⟩ hP hD [] rfl rfl rfl rfl hl (Nat.le_of_ble_eq_true rfl) dX4_runScript_46 ⟨Nat.le_refl _, Nat.le_refl _⟩) ⟨rfl, rfl⟩ rfl (fun H locs hP hD hS => ?_)
          refine lv_if_eq (tgt := 56) hx hb dX4_runScript_49 (by decide) (fun c_49 => ?_) (fun c_49 => ?_)
          · replace hq := (if_pos c_49).symm.trans hq
            exact J56 10000000000 hq H locs ls hP hD hS (lv_sub hl [1, 2, 3, 0] rfl)
          · replace hq := (if_neg c_49).symm.trans hq
            refine lv_iconst (v := 0) hx hb dX4_runScript_52 (by decide) ?_
            refine lv_goto (tgt := 57) hx hb dX4_runScript_53 (by decide) ?_
            have hC := c_X4_refused l G m0 te re no tr di ke ik mf 0
            rw [ref_0] at hC
            refine k_i (r := 0) (ws' := [oMo m0 te re no tr di ke ik (upd mf 0 0), aI G no 101 pn, aI G tr 101 pt]) (as := [m0]) cx hP hD hS [0] rfl (kr_V (n := 1) (As := [.int 0]) (ci := 4) cx hC gX4_runScript_X4_refused rfl rfl rfl (by decide +kernel) ⟨Nat.le_of_ble_eq_true rfl, Nat.le_of_ble_eq_true rfl⟩ rfl rfl rfl hP hD [0] rfl rfl rfl rfl hl (Nat.le_of_ble_eq_true rfl) dX4_runScript_57 ⟨Nat.le_refl _, Nat.le_refl _⟩) ⟨rfl, rfl⟩ rfl (fun H locs hP hD hS => ?_)
            refine lv_if_eq (tgt := 65) hx hb dX4_runScript_60 (by decide) (fun _ => ?_) (fun cz => absurd (by decide) cz)
            refine lv_aload_n hx hb dX4_runScript_65 rfl (lv_at hl 1 rfl) ?_
            refine k_get (v := .ref no) (T := TX4) (C := RX4) (N := 11) cx hi_X4_runScript_4 hP 0 rfl rfl 5 (by decide) (by decide +kernel) rfl dX4_runScript_66 ?_
            refine lv_iconst (v := 0) hx hb dX4_runScript_69 (by decide) ?_
            refine lv_aload_n hx hb dX4_runScript_70 rfl (lv_at hl 1 rfl) ?_
            refine k_get (v := .ref tr) (T := TX4) (C := RX4) (N := 11) cx hi_X4_runScript_4 hP 0 rfl rfl 6 (by decide) (by decide +kernel) rfl dX4_runScript_71 ?_
            refine lv_iconst (v := 0) hx hb dX4_runScript_74 (by decide) ?_
            have hC := c_X4_copyPage l G no tr 101 101 pn pt 0 0 (by first | exact cp0 | assumption) (by first | exact cp0 | assumption)
            generalize hu75 : P_X4_copyPage 101 101 pn pt 0 0 = u75 at hC hq
            refine k_v (ws' := [oMo m0 te re no tr di ke ik (upd mf 0 0), aI G no 101 pn, aI G tr 101 u75]) (as := [no, tr]) cx hP hD hS [1, 2] rfl (kr_S (n := 4) (As := [.ref no, .int 0, .ref tr, .int 0]) cx hC gX4_runScript_X4_copyPage rfl rfl rfl (by decide +kernel) ⟨Nat.le_of_ble_eq_true rfl, Nat.le_of_ble_eq_true rfl⟩ hP hD [1, 2] rfl rfl rfl rfl hl (Nat.le_of_ble_eq_true rfl) dX4_runScript_75 ⟨Nat.le_refl _, Nat.le_refl _⟩) ⟨rfl, rfl⟩ rfl (fun H locs hP hD hS => ?_)
            refine lv_lload_n hx hb dX4_runScript_78 rfl (lv_at hl 3 rfl) ?_
            refine lv_lstore (lv' := [(6, .long sc), (4, .long 10000000000), (0, .ref m0), (1, .int nn), (2, .long sc)]) hx hb dX4_runScript_79 hl (by decide) rfl (fun ls hl => ?_)
            refine lv_iconst (v := 0) hx hb dX4_runScript_81 (by decide) ?_
            refine lv_istore (lv' := [(8, .int 0), (6, .long sc), (4, .long 10000000000), (0, .ref m0), (1, .int nn), (2, .long sc)]) hx hb dX4_runScript_82 hl (by decide) rfl (fun ls hl => ?_)
            exact b_X4_runScript_84 cx m0 te re no tr di ke ik pn nn sc hpv tgt (((nn).toInt - (0 : Int32).toInt).toNat + 1) 10000000000 sc 0 (upd mf 0 0) u75 (by decide) (pv_copy hu75 hpv) (by first | exact al_1 c_2 | exact al_2 c_13 | exact al_3 c_2 c_13 c_37) (ll_0 c_49 (by decide)) (Nat.lt_succ_self _) hq H locs hP hD hS _ (lv_sub hl [3, 4, 2, 1, 0] rfl)
    · replace hq := (if_pos c_2).symm.trans hq
      refine k_ldc2 (v := 100000) cx (by decide +kernel) dX4_runScript_5 ?_
      refine lv_goto (tgt := 25) hx hb dX4_runScript_8 (by decide) ?_
      refine lv_lstore (lv' := [(4, .long 100000), (0, .ref m0), (1, .int nn), (2, .long sc)]) hx hb dX4_runScript_25 hl (by decide) rfl (fun ls hl => ?_)
      refine lv_aload_n hx hb dX4_runScript_27 rfl (lv_at hl 1 rfl) ?_
      refine lv_iload_n hx hb dX4_runScript_28 rfl (lv_at hl 2 rfl) ?_
      refine lv_i2l hx hb dX4_runScript_29 rfl ?_
      refine lv_lconst (v := 1) hx hb dX4_runScript_30 (by decide) ?_
      refine k_ldc2 (v := 3) cx (by decide +kernel) dX4_runScript_31 ?_
      have hC := c_X4_in l G ((nn).toInt64) 1 3
      refine k_i (ws' := [oMo m0 te re no tr di ke ik mf, aI G no 101 pn, aI G tr 101 pt]) (as := []) cx hP hD hS [] rfl (kr_S (n := 3) (As := [.long (nn).toInt64, .long 1, .long 3]) cx hC gX4_runScript_X4_in rfl rfl rfl (by decide +kernel) ⟨Nat.le_of_ble_eq_true rfl, Nat.le_of_ble_eq_true rfl⟩ hP hD [] rfl rfl rfl rfl hl (Nat.le_of_ble_eq_true rfl) dX4_runScript_34 ⟨Nat.le_refl _, Nat.le_refl _⟩) ⟨rfl, rfl⟩ rfl (fun H locs hP hD hS => ?_)
      have J56 : ∀ (j56_4 : Int64), (0, (upd mf 0 1), pt) = tgt → ∀ (H : Heap) (locs : List Loc) (ls : Array Slot), va_P G.1 vwCl [oMo m0 te re no tr di ke ik mf, aI G no 101 pn, aI G tr 101 pt] H → va_D A [oMo m0 te re no tr di ke ik mf, aI G no 101 pn, aI G tr 101 pt] → va_S A s.heap H locs → lv_has ls 10 [(0, .ref m0), (1, .int nn), (2, .long sc), (4, .long j56_4)] → W p l e rm_X4_runScript s m args below meth c H locs 0 0 (Q_X4_runScript G m0 te re no tr di ke ik pn tgt below args s A) (F0 m 56 ls [.ref m0]) := by
        intro j56_4 hq H locs ls hP hD hS hl
        refine lv_iconst (v := 1) hx hb dX4_runScript_56 (by decide) ?_
        have hC := c_X4_refused l G m0 te re no tr di ke ik mf 1
        rw [ref_1] at hC
        refine k_i (r := 1) (ws' := [oMo m0 te re no tr di ke ik (upd mf 0 1), aI G no 101 pn, aI G tr 101 pt]) (as := [m0]) cx hP hD hS [0] rfl (kr_V (n := 1) (As := [.int 1]) (ci := 4) cx hC gX4_runScript_X4_refused rfl rfl rfl (by decide +kernel) ⟨Nat.le_of_ble_eq_true rfl, Nat.le_of_ble_eq_true rfl⟩ rfl rfl rfl hP hD [0] rfl rfl rfl rfl hl (Nat.le_of_ble_eq_true rfl) dX4_runScript_57 ⟨Nat.le_refl _, Nat.le_refl _⟩) ⟨rfl, rfl⟩ rfl (fun H locs hP hD hS => ?_)
        refine lv_if_eq (tgt := 65) hx hb dX4_runScript_60 (by decide) (fun cz => absurd cz (by decide)) (fun _ => ?_)
        refine lv_iconst (v := 0) hx hb dX4_runScript_63 (by decide) ?_
        subst hq
        exact k_iret cx hP hS dX4_runScript_64
      refine lv_if_eq (tgt := 56) hx hb dX4_runScript_37 (by decide) (fun c_37 => ?_) (fun c_37 => ?_)
      · replace hq := (if_pos c_37).symm.trans hq
        exact J56 100000 hq H locs ls hP hD hS (lv_sub hl [1, 2, 3, 0] rfl)
      · replace hq := (if_neg c_37).symm.trans hq
        refine lv_lload_n hx hb dX4_runScript_40 rfl (lv_at hl 3 rfl) ?_
        refine lv_lconst (v := 0) hx hb dX4_runScript_41 (by decide) ?_
        refine lv_lload hx hb dX4_runScript_42 (lv_at hl 0 rfl) ?_
        refine lv_lconst (v := 1) hx hb dX4_runScript_44 (by decide) ?_
        refine lv_lsub hx hb dX4_runScript_45 ?_
        have hC := c_X4_in l G sc 0 (100000 - 1)
        refine k_i (ws' := [oMo m0 te re no tr di ke ik mf, aI G no 101 pn, aI G tr 101 pt]) (as := []) cx hP hD hS [] rfl (kr_S (n := 3) (As := [.long sc, .long 0, .long (100000 - 1)]) cx hC gX4_runScript_X4_in rfl rfl rfl (by decide +kernel) ⟨Nat.le_of_ble_eq_true rfl, Nat.le_of_ble_eq_true rfl⟩ hP hD [] rfl rfl rfl rfl hl (Nat.le_of_ble_eq_true rfl) dX4_runScript_46 ⟨Nat.le_refl _, Nat.le_refl _⟩) ⟨rfl, rfl⟩ rfl (fun H locs hP hD hS => ?_)
        refine lv_if_eq (tgt := 56) hx hb dX4_runScript_49 (by decide) (fun c_49 => ?_) (fun c_49 => ?_)
        · replace hq := (if_pos c_49).symm.trans hq
          exact J56 100000 hq H locs ls hP hD hS (lv_sub hl [1, 2, 3, 0] rfl)
        · replace hq := (if_neg c_49).symm.trans hq
          refine lv_iconst (v := 0) hx hb dX4_runScript_52 (by decide) ?_
          refine lv_goto (tgt := 57) hx hb dX4_runScript_53 (by decide) ?_
          have hC := c_X4_refused l G m0 te re no tr di ke ik mf 0
          rw [ref_0] at hC
          refine k_i (r := 0) (ws' := [oMo m0 te re no tr di ke ik (upd mf 0 0), aI G no 101 pn, aI G tr 101 pt]) (as := [m0]) cx hP hD hS [0] rfl (kr_V (n := 1) (As := [.int 0]) (ci := 4) cx hC gX4_runScript_X4_refused rfl rfl rfl (by decide +kernel) ⟨Nat.le_of_ble_eq_true rfl, Nat.le_of_ble_eq_true rfl⟩ rfl rfl rfl hP hD [0] rfl rfl rfl rfl hl (Nat.le_of_ble_eq_true rfl) dX4_runScript_57 ⟨Nat.le_refl _, Nat.le_refl _⟩) ⟨rfl, rfl⟩ rfl (fun H locs hP hD hS => ?_)
          refine lv_if_eq (tgt := 65) hx hb dX4_runScript_60 (by decide) (fun _ => ?_) (fun cz => absurd (by decide) cz)
          refine lv_aload_n hx hb dX4_runScript_65 rfl (lv_at hl 1 rfl) ?_
          refine k_get (v := .ref no) (T := TX4) (C := RX4) (N := 11) cx hi_X4_runScript_4 hP 0 rfl rfl 5 (by decide) (by decide +kernel) rfl dX4_runScript_66 ?_
          refine lv_iconst (v := 0) hx hb dX4_runScript_69 (by decide) ?_
          refine lv_aload_n hx hb dX4_runScript_70 rfl (lv_at hl 1 rfl) ?_
          refine k_get (v := .ref tr) (T := TX4) (C := RX4) (N := 11) cx hi_X4_runScript_4 hP 0 rfl rfl 6 (by decide) (by decide +kernel) rfl dX4_runScript_71 ?_
          refine lv_iconst (v := 0) hx hb dX4_runScript_74 (by decide) ?_
          have hC := c_X4_copyPage l G no tr 101 101 pn pt 0 0 (by first | exact cp0 | assumption) (by first | exact cp0 | assumption)
          generalize hu75 : P_X4_copyPage 101 101 pn pt 0 0 = u75 at hC hq
          refine k_v (ws' := [oMo m0 te re no tr di ke ik (upd mf 0 0), aI G no 101 pn, aI G tr 101 u75]) (as := [no, tr]) cx hP hD hS [1, 2] rfl (kr_S (n := 4) (As := [.ref no, .int 0, .ref tr, .int 0]) cx hC gX4_runScript_X4_copyPage rfl rfl rfl (by decide +kernel) ⟨Nat.le_of_ble_eq_true rfl, Nat.le_of_ble_eq_true rfl⟩ hP hD [1, 2] rfl rfl rfl rfl hl (Nat.le_of_ble_eq_true rfl) dX4_runScript_75 ⟨Nat.le_refl _, Nat.le_refl _⟩) ⟨rfl, rfl⟩ rfl (fun H locs hP hD hS => ?_)
          refine lv_lload_n hx hb dX4_runScript_78 rfl (lv_at hl 3 rfl) ?_
          refine lv_lstore (lv' := [(6, .long sc), (4, .long 100000), (0, .ref m0), (1, .int nn), (2, .long sc)]) hx hb dX4_runScript_79 hl (by decide) rfl (fun ls hl => ?_)
          refine lv_iconst (v := 0) hx hb dX4_runScript_81 (by decide) ?_
          refine lv_istore (lv' := [(8, .int 0), (6, .long sc), (4, .long 100000), (0, .ref m0), (1, .int nn), (2, .long sc)]) hx hb dX4_runScript_82 hl (by decide) rfl (fun ls hl => ?_)
          exact b_X4_runScript_84 cx m0 te re no tr di ke ik pn nn sc hpv tgt (((nn).toInt - (0 : Int32).toInt).toNat + 1) 100000 sc 0 (upd mf 0 0) u75 (by decide) (pv_copy hu75 hpv) (by first | exact al_1 c_2 | exact al_2 c_13 | exact al_3 c_2 c_13 c_37) (ll_0 c_49 (by decide)) (Nat.lt_succ_self _) hq H locs hP hD hS _ (lv_sub hl [3, 4, 2, 1, 0] rfl)
  subst hL
  subst hH
  subst hq
  exact key _ _ hP hD hS

/-! X4_simulate -/
theorem hi_X4_simulate_4 : ∀ w ∈ u_ws RX4 TX4 11, w ∈ wsX4_simulate := by decide +kernel
abbrev rm_X4_simulate : Room := { frames := 5, cells := 0, slots := 0, locals := 113 }
abbrev Q_X4_simulate (G : gG) (m0 : Nat) (te : Nat) (re : Nat) (no : Nat) (tr : Nat) (di : Nat) (ke : Nat) (ik : Nat)  (pn : Nat → Int32) (tgt : Int32 × (Nat → Int32) × (Nat → Int32)) (below : List Frame) (args : Array Value) (s : State) (A : Nat → Prop) : State → Prop := MQ below (qI G tgt.1 [oMo m0 te re no tr di ke ik tgt.2.1, aI G no 101 pn, aI G tr 101 tgt.2.2] A) args s 0 0 A
def P_X4_simulate_48 (pn : Nat → Int32) (sd : Int64) (mm : Int32) : Nat → Int64 → Int32 → Int32 → (Nat → Int32) → (Nat → Int32) → Int32 × (Nat → Int32) × (Nat → Int32)
  | 0, _, _, _, _, _ => (0, (fun _ => 0), (fun _ => 0))
  | n + 1, v4, v6, v7, mf, pt => (if mm ≤ v7 then (v6, mf, pt) else (if ((((((v4 * 6364136223846793005) + 1442695040888963407)).toUInt64 >>> ((33 : Int32).toInt64.toUInt64 &&& Int64.toUInt64 63)).toInt64).toInt32 - (((((v4 * 6364136223846793005) + 1442695040888963407)).toUInt64 >>> ((33 : Int32).toInt64.toUInt64 &&& Int64.toUInt64 63)).toInt64).toInt32 / 4 * 4) = 0 then (P_X4_simulate_48 pn sd mm n ((v4 * 6364136223846793005) + 1442695040888963407) v6 (v7 + 1) mf (upd pt 2 (((((((v4 * 6364136223846793005) + 1442695040888963407)).toUInt64 >>> ((33 : Int32).toInt64.toUInt64 &&& Int64.toUInt64 63)).toInt64).toInt32 / 4) - ((((((v4 * 6364136223846793005) + 1442695040888963407)).toUInt64 >>> ((33 : Int32).toInt64.toUInt64 &&& Int64.toUInt64 63)).toInt64).toInt32 / 4) / 10000 * 10000))) else (if ((((((v4 * 6364136223846793005) + 1442695040888963407)).toUInt64 >>> ((33 : Int32).toInt64.toUInt64 &&& Int64.toUInt64 63)).toInt64).toInt32 - (((((v4 * 6364136223846793005) + 1442695040888963407)).toUInt64 >>> ((33 : Int32).toInt64.toUInt64 &&& Int64.toUInt64 63)).toInt64).toInt32 / 4 * 4) = 1 then (let u111 := P_X4_waitOn pt 1; (P_X4_simulate_48 pn sd mm n ((v4 * 6364136223846793005) + 1442695040888963407) v6 (v7 + 1) mf u111)) else (if (pt 11) = 1 then (let u132 := P_X4_freeOn pt; (P_X4_simulate_48 pn sd mm n ((v4 * 6364136223846793005) + 1442695040888963407) v6 (v7 + 1) mf u132)) else (let j159 := fun (j159_s0 : Int32) => (let u159 := P_X4_pressOn pt j159_s0; (P_X4_simulate_48 pn sd mm n ((v4 * 6364136223846793005) + 1442695040888963407) (v6 + u159.1) (v7 + 1) mf u159.2)); (if (((((((v4 * 6364136223846793005) + 1442695040888963407)).toUInt64 >>> ((33 : Int32).toInt64.toUInt64 &&& Int64.toUInt64 63)).toInt64).toInt32 / 4) - ((((((v4 * 6364136223846793005) + 1442695040888963407)).toUInt64 >>> ((33 : Int32).toInt64.toUInt64 &&& Int64.toUInt64 63)).toInt64).toInt32 / 4) / 2 * 2) = 1 then (j159 1) else (j159 0)))))))
set_option maxHeartbeats 4000000 in
set_option maxRecDepth 100000 in
theorem b_X4_simulate_48 {p : Program} {l : Launch} {e : Env} {s : State} {m : MethodId} {args : Array Value} {below : List Frame} {meth : Method} {c : Code} {G : gG} {A : Nat → Prop} (cx : Cx p s m args meth c cX4_simulate 9 yX4_simulate.cls wsX4_simulate (some .int) G A) (m0 : Nat) (te : Nat) (re : Nat) (no : Nat) (tr : Nat) (di : Nat) (ke : Nat) (ik : Nat) (pn : Nat → Int32) (sd : Int64) (mm : Int32) (hpv : PV pn)  (tgt : Int32 × (Nat → Int32) × (Nat → Int32)) : ∀ (n : Nat) (v4 : Int64) (v6 : Int32) (v7 : Int32) (mf : Nat → Int32) (pt : Nat → Int32) (hpt : PV pt) (hm : ((mm).toInt - (v7 : Int32).toInt).toNat < n) (hq : P_X4_simulate_48  pn sd mm n v4 v6 v7 mf pt = tgt) (H : Heap) (locs : List Loc) (hP : va_P G.1 vwCl [oMo m0 te re no tr di ke ik mf, aI G no 101 pn, aI G tr 101 pt] H) (hD : va_D A [oMo m0 te re no tr di ke ik mf, aI G no 101 pn, aI G tr 101 pt]) (hS : va_S A s.heap H locs) (ls : Array Slot) (hl : lv_has ls 9 [(0, .ref m0), (3, .int mm), (4, .long v4), (6, .int v6), (7, .int v7)]), W p l e rm_X4_simulate s m args below meth c H locs 0 0 (Q_X4_simulate G m0 te re no tr di ke ik pn tgt below args s A) (F0 m 48 ls []) := by
  obtain ⟨hx, hb, hml, hown, hts, hr, hlocks, hK, hA⟩ := id cx
  intro n
  induction n with
  | zero => intros; omega
  | succ n ih =>
    intro v4 v6 v7 mf pt hpt hm hq H locs hP hD hS ls hl
    unfold P_X4_simulate_48 at hq
    refine lv_iload hx hb dX4_simulate_48 (lv_at hl 4 rfl) ?_
    refine lv_iload_n hx hb dX4_simulate_50 rfl (lv_at hl 1 rfl) ?_
    refine lv_icmp_ge (tgt := 171) hx hb dX4_simulate_51 (by decide) (fun c_51 => ?_) (fun c_51 => ?_)
    · replace hq := (if_pos c_51).symm.trans hq
      refine lv_iload hx hb dX4_simulate_171 (lv_at hl 3 rfl) ?_
      subst hq
      exact k_iret cx hP hS dX4_simulate_173
    · replace hq := (if_neg c_51).symm.trans hq
      refine lv_lload hx hb dX4_simulate_54 (lv_at hl 2 rfl) ?_
      refine k_ldc2 (v := 6364136223846793005) cx (by decide +kernel) dX4_simulate_56 ?_
      refine lv_lmul hx hb dX4_simulate_59 ?_
      refine k_ldc2 (v := 1442695040888963407) cx (by decide +kernel) dX4_simulate_60 ?_
      refine lv_ladd hx hb dX4_simulate_63 ?_
      refine lv_lstore (lv' := [(4, .long ((v4 * 6364136223846793005) + 1442695040888963407)), (0, .ref m0), (3, .int mm), (6, .int v6), (7, .int v7)]) hx hb dX4_simulate_64 hl (by decide) rfl (fun ls hl => ?_)
      refine lv_lload hx hb dX4_simulate_66 (lv_at hl 0 rfl) ?_
      refine lv_bipush (v := 33) hx hb dX4_simulate_68 (by decide) ?_
      refine lv_lushr hx hb dX4_simulate_70 rfl ?_
      refine lv_l2i hx hb dX4_simulate_71 rfl ?_
      refine lv_istore (lv' := [(8, .int (((((v4 * 6364136223846793005) + 1442695040888963407)).toUInt64 >>> ((33 : Int32).toInt64.toUInt64 &&& Int64.toUInt64 63)).toInt64).toInt32), (4, .long ((v4 * 6364136223846793005) + 1442695040888963407)), (0, .ref m0), (3, .int mm), (6, .int v6), (7, .int v7)]) hx hb dX4_simulate_72 hl (by decide) rfl (fun ls hl => ?_)
      refine lv_iload hx hb dX4_simulate_74 (lv_at hl 0 rfl) ?_
      refine lv_iconst (v := 4) hx hb dX4_simulate_76 (by decide) ?_
      refine lv_irem hx hb dX4_simulate_77 (by decide) ?_
      refine lv_if_ne (tgt := 98) hx hb dX4_simulate_78 (by decide) (fun c_78 => ?_) (fun c_78 => ?_)
      · replace hq := (if_neg c_78).symm.trans hq
        refine lv_iload hx hb dX4_simulate_98 (lv_at hl 0 rfl) ?_
        refine lv_iconst (v := 4) hx hb dX4_simulate_100 (by decide) ?_
        refine lv_irem hx hb dX4_simulate_101 (by decide) ?_
        refine lv_iconst (v := 1) hx hb dX4_simulate_102 (by decide) ?_
        refine lv_icmp_ne (tgt := 117) hx hb dX4_simulate_103 (by decide) (fun c_103 => ?_) (fun c_103 => ?_)
        · replace hq := (if_neg c_103).symm.trans hq
          refine lv_aload_n hx hb dX4_simulate_117 rfl (lv_at hl 2 rfl) ?_
          refine k_get (v := .ref tr) (T := TX4) (C := RX4) (N := 11) cx hi_X4_simulate_4 hP 0 rfl rfl 6 (by decide) (by decide +kernel) rfl dX4_simulate_118 ?_
          refine lv_bipush (v := 11) hx hb dX4_simulate_121 (by decide) ?_
          refine k_iald (j := 11) cx hP 2 rfl (by decide) (by unfold vp_in; decide) dX4_simulate_123 ?_
          refine lv_iconst (v := 1) hx hb dX4_simulate_124 (by decide) ?_
          refine lv_icmp_ne (tgt := 138) hx hb dX4_simulate_125 (by decide) (fun c_125 => ?_) (fun c_125 => ?_)
          · replace hq := (if_neg c_125).symm.trans hq
            refine lv_iload hx hb dX4_simulate_138 (lv_at hl 4 rfl) ?_
            refine lv_aload_n hx hb dX4_simulate_140 rfl (lv_at hl 2 rfl) ?_
            refine k_get (v := .ref tr) (T := TX4) (C := RX4) (N := 11) cx hi_X4_simulate_4 hP 0 rfl rfl 6 (by decide) (by decide +kernel) rfl dX4_simulate_141 ?_
            refine lv_iload hx hb dX4_simulate_144 (lv_at hl 0 rfl) ?_
            refine lv_iconst (v := 4) hx hb dX4_simulate_146 (by decide) ?_
            refine lv_idiv hx hb dX4_simulate_147 (by decide) ?_
            refine lv_iconst (v := 2) hx hb dX4_simulate_148 (by decide) ?_
            refine lv_irem hx hb dX4_simulate_149 (by decide) ?_
            refine lv_iconst (v := 1) hx hb dX4_simulate_150 (by decide) ?_
            have J159 : ∀ (j159_s0 : Int32), (let u159 := P_X4_pressOn pt j159_s0; (P_X4_simulate_48 pn sd mm n ((v4 * 6364136223846793005) + 1442695040888963407) (v6 + u159.1) (v7 + 1) mf u159.2)) = tgt → ∀ (H : Heap) (locs : List Loc) (ls : Array Slot), va_P G.1 vwCl [oMo m0 te re no tr di ke ik mf, aI G no 101 pn, aI G tr 101 pt] H → va_D A [oMo m0 te re no tr di ke ik mf, aI G no 101 pn, aI G tr 101 pt] → va_S A s.heap H locs → lv_has ls 9 [(0, .ref m0), (3, .int mm), (4, .long ((v4 * 6364136223846793005) + 1442695040888963407)), (7, .int v7)] → W p l e rm_X4_simulate s m args below meth c H locs 0 0 (Q_X4_simulate G m0 te re no tr di ke ik pn tgt below args s A) (F0 m 159 ls [.int j159_s0, .ref tr, .int v6]) := by
              intro j159_s0 hq H locs ls hP hD hS hl
              have hC := c_X4_pressOn l G tr pt j159_s0 (hpt)
              replace hq := k_let hq
              generalize hu159 : P_X4_pressOn pt j159_s0 = u159 at hC hq
              refine k_i (ws' := [oMo m0 te re no tr di ke ik mf, aI G no 101 pn, aI G tr 101 u159.2]) (as := [tr]) cx hP hD hS [2] rfl (kr_S (n := 2) (As := [.ref tr, .int j159_s0]) cx hC gX4_simulate_X4_pressOn rfl rfl rfl (by decide +kernel) ⟨Nat.le_of_ble_eq_true rfl, Nat.le_of_ble_eq_true rfl⟩ hP hD [2] rfl rfl rfl rfl hl (Nat.le_of_ble_eq_true rfl) dX4_simulate_159 ⟨Nat.le_refl _, Nat.le_refl _⟩) ⟨rfl, rfl⟩ rfl (fun H locs hP hD hS => ?_)
              refine lv_iadd hx hb dX4_simulate_162 ?_
              refine lv_istore (lv' := [(6, .int (v6 + u159.1)), (0, .ref m0), (3, .int mm), (4, .long ((v4 * 6364136223846793005) + 1442695040888963407)), (7, .int v7)]) hx hb dX4_simulate_163 hl (by decide) rfl (fun ls hl => ?_)
              refine lv_iinc (v := (v7 + 1)) (lv' := [(7, .int (v7 + 1)), (6, .int (v6 + u159.1)), (0, .ref m0), (3, .int mm), (4, .long ((v4 * 6364136223846793005) + 1442695040888963407))]) hx hb dX4_simulate_165 hl (k := 4) rfl rfl (by decide) rfl (fun ls hl => ?_)
              refine lv_goto (tgt := 48) hx hb dX4_simulate_168 (by decide) ?_
              exact ih ((v4 * 6364136223846793005) + 1442695040888963407) (v6 + u159.1) (v7 + 1) mf u159.2 (by first | exact pv_up2 hpt (rb_r _) | exact pv_wait hu111 hpt | exact pv_free hu132 hpt | exact pv_press hu159 hpt) (by have hmd := mu_up (by assumption); omega) hq H locs hP hD hS _ (lv_sub hl [2, 3, 4, 1, 0] rfl)
            refine lv_icmp_ne (tgt := 158) hx hb dX4_simulate_151 (by decide) (fun c_151 => ?_) (fun c_151 => ?_)
            · replace hq := (if_neg c_151).symm.trans hq
              refine lv_iconst (v := 0) hx hb dX4_simulate_158 (by decide) ?_
              exact J159 0 hq H locs ls hP hD hS (lv_sub hl [2, 3, 1, 5] rfl)
            · replace hq := (if_pos c_151).symm.trans hq
              refine lv_iconst (v := 1) hx hb dX4_simulate_154 (by decide) ?_
              refine lv_goto (tgt := 159) hx hb dX4_simulate_155 (by decide) ?_
              exact J159 1 hq H locs ls hP hD hS (lv_sub hl [2, 3, 1, 5] rfl)
          · replace hq := (if_pos c_125).symm.trans hq
            refine lv_aload_n hx hb dX4_simulate_128 rfl (lv_at hl 2 rfl) ?_
            refine k_get (v := .ref tr) (T := TX4) (C := RX4) (N := 11) cx hi_X4_simulate_4 hP 0 rfl rfl 6 (by decide) (by decide +kernel) rfl dX4_simulate_129 ?_
            have hC := c_X4_freeOn l G tr pt
            generalize hu132 : P_X4_freeOn pt = u132 at hC hq
            refine k_v (ws' := [oMo m0 te re no tr di ke ik mf, aI G no 101 pn, aI G tr 101 u132]) (as := [tr]) cx hP hD hS [2] rfl (kr_S (n := 1) (As := [.ref tr]) cx hC gX4_simulate_X4_freeOn rfl rfl rfl (by decide +kernel) ⟨Nat.le_of_ble_eq_true rfl, Nat.le_of_ble_eq_true rfl⟩ hP hD [2] rfl rfl rfl rfl hl (Nat.le_of_ble_eq_true rfl) dX4_simulate_132 ⟨Nat.le_refl _, Nat.le_refl _⟩) ⟨rfl, rfl⟩ rfl (fun H locs hP hD hS => ?_)
            refine lv_goto (tgt := 165) hx hb dX4_simulate_135 (by decide) ?_
            refine lv_iinc (v := (v7 + 1)) (lv' := [(7, .int (v7 + 1)), (8, .int (((((v4 * 6364136223846793005) + 1442695040888963407)).toUInt64 >>> ((33 : Int32).toInt64.toUInt64 &&& Int64.toUInt64 63)).toInt64).toInt32), (4, .long ((v4 * 6364136223846793005) + 1442695040888963407)), (0, .ref m0), (3, .int mm), (6, .int v6)]) hx hb dX4_simulate_165 hl (k := 5) rfl rfl (by decide) rfl (fun ls hl => ?_)
            refine lv_goto (tgt := 48) hx hb dX4_simulate_168 (by decide) ?_
            exact ih ((v4 * 6364136223846793005) + 1442695040888963407) v6 (v7 + 1) mf u132 (by first | exact pv_up2 hpt (rb_r _) | exact pv_wait hu111 hpt | exact pv_free hu132 hpt | exact pv_press hu159 hpt) (by have hmd := mu_up (by assumption); omega) hq H locs hP hD hS _ (lv_sub hl [3, 4, 2, 5, 0] rfl)
        · replace hq := (if_pos c_103).symm.trans hq
          refine lv_aload_n hx hb dX4_simulate_106 rfl (lv_at hl 2 rfl) ?_
          refine k_get (v := .ref tr) (T := TX4) (C := RX4) (N := 11) cx hi_X4_simulate_4 hP 0 rfl rfl 6 (by decide) (by decide +kernel) rfl dX4_simulate_107 ?_
          refine lv_iconst (v := 1) hx hb dX4_simulate_110 (by decide) ?_
          have hC := c_X4_waitOn l G tr pt 1
          generalize hu111 : P_X4_waitOn pt 1 = u111 at hC hq
          refine k_v (ws' := [oMo m0 te re no tr di ke ik mf, aI G no 101 pn, aI G tr 101 u111]) (as := [tr]) cx hP hD hS [2] rfl (kr_S (n := 2) (As := [.ref tr, .int 1]) cx hC gX4_simulate_X4_waitOn rfl rfl rfl (by decide +kernel) ⟨Nat.le_of_ble_eq_true rfl, Nat.le_of_ble_eq_true rfl⟩ hP hD [2] rfl rfl rfl rfl hl (Nat.le_of_ble_eq_true rfl) dX4_simulate_111 ⟨Nat.le_refl _, Nat.le_refl _⟩) ⟨rfl, rfl⟩ rfl (fun H locs hP hD hS => ?_)
          refine lv_goto (tgt := 165) hx hb dX4_simulate_114 (by decide) ?_
          refine lv_iinc (v := (v7 + 1)) (lv' := [(7, .int (v7 + 1)), (8, .int (((((v4 * 6364136223846793005) + 1442695040888963407)).toUInt64 >>> ((33 : Int32).toInt64.toUInt64 &&& Int64.toUInt64 63)).toInt64).toInt32), (4, .long ((v4 * 6364136223846793005) + 1442695040888963407)), (0, .ref m0), (3, .int mm), (6, .int v6)]) hx hb dX4_simulate_165 hl (k := 5) rfl rfl (by decide) rfl (fun ls hl => ?_)
          refine lv_goto (tgt := 48) hx hb dX4_simulate_168 (by decide) ?_
          exact ih ((v4 * 6364136223846793005) + 1442695040888963407) v6 (v7 + 1) mf u111 (by first | exact pv_up2 hpt (rb_r _) | exact pv_wait hu111 hpt | exact pv_free hu132 hpt | exact pv_press hu159 hpt) (by have hmd := mu_up (by assumption); omega) hq H locs hP hD hS _ (lv_sub hl [3, 4, 2, 5, 0] rfl)
      · replace hq := (if_pos c_78).symm.trans hq
        refine lv_aload_n hx hb dX4_simulate_81 rfl (lv_at hl 2 rfl) ?_
        refine k_get (v := .ref tr) (T := TX4) (C := RX4) (N := 11) cx hi_X4_simulate_4 hP 0 rfl rfl 6 (by decide) (by decide +kernel) rfl dX4_simulate_82 ?_
        refine lv_iconst (v := 2) hx hb dX4_simulate_85 (by decide) ?_
        refine lv_iload hx hb dX4_simulate_86 (lv_at hl 0 rfl) ?_
        refine lv_iconst (v := 4) hx hb dX4_simulate_88 (by decide) ?_
        refine lv_idiv hx hb dX4_simulate_89 (by decide) ?_
        refine lv_sipush (v := 10000) hx hb dX4_simulate_90 (by decide) ?_
        refine lv_irem hx hb dX4_simulate_93 (by decide) ?_
        refine k_iast (ws' := [oMo m0 te re no tr di ke ik mf, aI G no 101 pn, aI G tr 101 (upd pt 2 (((((((v4 * 6364136223846793005) + 1442695040888963407)).toUInt64 >>> ((33 : Int32).toInt64.toUInt64 &&& Int64.toUInt64 63)).toInt64).toInt32 / 4) - ((((((v4 * 6364136223846793005) + 1442695040888963407)).toUInt64 >>> ((33 : Int32).toInt64.toUInt64 &&& Int64.toUInt64 63)).toInt64).toInt32 / 4) / 10000 * 10000))]) (j := 2) cx hP hD hS 2 rfl (by decide) (by unfold vp_in; decide) rfl dX4_simulate_94 (fun H locs hP hD hS => ?_)
        refine lv_goto (tgt := 165) hx hb dX4_simulate_95 (by decide) ?_
        refine lv_iinc (v := (v7 + 1)) (lv' := [(7, .int (v7 + 1)), (8, .int (((((v4 * 6364136223846793005) + 1442695040888963407)).toUInt64 >>> ((33 : Int32).toInt64.toUInt64 &&& Int64.toUInt64 63)).toInt64).toInt32), (4, .long ((v4 * 6364136223846793005) + 1442695040888963407)), (0, .ref m0), (3, .int mm), (6, .int v6)]) hx hb dX4_simulate_165 hl (k := 5) rfl rfl (by decide) rfl (fun ls hl => ?_)
        refine lv_goto (tgt := 48) hx hb dX4_simulate_168 (by decide) ?_
        exact ih ((v4 * 6364136223846793005) + 1442695040888963407) v6 (v7 + 1) mf (upd pt 2 (((((((v4 * 6364136223846793005) + 1442695040888963407)).toUInt64 >>> ((33 : Int32).toInt64.toUInt64 &&& Int64.toUInt64 63)).toInt64).toInt32 / 4) - ((((((v4 * 6364136223846793005) + 1442695040888963407)).toUInt64 >>> ((33 : Int32).toInt64.toUInt64 &&& Int64.toUInt64 63)).toInt64).toInt32 / 4) / 10000 * 10000)) (by first | exact pv_up2 hpt (rb_r _) | exact pv_wait hu111 hpt | exact pv_free hu132 hpt | exact pv_press hu159 hpt) (by have hmd := mu_up (by assumption); omega) hq H locs hP hD hS _ (lv_sub hl [3, 4, 2, 5, 0] rfl)
def P_X4_simulate (mf : Nat → Int32) (pn : Nat → Int32) (pt : Nat → Int32) (sd : Int64) (mm : Int32) : Int32 × (Nat → Int32) × (Nat → Int32) := (if (P_X4_in ((mm).toInt64) 1 99) = 0 then (0, (upd mf 0 1), pt) else (let u36 := P_X4_copyPage 101 101 pn pt 0 0; (P_X4_simulate_48 pn sd mm (((mm).toInt - (0 : Int32).toInt).toNat + 1) sd 0 0 (upd mf 0 0) u36)))
set_option maxHeartbeats 4000000 in
set_option maxRecDepth 100000 in
theorem c_X4_simulate (l : Launch) (G : gG) (m0 : Nat) (te : Nat) (re : Nat) (no : Nat) (tr : Nat) (di : Nat) (ke : Nat) (ik : Nat) (mf : Nat → Int32) (pn : Nat → Int32) (pt : Nat → Int32) (sd : Int64) (mm : Int32) (hpv : PV pn) : kM l G yX4_simulate wsX4_simulate rm_X4_simulate [.ref m0, .long sd, .int mm] [oMo m0 te re no tr di ke ik mf, aI G no 101 pn, aI G tr 101 pt] (qI G ((P_X4_simulate mf pn pt sd mm).1) [oMo m0 te re no tr di ke ik ((P_X4_simulate mf pn pt sd mm).2.1), aI G no 101 pn, aI G tr 101 ((P_X4_simulate mf pn pt sd mm).2.2)]) := by
  refine k_body (cc := cX4_simulate) (nL := 9) (ret := (some .int)) (by decide) rfl (Nat.le_of_ble_eq_true rfl) ?_
  intro p e s m args below meth c A cx hP hD hS ls hl
  obtain ⟨hx, hb, hml, hown, hts, hr, hlocks, hK, hA⟩ := id cx
  obtain ⟨H, hH⟩ : ∃ H, H = s.heap := ⟨_, rfl⟩
  obtain ⟨locs, hL⟩ : ∃ locs : List Loc, locs = [] := ⟨_, rfl⟩
  obtain ⟨tgt, hq⟩ : ∃ tgt, (P_X4_simulate mf pn pt sd mm) = tgt := ⟨_, rfl⟩
  have hS : va_S A s.heap H locs := by rw [hH, hL]; exact hS
  rw [← hH] at hP
  have hl : lv_has ls 9 [(0, .ref m0), (1, .long sd), (3, .int mm)] := hl
  have key : ∀ (H : Heap) (locs : List Loc), va_P G.1 vwCl [oMo m0 te re no tr di ke ik mf, aI G no 101 pn, aI G tr 101 pt] H → va_D A [oMo m0 te re no tr di ke ik mf, aI G no 101 pn, aI G tr 101 pt] → va_S A s.heap H locs → W p l e rm_X4_simulate s m args below meth c H locs 0 0 (Q_X4_simulate G m0 te re no tr di ke ik pn tgt below args s A) (F0 m 0 ls []) := by
    clear hP hD hS hH hL
    intro H locs hP hD hS
    unfold P_X4_simulate at hq
    refine lv_aload_n hx hb dX4_simulate_0 rfl (lv_at hl 0 rfl) ?_
    refine lv_iload_n hx hb dX4_simulate_1 rfl (lv_at hl 2 rfl) ?_
    refine lv_i2l hx hb dX4_simulate_2 rfl ?_
    refine lv_lconst (v := 1) hx hb dX4_simulate_3 (by decide) ?_
    refine k_ldc2 (v := 99) cx (by decide +kernel) dX4_simulate_4 ?_
    have hC := c_X4_in l G ((mm).toInt64) 1 99
    refine k_i (ws' := [oMo m0 te re no tr di ke ik mf, aI G no 101 pn, aI G tr 101 pt]) (as := []) cx hP hD hS [] rfl (kr_S (n := 3) (As := [.long (mm).toInt64, .long 1, .long 99]) cx hC gX4_simulate_X4_in rfl rfl rfl (by decide +kernel) ⟨Nat.le_of_ble_eq_true rfl, Nat.le_of_ble_eq_true rfl⟩ hP hD [] rfl rfl rfl rfl hl (Nat.le_of_ble_eq_true rfl) dX4_simulate_7 ⟨Nat.le_refl _, Nat.le_refl _⟩) ⟨rfl, rfl⟩ rfl (fun H locs hP hD hS => ?_)
    refine lv_if_eq (tgt := 17) hx hb dX4_simulate_10 (by decide) (fun c_10 => ?_) (fun c_10 => ?_)
    · replace hq := (if_pos c_10).symm.trans hq
      refine lv_iconst (v := 1) hx hb dX4_simulate_17 (by decide) ?_
      have hC := c_X4_refused l G m0 te re no tr di ke ik mf 1
      rw [ref_1] at hC
      refine k_i (r := 1) (ws' := [oMo m0 te re no tr di ke ik (upd mf 0 1), aI G no 101 pn, aI G tr 101 pt]) (as := [m0]) cx hP hD hS [0] rfl (kr_V (n := 1) (As := [.int 1]) (ci := 4) cx hC gX4_simulate_X4_refused rfl rfl rfl (by decide +kernel) ⟨Nat.le_of_ble_eq_true rfl, Nat.le_of_ble_eq_true rfl⟩ rfl rfl rfl hP hD [0] rfl rfl rfl rfl hl (Nat.le_of_ble_eq_true rfl) dX4_simulate_18 ⟨Nat.le_refl _, Nat.le_refl _⟩) ⟨rfl, rfl⟩ rfl (fun H locs hP hD hS => ?_)
      refine lv_if_eq (tgt := 26) hx hb dX4_simulate_21 (by decide) (fun cz => absurd cz (by decide)) (fun _ => ?_)
      refine lv_iconst (v := 0) hx hb dX4_simulate_24 (by decide) ?_
      subst hq
      exact k_iret cx hP hS dX4_simulate_25
    · replace hq := (if_neg c_10).symm.trans hq
      refine lv_iconst (v := 0) hx hb dX4_simulate_13 (by decide) ?_
      refine lv_goto (tgt := 18) hx hb dX4_simulate_14 (by decide) ?_
      have hC := c_X4_refused l G m0 te re no tr di ke ik mf 0
      rw [ref_0] at hC
      refine k_i (r := 0) (ws' := [oMo m0 te re no tr di ke ik (upd mf 0 0), aI G no 101 pn, aI G tr 101 pt]) (as := [m0]) cx hP hD hS [0] rfl (kr_V (n := 1) (As := [.int 0]) (ci := 4) cx hC gX4_simulate_X4_refused rfl rfl rfl (by decide +kernel) ⟨Nat.le_of_ble_eq_true rfl, Nat.le_of_ble_eq_true rfl⟩ rfl rfl rfl hP hD [0] rfl rfl rfl rfl hl (Nat.le_of_ble_eq_true rfl) dX4_simulate_18 ⟨Nat.le_refl _, Nat.le_refl _⟩) ⟨rfl, rfl⟩ rfl (fun H locs hP hD hS => ?_)
      refine lv_if_eq (tgt := 26) hx hb dX4_simulate_21 (by decide) (fun _ => ?_) (fun cz => absurd (by decide) cz)
      refine lv_aload_n hx hb dX4_simulate_26 rfl (lv_at hl 0 rfl) ?_
      refine k_get (v := .ref no) (T := TX4) (C := RX4) (N := 11) cx hi_X4_simulate_4 hP 0 rfl rfl 5 (by decide) (by decide +kernel) rfl dX4_simulate_27 ?_
      refine lv_iconst (v := 0) hx hb dX4_simulate_30 (by decide) ?_
      refine lv_aload_n hx hb dX4_simulate_31 rfl (lv_at hl 0 rfl) ?_
      refine k_get (v := .ref tr) (T := TX4) (C := RX4) (N := 11) cx hi_X4_simulate_4 hP 0 rfl rfl 6 (by decide) (by decide +kernel) rfl dX4_simulate_32 ?_
      refine lv_iconst (v := 0) hx hb dX4_simulate_35 (by decide) ?_
      have hC := c_X4_copyPage l G no tr 101 101 pn pt 0 0 (by first | exact cp0 | assumption) (by first | exact cp0 | assumption)
      generalize hu36 : P_X4_copyPage 101 101 pn pt 0 0 = u36 at hC hq
      refine k_v (ws' := [oMo m0 te re no tr di ke ik (upd mf 0 0), aI G no 101 pn, aI G tr 101 u36]) (as := [no, tr]) cx hP hD hS [1, 2] rfl (kr_S (n := 4) (As := [.ref no, .int 0, .ref tr, .int 0]) cx hC gX4_simulate_X4_copyPage rfl rfl rfl (by decide +kernel) ⟨Nat.le_of_ble_eq_true rfl, Nat.le_of_ble_eq_true rfl⟩ hP hD [1, 2] rfl rfl rfl rfl hl (Nat.le_of_ble_eq_true rfl) dX4_simulate_36 ⟨Nat.le_refl _, Nat.le_refl _⟩) ⟨rfl, rfl⟩ rfl (fun H locs hP hD hS => ?_)
      refine lv_lload_n hx hb dX4_simulate_39 rfl (lv_at hl 1 rfl) ?_
      refine lv_lstore (lv' := [(4, .long sd), (0, .ref m0), (1, .long sd), (3, .int mm)]) hx hb dX4_simulate_40 hl (by decide) rfl (fun ls hl => ?_)
      refine lv_iconst (v := 0) hx hb dX4_simulate_42 (by decide) ?_
      refine lv_istore (lv' := [(6, .int 0), (4, .long sd), (0, .ref m0), (1, .long sd), (3, .int mm)]) hx hb dX4_simulate_43 hl (by decide) rfl (fun ls hl => ?_)
      refine lv_iconst (v := 0) hx hb dX4_simulate_45 (by decide) ?_
      refine lv_istore (lv' := [(7, .int 0), (6, .int 0), (4, .long sd), (0, .ref m0), (1, .long sd), (3, .int mm)]) hx hb dX4_simulate_46 hl (by decide) rfl (fun ls hl => ?_)
      exact b_X4_simulate_48 cx m0 te re no tr di ke ik pn sd mm hpv tgt (((mm).toInt - (0 : Int32).toInt).toNat + 1) sd 0 0 (upd mf 0 0) u36 (pv_copy hu36 hpv) (Nat.lt_succ_self _) hq H locs hP hD hS _ (lv_sub hl [3, 5, 2, 1, 0] rfl)
  subst hL
  subst hH
  subst hq
  exact key _ _ hP hD hS
