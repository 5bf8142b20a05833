/-! X4_readAll -/
theorem hi_X4_readAll_4 : ∀ w ∈ u_ws RX4 TX4 11, w ∈ wsX4_readAll := by decide +kernel
abbrev rm_X4_readAll : Room := { frames := 3, cells := 0, slots := 0, locals := 76 }
abbrev Q_X4_readAll (G : gG) (m0 : Nat) (te : Nat) (re : Nat) (no : Nat) (tr : Nat) (di : Nat) (ke : Nat) (ik : Nat)  (tt : Nat → Int32) (tgt : Int32 × (Nat → Int32) × (Nat → Int32)) (below : List Frame) (args : Array Value) (s : State) (A : Nat → Prop) : State → Prop := MQ below (qI G tgt.1 [oMo m0 te re no tr di ke ik tgt.2.1, aI G re 101 tgt.2.2, aI G te 60 tt] A) args s 0 0 A
def P_X4_readAll_168 (tt : Nat → Int32) : Nat → (Nat → Int32) → (Nat → Int32) → Int32 × (Nat → Int32) × (Nat → Int32)
  | 0, _, _ => (0, (fun _ => 0), (fun _ => 0))
  | n + 1, mf, pr => (if 6 ≤ (pr 9) then (if (pr 9) ≤ 0 then (0, mf, pr) else (if (mf 3) = (mf 2) then (1, mf, pr) else (0, mf, pr))) else (let u183 := P_X4_eat mf tt 120; (if u183.1 = 0 then (if (pr 9) ≤ 0 then (0, u183.2, pr) else (if (u183.2 3) = (u183.2 2) then (1, u183.2, pr) else (0, u183.2, pr))) else (let u205 := P_X4_put u183.2 pr tt (15 + (pr 9)) 4 1 9999; (if u205.1 = 0 then (0, u205.2.1, u205.2.2) else (P_X4_readAll_168 tt n u205.2.1 (upd u205.2.2 9 ((u205.2.2 9) + 1))))))))
set_option maxHeartbeats 4000000 in
set_option maxRecDepth 100000 in
theorem b_X4_readAll_168 {p : Program} {l : Launch} {e : Env} {s : State} {m : MethodId} {args : Array Value} {below : List Frame} {meth : Method} {c : Code} {G : gG} {A : Nat → Prop} (cx : Cx p s m args meth c cX4_readAll 2 yX4_readAll.cls wsX4_readAll (some .boolean) G A) (m0 : Nat) (te : Nat) (re : Nat) (no : Nat) (tr : Nat) (di : Nat) (ke : Nat) (ik : Nat) (tt : Nat → Int32)   (tgt : Int32 × (Nat → Int32) × (Nat → Int32)) : ∀ (n : Nat) (mf : Nat → Int32) (pr : Nat → Int32) (hws : WS mf) (h9 : NB (pr 9)) (hm : (7 - (pr 9).toInt).toNat < n) (hq : P_X4_readAll_168  tt n mf pr = tgt) (H : Heap) (locs : List Loc) (hP : va_P G.1 vwCl [oMo m0 te re no tr di ke ik mf, aI G re 101 pr, aI G te 60 tt] H) (hD : va_D A [oMo m0 te re no tr di ke ik mf, aI G re 101 pr, aI G te 60 tt]) (hS : va_S A s.heap H locs) (ls : Array Slot) (hl : lv_has ls 2 [(0, .ref m0)]), W p l e rm_X4_readAll s m args below meth c H locs 0 0 (Q_X4_readAll G m0 te re no tr di ke ik tt tgt below args s A) (F0 m 168 ls []) := by
  obtain ⟨hx, hb, hml, hown, hts, hr, hlocks, hK, hA⟩ := id cx
  intro n
  induction n with
  | zero => intros; omega
  | succ n ih =>
    intro mf pr hws h9 hm hq H locs hP hD hS ls hl
    unfold P_X4_readAll_168 at hq
    refine lv_aload_n hx hb dX4_readAll_168 rfl (lv_at hl 0 rfl) ?_
    refine k_get (v := .ref re) (T := TX4) (C := RX4) (N := 11) cx hi_X4_readAll_4 hP 0 rfl rfl 4 (by decide) (by decide +kernel) rfl dX4_readAll_169 ?_
    refine lv_bipush (v := 9) hx hb dX4_readAll_172 (by decide) ?_
    refine k_iald (j := 9) cx hP 1 rfl (by decide) (by unfold vp_in; decide) dX4_readAll_174 ?_
    refine lv_bipush (v := 6) hx hb dX4_readAll_175 (by decide) ?_
    refine lv_icmp_ge (tgt := 227) hx hb dX4_readAll_177 (by decide) (fun c_177 => ?_) (fun c_177 => ?_)
    · replace hq := (if_pos c_177).symm.trans hq
      refine lv_aload_n hx hb dX4_readAll_227 rfl (lv_at hl 0 rfl) ?_
      refine k_get (v := .ref re) (T := TX4) (C := RX4) (N := 11) cx hi_X4_readAll_4 hP 0 rfl rfl 4 (by decide) (by decide +kernel) rfl dX4_readAll_228 ?_
      refine lv_bipush (v := 9) hx hb dX4_readAll_231 (by decide) ?_
      refine k_iald (j := 9) cx hP 1 rfl (by decide) (by unfold vp_in; decide) dX4_readAll_233 ?_
      refine lv_if_le (tgt := 252) hx hb dX4_readAll_234 (by decide) (fun c_234 => ?_) (fun c_234 => ?_)
      · replace hq := (if_pos c_234).symm.trans hq
        refine lv_iconst (v := 0) hx hb dX4_readAll_252 (by decide) ?_
        subst hq
        exact k_zret (v := 0) (w1 := [oMo m0 te re no tr di ke ik mf, aI G re 101 pr, aI G te 60 tt]) cx (rfl) hP hS dX4_readAll_253
      · replace hq := (if_neg c_234).symm.trans hq
        refine lv_aload_n hx hb dX4_readAll_237 rfl (lv_at hl 0 rfl) ?_
        refine k_get (v := .int (mf 3)) (T := TX4) (C := RX4) (N := 11) cx hi_X4_readAll_4 hP 0 rfl rfl 3 (by decide) (by decide +kernel) rfl dX4_readAll_238 ?_
        refine lv_aload_n hx hb dX4_readAll_241 rfl (lv_at hl 0 rfl) ?_
        refine k_get (v := .int (mf 2)) (T := TX4) (C := RX4) (N := 11) cx hi_X4_readAll_4 hP 0 rfl rfl 2 (by decide) (by decide +kernel) rfl dX4_readAll_242 ?_
        refine lv_icmp_ne (tgt := 252) hx hb dX4_readAll_245 (by decide) (fun c_245 => ?_) (fun c_245 => ?_)
        · replace hq := (if_neg c_245).symm.trans hq
          refine lv_iconst (v := 0) hx hb dX4_readAll_252 (by decide) ?_
          subst hq
          exact k_zret (v := 0) (w1 := [oMo m0 te re no tr di ke ik mf, aI G re 101 pr, aI G te 60 tt]) cx (rfl) hP hS dX4_readAll_253
        · replace hq := (if_pos c_245).symm.trans hq
          refine lv_iconst (v := 1) hx hb dX4_readAll_248 (by decide) ?_
          refine lv_goto (tgt := 253) hx hb dX4_readAll_249 (by decide) ?_
          subst hq
          exact k_zret (v := 1) (w1 := [oMo m0 te re no tr di ke ik mf, aI G re 101 pr, aI G te 60 tt]) cx (rfl) hP hS dX4_readAll_253
    · replace hq := (if_neg c_177).symm.trans hq
      refine lv_aload_n hx hb dX4_readAll_180 rfl (lv_at hl 0 rfl) ?_
      refine lv_bipush (v := 120) hx hb dX4_readAll_181 (by decide) ?_
      have hC := c_X4_eat l G m0 te re no tr di ke ik mf tt 120 (hws)
      generalize hu183 : P_X4_eat mf tt 120 = u183 at hC hq
      refine k_i (ws' := [oMo m0 te re no tr di ke ik u183.2, aI G re 101 pr, aI G te 60 tt]) (as := [m0, te]) cx hP hD hS [0, 2] rfl (kr_V (n := 1) (As := [.int 120]) (ci := 4) cx hC gX4_readAll_X4_eat rfl rfl rfl (by decide +kernel) ⟨Nat.le_of_ble_eq_true rfl, Nat.le_of_ble_eq_true rfl⟩ rfl rfl rfl hP hD [0, 2] rfl rfl rfl rfl hl (Nat.le_of_ble_eq_true rfl) dX4_readAll_183 ⟨Nat.le_refl _, Nat.le_refl _⟩) ⟨rfl, rfl⟩ rfl (fun H locs hP hD hS => ?_)
      replace hws := eat_ws hu183 hws
      refine lv_if_eq (tgt := 227) hx hb dX4_readAll_186 (by decide) (fun c_186 => ?_) (fun c_186 => ?_)
      · replace hq := (if_pos c_186).symm.trans hq
        refine lv_aload_n hx hb dX4_readAll_227 rfl (lv_at hl 0 rfl) ?_
        refine k_get (v := .ref re) (T := TX4) (C := RX4) (N := 11) cx hi_X4_readAll_4 hP 0 rfl rfl 4 (by decide) (by decide +kernel) rfl dX4_readAll_228 ?_
        refine lv_bipush (v := 9) hx hb dX4_readAll_231 (by decide) ?_
        refine k_iald (j := 9) cx hP 1 rfl (by decide) (by unfold vp_in; decide) dX4_readAll_233 ?_
        refine lv_if_le (tgt := 252) hx hb dX4_readAll_234 (by decide) (fun c_234 => ?_) (fun c_234 => ?_)
        · replace hq := (if_pos c_234).symm.trans hq
          refine lv_iconst (v := 0) hx hb dX4_readAll_252 (by decide) ?_
          subst hq
          exact k_zret (v := 0) (w1 := [oMo m0 te re no tr di ke ik u183.2, aI G re 101 pr, aI G te 60 tt]) cx (rfl) hP hS dX4_readAll_253
        · replace hq := (if_neg c_234).symm.trans hq
          refine lv_aload_n hx hb dX4_readAll_237 rfl (lv_at hl 0 rfl) ?_
          refine k_get (v := .int (u183.2 3)) (T := TX4) (C := RX4) (N := 11) cx hi_X4_readAll_4 hP 0 rfl rfl 3 (by decide) (by decide +kernel) rfl dX4_readAll_238 ?_
          refine lv_aload_n hx hb dX4_readAll_241 rfl (lv_at hl 0 rfl) ?_
          refine k_get (v := .int (u183.2 2)) (T := TX4) (C := RX4) (N := 11) cx hi_X4_readAll_4 hP 0 rfl rfl 2 (by decide) (by decide +kernel) rfl dX4_readAll_242 ?_
          refine lv_icmp_ne (tgt := 252) hx hb dX4_readAll_245 (by decide) (fun c_245 => ?_) (fun c_245 => ?_)
          · replace hq := (if_neg c_245).symm.trans hq
            refine lv_iconst (v := 0) hx hb dX4_readAll_252 (by decide) ?_
            subst hq
            exact k_zret (v := 0) (w1 := [oMo m0 te re no tr di ke ik u183.2, aI G re 101 pr, aI G te 60 tt]) cx (rfl) hP hS dX4_readAll_253
          · replace hq := (if_pos c_245).symm.trans hq
            refine lv_iconst (v := 1) hx hb dX4_readAll_248 (by decide) ?_
            refine lv_goto (tgt := 253) hx hb dX4_readAll_249 (by decide) ?_
            subst hq
            exact k_zret (v := 1) (w1 := [oMo m0 te re no tr di ke ik u183.2, aI G re 101 pr, aI G te 60 tt]) cx (rfl) hP hS dX4_readAll_253
      · replace hq := (if_neg c_186).symm.trans hq
        refine lv_aload_n hx hb dX4_readAll_189 rfl (lv_at hl 0 rfl) ?_
        refine lv_bipush (v := 15) hx hb dX4_readAll_190 (by decide) ?_
        refine lv_aload_n hx hb dX4_readAll_192 rfl (lv_at hl 0 rfl) ?_
        refine k_get (v := .ref re) (T := TX4) (C := RX4) (N := 11) cx hi_X4_readAll_4 hP 0 rfl rfl 4 (by decide) (by decide +kernel) rfl dX4_readAll_193 ?_
        refine lv_bipush (v := 9) hx hb dX4_readAll_196 (by decide) ?_
        refine k_iald (j := 9) cx hP 1 rfl (by decide) (by unfold vp_in; decide) dX4_readAll_198 ?_
        refine lv_iadd hx hb dX4_readAll_199 ?_
        refine lv_iconst (v := 4) hx hb dX4_readAll_200 (by decide) ?_
        refine lv_iconst (v := 1) hx hb dX4_readAll_201 (by decide) ?_
        refine lv_sipush (v := 9999) hx hb dX4_readAll_202 (by decide) ?_
        have hC := c_X4_put l G m0 te re no tr di ke ik u183.2 pr tt (15 + (pr 9)) 4 1 9999 (hws) (by first | exact ix_c (by decide) (by decide) | exact ix_nb h9 (by assumption))
        generalize hu205 : P_X4_put u183.2 pr tt (15 + (pr 9)) 4 1 9999 = u205 at hC hq
        refine k_i (ws' := [oMo m0 te re no tr di ke ik u205.2.1, aI G re 101 u205.2.2, aI G te 60 tt]) (as := [m0, re, te]) cx hP hD hS [0, 1, 2] rfl (kr_V (n := 4) (As := [.int (15 + (pr 9)), .int 4, .int 1, .int 9999]) (ci := 4) cx hC gX4_readAll_X4_put rfl rfl rfl (by decide +kernel) ⟨Nat.le_of_ble_eq_true rfl, Nat.le_of_ble_eq_true rfl⟩ rfl rfl rfl hP hD [0, 1, 2] rfl rfl rfl rfl hl (Nat.le_of_ble_eq_true rfl) dX4_readAll_205 ⟨Nat.le_refl _, Nat.le_refl _⟩) ⟨rfl, rfl⟩ rfl (fun H locs hP hD hS => ?_)
        replace h9 := put_9n hu205 (by assumption) h9
        replace hws := put_ws hu205 hws
        refine lv_if_ne (tgt := 213) hx hb dX4_readAll_208 (by decide) (fun c_208 => ?_) (fun c_208 => ?_)
        · replace hq := (if_neg c_208).symm.trans hq
          refine lv_aload_n hx hb dX4_readAll_213 rfl (lv_at hl 0 rfl) ?_
          refine k_get (v := .ref re) (T := TX4) (C := RX4) (N := 11) cx hi_X4_readAll_4 hP 0 rfl rfl 4 (by decide) (by decide +kernel) rfl dX4_readAll_214 ?_
          refine lv_bipush (v := 9) hx hb dX4_readAll_217 (by decide) ?_
          refine lv_dup2_11 hx hb dX4_readAll_219 rfl rfl ?_
          refine k_iald (j := 9) cx hP 1 rfl (by decide) (by unfold vp_in; decide) dX4_readAll_220 ?_
          refine lv_iconst (v := 1) hx hb dX4_readAll_221 (by decide) ?_
          refine lv_iadd hx hb dX4_readAll_222 ?_
          refine k_iast (ws' := [oMo m0 te re no tr di ke ik u205.2.1, aI G re 101 (upd u205.2.2 9 ((u205.2.2 9) + 1)), aI G te 60 tt]) (j := 9) cx hP hD hS 1 rfl (by decide) (by unfold vp_in; decide) rfl dX4_readAll_223 (fun H locs hP hD hS => ?_)
          refine lv_goto (tgt := 168) hx hb dX4_readAll_224 (by decide) ?_
          exact ih u205.2.1 (upd u205.2.2 9 ((u205.2.2 9) + 1)) (hws) (nb_inc h9 (by assumption)) (by have hmd := mu_nb h9 (by assumption); omega) hq H locs hP hD hS _ (lv_sub hl [0] rfl)
        · replace hq := (if_pos c_208).symm.trans hq
          refine lv_iconst (v := 0) hx hb dX4_readAll_211 (by decide) ?_
          subst hq
          exact k_zret (v := 0) (w1 := [oMo m0 te re no tr di ke ik u205.2.1, aI G re 101 u205.2.2, aI G te 60 tt]) cx (rfl) hP hS dX4_readAll_212
def P_X4_readAll_7 (tt : Nat → Int32) : Nat → Int32 → (Nat → Int32) → (Nat → Int32) → Int32 × (Nat → Int32) × (Nat → Int32)
  | 0, _, _, _ => (0, (fun _ => 0), (fun _ => 0))
  | n + 1, v1, mf, pr => (if 101 ≤ v1 then (let u29 := P_X4_eat mf tt 71; (if u29.1 = 0 then (0, u29.2, pr) else (let u40 := P_X4_put u29.2 pr tt 0 1 0 3; (if u40.1 = 0 then (0, u40.2.1, u40.2.2) else (let u51 := P_X4_put u40.2.1 u40.2.2 tt 1 1 0 3; (if u51.1 = 0 then (0, u51.2.1, u51.2.2) else (let u64 := P_X4_put u51.2.1 u51.2.2 tt 2 4 0 9999; (if u64.1 = 0 then (0, u64.2.1, u64.2.2) else (let u76 := P_X4_put u64.2.1 u64.2.2 tt 3 2 1 99; (if u76.1 = 0 then (0, u76.2.1, u76.2.2) else (let u87 := P_X4_put u76.2.1 u76.2.2 tt 4 1 0 3; (if u87.1 = 0 then (0, u87.2.1, u87.2.2) else (let u98 := P_X4_eat u87.2.1 tt 45; (if u98.1 = 0 then (let u109 := P_X4_eat u98.2 tt 43; (if u109.1 = 0 then (0, u109.2, u87.2.2) else (let u121 := P_X4_put u109.2 u87.2.2 tt 5 2 0 50; (if u121.1 = 0 then (0, u121.2.1, u121.2.2) else (let u134 := P_X4_put u121.2.1 u121.2.2 tt 6 2 0 20; (if u134.1 = 0 then (0, u134.2.1, u134.2.2) else (if u98.1 = 0 then (P_X4_readAll_168 tt ((7 - ((upd u134.2.2 5 (u134.2.2 5)) 9).toInt).toNat + 1) u134.2.1 (upd u134.2.2 5 (u134.2.2 5))) else (P_X4_readAll_168 tt ((7 - ((upd u134.2.2 5 (-(u134.2.2 5))) 9).toInt).toNat + 1) u134.2.1 (upd u134.2.2 5 (-(u134.2.2 5))))))))))) else (let u121 := P_X4_put u98.2 u87.2.2 tt 5 2 0 50; (if u121.1 = 0 then (0, u121.2.1, u121.2.2) else (let u134 := P_X4_put u121.2.1 u121.2.2 tt 6 2 0 20; (if u134.1 = 0 then (0, u134.2.1, u134.2.2) else (if u98.1 = 0 then (P_X4_readAll_168 tt ((7 - ((upd u134.2.2 5 (u134.2.2 5)) 9).toInt).toNat + 1) u134.2.1 (upd u134.2.2 5 (u134.2.2 5))) else (P_X4_readAll_168 tt ((7 - ((upd u134.2.2 5 (-(u134.2.2 5))) 9).toInt).toNat + 1) u134.2.1 (upd u134.2.2 5 (-(u134.2.2 5))))))))))))))))))))))) else (P_X4_readAll_7 tt n (v1 + 1) mf (upd pr v1.toNatClampNeg 0)))
set_option maxHeartbeats 4000000 in
set_option maxRecDepth 100000 in
theorem b_X4_readAll_7 {p : Program} {l : Launch} {e : Env} {s : State} {m : MethodId} {args : Array Value} {below : List Frame} {meth : Method} {c : Code} {G : gG} {A : Nat → Prop} (cx : Cx p s m args meth c cX4_readAll 2 yX4_readAll.cls wsX4_readAll (some .boolean) G A) (m0 : Nat) (te : Nat) (re : Nat) (no : Nat) (tr : Nat) (di : Nat) (ke : Nat) (ik : Nat) (tt : Nat → Int32)   (tgt : Int32 × (Nat → Int32) × (Nat → Int32)) : ∀ (n : Nat) (v1 : Int32) (mf : Nat → Int32) (pr : Nat → Int32) (h0 : ¬ v1 < 0) (hws : WS mf) (hz : ZR pr v1) (hm : ((101 : Int32).toInt - (v1 : Int32).toInt).toNat < n) (hq : P_X4_readAll_7  tt n v1 mf pr = tgt) (H : Heap) (locs : List Loc) (hP : va_P G.1 vwCl [oMo m0 te re no tr di ke ik mf, aI G re 101 pr, aI G te 60 tt] H) (hD : va_D A [oMo m0 te re no tr di ke ik mf, aI G re 101 pr, aI G te 60 tt]) (hS : va_S A s.heap H locs) (ls : Array Slot) (hl : lv_has ls 2 [(0, .ref m0), (1, .int v1)]), W p l e rm_X4_readAll s m args below meth c H locs 0 0 (Q_X4_readAll G m0 te re no tr di ke ik tt tgt below args s A) (F0 m 7 ls []) := by
  obtain ⟨hx, hb, hml, hown, hts, hr, hlocks, hK, hA⟩ := id cx
  intro n
  induction n with
  | zero => intros; omega
  | succ n ih =>
    intro v1 mf pr h0 hws hz hm hq H locs hP hD hS ls hl
    unfold P_X4_readAll_7 at hq
    refine lv_iload_n hx hb dX4_readAll_7 rfl (lv_at hl 1 rfl) ?_
    refine lv_bipush (v := 101) hx hb dX4_readAll_8 (by decide) ?_
    refine lv_icmp_ge (tgt := 26) hx hb dX4_readAll_10 (by decide) (fun c_10 => ?_) (fun c_10 => ?_)
    · replace hq := (if_pos c_10).symm.trans hq
      have h9 := nb_z hz (by assumption)
      refine lv_aload_n hx hb dX4_readAll_26 rfl (lv_at hl 0 rfl) ?_
      refine lv_bipush (v := 71) hx hb dX4_readAll_27 (by decide) ?_
      have hC := c_X4_eat l G m0 te re no tr di ke ik mf tt 71 (hws)
      generalize hu29 : P_X4_eat mf tt 71 = u29 at hC hq
      refine k_i (ws' := [oMo m0 te re no tr di ke ik u29.2, aI G re 101 pr, aI G te 60 tt]) (as := [m0, te]) cx hP hD hS [0, 2] rfl (kr_V (n := 1) (As := [.int 71]) (ci := 4) cx hC gX4_readAll_X4_eat rfl rfl rfl (by decide +kernel) ⟨Nat.le_of_ble_eq_true rfl, Nat.le_of_ble_eq_true rfl⟩ rfl rfl rfl hP hD [0, 2] rfl rfl rfl rfl hl (Nat.le_of_ble_eq_true rfl) dX4_readAll_29 ⟨Nat.le_refl _, Nat.le_refl _⟩) ⟨rfl, rfl⟩ rfl (fun H locs hP hD hS => ?_)
      replace hws := eat_ws hu29 hws
      refine lv_if_eq (tgt := 93) hx hb dX4_readAll_32 (by decide) (fun c_32 => ?_) (fun c_32 => ?_)
      · replace hq := (if_pos c_32).symm.trans hq
        refine lv_iconst (v := 0) hx hb dX4_readAll_93 (by decide) ?_
        subst hq
        exact k_zret (v := 0) (w1 := [oMo m0 te re no tr di ke ik u29.2, aI G re 101 pr, aI G te 60 tt]) cx (rfl) hP hS dX4_readAll_94
      · replace hq := (if_neg c_32).symm.trans hq
        refine lv_aload_n hx hb dX4_readAll_35 rfl (lv_at hl 0 rfl) ?_
        refine lv_iconst (v := 0) hx hb dX4_readAll_36 (by decide) ?_
        refine lv_iconst (v := 1) hx hb dX4_readAll_37 (by decide) ?_
        refine lv_iconst (v := 0) hx hb dX4_readAll_38 (by decide) ?_
        refine lv_iconst (v := 3) hx hb dX4_readAll_39 (by decide) ?_
        have hC := c_X4_put l G m0 te re no tr di ke ik u29.2 pr tt 0 1 0 3 (hws) (by first | exact ix_c (by decide) (by decide) | exact ix_nb h9 (by assumption))
        generalize hu40 : P_X4_put u29.2 pr tt 0 1 0 3 = u40 at hC hq
        refine k_i (ws' := [oMo m0 te re no tr di ke ik u40.2.1, aI G re 101 u40.2.2, aI G te 60 tt]) (as := [m0, re, te]) cx hP hD hS [0, 1, 2] rfl (kr_V (n := 4) (As := [.int 0, .int 1, .int 0, .int 3]) (ci := 4) cx hC gX4_readAll_X4_put rfl rfl rfl (by decide +kernel) ⟨Nat.le_of_ble_eq_true rfl, Nat.le_of_ble_eq_true rfl⟩ rfl rfl rfl hP hD [0, 1, 2] rfl rfl rfl rfl hl (Nat.le_of_ble_eq_true rfl) dX4_readAll_40 ⟨Nat.le_refl _, Nat.le_refl _⟩) ⟨rfl, rfl⟩ rfl (fun H locs hP hD hS => ?_)
        replace h9 := put_9 hu40 (by decide) h9
        replace hws := put_ws hu40 hws
        refine lv_if_eq (tgt := 93) hx hb dX4_readAll_43 (by decide) (fun c_43 => ?_) (fun c_43 => ?_)
        · replace hq := (if_pos c_43).symm.trans hq
          refine lv_iconst (v := 0) hx hb dX4_readAll_93 (by decide) ?_
          subst hq
          exact k_zret (v := 0) (w1 := [oMo m0 te re no tr di ke ik u40.2.1, aI G re 101 u40.2.2, aI G te 60 tt]) cx (rfl) hP hS dX4_readAll_94
        · replace hq := (if_neg c_43).symm.trans hq
          refine lv_aload_n hx hb dX4_readAll_46 rfl (lv_at hl 0 rfl) ?_
          refine lv_iconst (v := 1) hx hb dX4_readAll_47 (by decide) ?_
          refine lv_iconst (v := 1) hx hb dX4_readAll_48 (by decide) ?_
          refine lv_iconst (v := 0) hx hb dX4_readAll_49 (by decide) ?_
          refine lv_iconst (v := 3) hx hb dX4_readAll_50 (by decide) ?_
          have hC := c_X4_put l G m0 te re no tr di ke ik u40.2.1 u40.2.2 tt 1 1 0 3 (hws) (by first | exact ix_c (by decide) (by decide) | exact ix_nb h9 (by assumption))
          generalize hu51 : P_X4_put u40.2.1 u40.2.2 tt 1 1 0 3 = u51 at hC hq
          refine k_i (ws' := [oMo m0 te re no tr di ke ik u51.2.1, aI G re 101 u51.2.2, aI G te 60 tt]) (as := [m0, re, te]) cx hP hD hS [0, 1, 2] rfl (kr_V (n := 4) (As := [.int 1, .int 1, .int 0, .int 3]) (ci := 4) cx hC gX4_readAll_X4_put rfl rfl rfl (by decide +kernel) ⟨Nat.le_of_ble_eq_true rfl, Nat.le_of_ble_eq_true rfl⟩ rfl rfl rfl hP hD [0, 1, 2] rfl rfl rfl rfl hl (Nat.le_of_ble_eq_true rfl) dX4_readAll_51 ⟨Nat.le_refl _, Nat.le_refl _⟩) ⟨rfl, rfl⟩ rfl (fun H locs hP hD hS => ?_)
          replace h9 := put_9 hu51 (by decide) h9
          replace hws := put_ws hu51 hws
          refine lv_if_eq (tgt := 93) hx hb dX4_readAll_54 (by decide) (fun c_54 => ?_) (fun c_54 => ?_)
          · replace hq := (if_pos c_54).symm.trans hq
            refine lv_iconst (v := 0) hx hb dX4_readAll_93 (by decide) ?_
            subst hq
            exact k_zret (v := 0) (w1 := [oMo m0 te re no tr di ke ik u51.2.1, aI G re 101 u51.2.2, aI G te 60 tt]) cx (rfl) hP hS dX4_readAll_94
          · replace hq := (if_neg c_54).symm.trans hq
            refine lv_aload_n hx hb dX4_readAll_57 rfl (lv_at hl 0 rfl) ?_
            refine lv_iconst (v := 2) hx hb dX4_readAll_58 (by decide) ?_
            refine lv_iconst (v := 4) hx hb dX4_readAll_59 (by decide) ?_
            refine lv_iconst (v := 0) hx hb dX4_readAll_60 (by decide) ?_
            refine lv_sipush (v := 9999) hx hb dX4_readAll_61 (by decide) ?_
            have hC := c_X4_put l G m0 te re no tr di ke ik u51.2.1 u51.2.2 tt 2 4 0 9999 (hws) (by first | exact ix_c (by decide) (by decide) | exact ix_nb h9 (by assumption))
            generalize hu64 : P_X4_put u51.2.1 u51.2.2 tt 2 4 0 9999 = u64 at hC hq
            refine k_i (ws' := [oMo m0 te re no tr di ke ik u64.2.1, aI G re 101 u64.2.2, aI G te 60 tt]) (as := [m0, re, te]) cx hP hD hS [0, 1, 2] rfl (kr_V (n := 4) (As := [.int 2, .int 4, .int 0, .int 9999]) (ci := 4) cx hC gX4_readAll_X4_put rfl rfl rfl (by decide +kernel) ⟨Nat.le_of_ble_eq_true rfl, Nat.le_of_ble_eq_true rfl⟩ rfl rfl rfl hP hD [0, 1, 2] rfl rfl rfl rfl hl (Nat.le_of_ble_eq_true rfl) dX4_readAll_64 ⟨Nat.le_refl _, Nat.le_refl _⟩) ⟨rfl, rfl⟩ rfl (fun H locs hP hD hS => ?_)
            replace h9 := put_9 hu64 (by decide) h9
            replace hws := put_ws hu64 hws
            refine lv_if_eq (tgt := 93) hx hb dX4_readAll_67 (by decide) (fun c_67 => ?_) (fun c_67 => ?_)
            · replace hq := (if_pos c_67).symm.trans hq
              refine lv_iconst (v := 0) hx hb dX4_readAll_93 (by decide) ?_
              subst hq
              exact k_zret (v := 0) (w1 := [oMo m0 te re no tr di ke ik u64.2.1, aI G re 101 u64.2.2, aI G te 60 tt]) cx (rfl) hP hS dX4_readAll_94
            · replace hq := (if_neg c_67).symm.trans hq
              refine lv_aload_n hx hb dX4_readAll_70 rfl (lv_at hl 0 rfl) ?_
              refine lv_iconst (v := 3) hx hb dX4_readAll_71 (by decide) ?_
              refine lv_iconst (v := 2) hx hb dX4_readAll_72 (by decide) ?_
              refine lv_iconst (v := 1) hx hb dX4_readAll_73 (by decide) ?_
              refine lv_bipush (v := 99) hx hb dX4_readAll_74 (by decide) ?_
              have hC := c_X4_put l G m0 te re no tr di ke ik u64.2.1 u64.2.2 tt 3 2 1 99 (hws) (by first | exact ix_c (by decide) (by decide) | exact ix_nb h9 (by assumption))
              generalize hu76 : P_X4_put u64.2.1 u64.2.2 tt 3 2 1 99 = u76 at hC hq
              refine k_i (ws' := [oMo m0 te re no tr di ke ik u76.2.1, aI G re 101 u76.2.2, aI G te 60 tt]) (as := [m0, re, te]) cx hP hD hS [0, 1, 2] rfl (kr_V (n := 4) (As := [.int 3, .int 2, .int 1, .int 99]) (ci := 4) cx hC gX4_readAll_X4_put rfl rfl rfl (by decide +kernel) ⟨Nat.le_of_ble_eq_true rfl, Nat.le_of_ble_eq_true rfl⟩ rfl rfl rfl hP hD [0, 1, 2] rfl rfl rfl rfl hl (Nat.le_of_ble_eq_true rfl) dX4_readAll_76 ⟨Nat.le_refl _, Nat.le_refl _⟩) ⟨rfl, rfl⟩ rfl (fun H locs hP hD hS => ?_)
              replace h9 := put_9 hu76 (by decide) h9
              replace hws := put_ws hu76 hws
              refine lv_if_eq (tgt := 93) hx hb dX4_readAll_79 (by decide) (fun c_79 => ?_) (fun c_79 => ?_)
              · replace hq := (if_pos c_79).symm.trans hq
                refine lv_iconst (v := 0) hx hb dX4_readAll_93 (by decide) ?_
                subst hq
                exact k_zret (v := 0) (w1 := [oMo m0 te re no tr di ke ik u76.2.1, aI G re 101 u76.2.2, aI G te 60 tt]) cx (rfl) hP hS dX4_readAll_94
              · replace hq := (if_neg c_79).symm.trans hq
                refine lv_aload_n hx hb dX4_readAll_82 rfl (lv_at hl 0 rfl) ?_
                refine lv_iconst (v := 4) hx hb dX4_readAll_83 (by decide) ?_
                refine lv_iconst (v := 1) hx hb dX4_readAll_84 (by decide) ?_
                refine lv_iconst (v := 0) hx hb dX4_readAll_85 (by decide) ?_
                refine lv_iconst (v := 3) hx hb dX4_readAll_86 (by decide) ?_
                have hC := c_X4_put l G m0 te re no tr di ke ik u76.2.1 u76.2.2 tt 4 1 0 3 (hws) (by first | exact ix_c (by decide) (by decide) | exact ix_nb h9 (by assumption))
                generalize hu87 : P_X4_put u76.2.1 u76.2.2 tt 4 1 0 3 = u87 at hC hq
                refine k_i (ws' := [oMo m0 te re no tr di ke ik u87.2.1, aI G re 101 u87.2.2, aI G te 60 tt]) (as := [m0, re, te]) cx hP hD hS [0, 1, 2] rfl (kr_V (n := 4) (As := [.int 4, .int 1, .int 0, .int 3]) (ci := 4) cx hC gX4_readAll_X4_put rfl rfl rfl (by decide +kernel) ⟨Nat.le_of_ble_eq_true rfl, Nat.le_of_ble_eq_true rfl⟩ rfl rfl rfl hP hD [0, 1, 2] rfl rfl rfl rfl hl (Nat.le_of_ble_eq_true rfl) dX4_readAll_87 ⟨Nat.le_refl _, Nat.le_refl _⟩) ⟨rfl, rfl⟩ rfl (fun H locs hP hD hS => ?_)
                replace h9 := put_9 hu87 (by decide) h9
                replace hws := put_ws hu87 hws
                refine lv_if_ne (tgt := 95) hx hb dX4_readAll_90 (by decide) (fun c_90 => ?_) (fun c_90 => ?_)
                · replace hq := (if_neg c_90).symm.trans hq
                  refine lv_aload_n hx hb dX4_readAll_95 rfl (lv_at hl 0 rfl) ?_
                  refine lv_bipush (v := 45) hx hb dX4_readAll_96 (by decide) ?_
                  have hC := c_X4_eat l G m0 te re no tr di ke ik u87.2.1 tt 45 (hws)
                  generalize hu98 : P_X4_eat u87.2.1 tt 45 = u98 at hC hq
                  refine k_i (ws' := [oMo m0 te re no tr di ke ik u98.2, aI G re 101 u87.2.2, aI G te 60 tt]) (as := [m0, te]) cx hP hD hS [0, 2] rfl (kr_V (n := 1) (As := [.int 45]) (ci := 4) cx hC gX4_readAll_X4_eat rfl rfl rfl (by decide +kernel) ⟨Nat.le_of_ble_eq_true rfl, Nat.le_of_ble_eq_true rfl⟩ rfl rfl rfl hP hD [0, 2] rfl rfl rfl rfl hl (Nat.le_of_ble_eq_true rfl) dX4_readAll_98 ⟨Nat.le_refl _, Nat.le_refl _⟩) ⟨rfl, rfl⟩ rfl (fun H locs hP hD hS => ?_)
                  replace hws := eat_ws hu98 hws
                  refine lv_istore_n (lv' := [(1, .int u98.1), (0, .ref m0)]) hx hb dX4_readAll_101 rfl hl (by decide) rfl (fun ls hl => ?_)
                  refine lv_iload_n hx hb dX4_readAll_102 rfl (lv_at hl 0 rfl) ?_
                  refine lv_if_ne (tgt := 115) hx hb dX4_readAll_103 (by decide) (fun c_103 => ?_) (fun c_103 => ?_)
                  · replace hq := (if_neg c_103).symm.trans hq
                    refine lv_aload_n hx hb dX4_readAll_115 rfl (lv_at hl 1 rfl) ?_
                    refine lv_iconst (v := 5) hx hb dX4_readAll_116 (by decide) ?_
                    refine lv_iconst (v := 2) hx hb dX4_readAll_117 (by decide) ?_
                    refine lv_iconst (v := 0) hx hb dX4_readAll_118 (by decide) ?_
                    refine lv_bipush (v := 50) hx hb dX4_readAll_119 (by decide) ?_
                    have hC := c_X4_put l G m0 te re no tr di ke ik u98.2 u87.2.2 tt 5 2 0 50 (hws) (by first | exact ix_c (by decide) (by decide) | exact ix_nb h9 (by assumption))
                    generalize hu121 : P_X4_put u98.2 u87.2.2 tt 5 2 0 50 = u121 at hC hq
                    refine k_i (ws' := [oMo m0 te re no tr di ke ik u121.2.1, aI G re 101 u121.2.2, aI G te 60 tt]) (as := [m0, re, te]) cx hP hD hS [0, 1, 2] rfl (kr_V (n := 4) (As := [.int 5, .int 2, .int 0, .int 50]) (ci := 4) cx hC gX4_readAll_X4_put rfl rfl rfl (by decide +kernel) ⟨Nat.le_of_ble_eq_true rfl, Nat.le_of_ble_eq_true rfl⟩ rfl rfl rfl hP hD [0, 1, 2] rfl rfl rfl rfl hl (Nat.le_of_ble_eq_true rfl) dX4_readAll_121 ⟨Nat.le_refl _, Nat.le_refl _⟩) ⟨rfl, rfl⟩ rfl (fun H locs hP hD hS => ?_)
                    replace h9 := put_9 hu121 (by decide) h9
                    replace hws := put_ws hu121 hws
                    refine lv_if_eq (tgt := 140) hx hb dX4_readAll_124 (by decide) (fun c_124 => ?_) (fun c_124 => ?_)
                    · replace hq := (if_pos c_124).symm.trans hq
                      refine lv_iconst (v := 0) hx hb dX4_readAll_140 (by decide) ?_
                      subst hq
                      exact k_zret (v := 0) (w1 := [oMo m0 te re no tr di ke ik u121.2.1, aI G re 101 u121.2.2, aI G te 60 tt]) cx (rfl) hP hS dX4_readAll_141
                    · replace hq := (if_neg c_124).symm.trans hq
                      refine lv_aload_n hx hb dX4_readAll_127 rfl (lv_at hl 1 rfl) ?_
                      refine lv_bipush (v := 6) hx hb dX4_readAll_128 (by decide) ?_
                      refine lv_iconst (v := 2) hx hb dX4_readAll_130 (by decide) ?_
                      refine lv_iconst (v := 0) hx hb dX4_readAll_131 (by decide) ?_
                      refine lv_bipush (v := 20) hx hb dX4_readAll_132 (by decide) ?_
                      have hC := c_X4_put l G m0 te re no tr di ke ik u121.2.1 u121.2.2 tt 6 2 0 20 (hws) (by first | exact ix_c (by decide) (by decide) | exact ix_nb h9 (by assumption))
                      generalize hu134 : P_X4_put u121.2.1 u121.2.2 tt 6 2 0 20 = u134 at hC hq
                      refine k_i (ws' := [oMo m0 te re no tr di ke ik u134.2.1, aI G re 101 u134.2.2, aI G te 60 tt]) (as := [m0, re, te]) cx hP hD hS [0, 1, 2] rfl (kr_V (n := 4) (As := [.int 6, .int 2, .int 0, .int 20]) (ci := 4) cx hC gX4_readAll_X4_put rfl rfl rfl (by decide +kernel) ⟨Nat.le_of_ble_eq_true rfl, Nat.le_of_ble_eq_true rfl⟩ rfl rfl rfl hP hD [0, 1, 2] rfl rfl rfl rfl hl (Nat.le_of_ble_eq_true rfl) dX4_readAll_134 ⟨Nat.le_refl _, Nat.le_refl _⟩) ⟨rfl, rfl⟩ rfl (fun H locs hP hD hS => ?_)
                      replace h9 := put_9 hu134 (by decide) h9
                      replace hws := put_ws hu134 hws
                      refine lv_if_ne (tgt := 142) hx hb dX4_readAll_137 (by decide) (fun c_137 => ?_) (fun c_137 => ?_)
                      · replace hq := (if_neg c_137).symm.trans hq
                        refine lv_aload_n hx hb dX4_readAll_142 rfl (lv_at hl 1 rfl) ?_
                        refine k_get (v := .ref re) (T := TX4) (C := RX4) (N := 11) cx hi_X4_readAll_4 hP 0 rfl rfl 4 (by decide) (by decide +kernel) rfl dX4_readAll_143 ?_
                        refine lv_iconst (v := 5) hx hb dX4_readAll_146 (by decide) ?_
                        refine lv_iload_n hx hb dX4_readAll_147 rfl (lv_at hl 0 rfl) ?_
                        refine lv_if_eq (tgt := 161) hx hb dX4_readAll_148 (by decide) (fun c_148 => ?_) (fun c_148 => ?_)
                        · replace hq := (if_pos c_148).symm.trans hq
                          refine lv_aload_n hx hb dX4_readAll_161 rfl (lv_at hl 1 rfl) ?_
                          refine k_get (v := .ref re) (T := TX4) (C := RX4) (N := 11) cx hi_X4_readAll_4 hP 0 rfl rfl 4 (by decide) (by decide +kernel) rfl dX4_readAll_162 ?_
                          refine lv_iconst (v := 5) hx hb dX4_readAll_165 (by decide) ?_
                          refine k_iald (j := 5) cx hP 1 rfl (by decide) (by unfold vp_in; decide) dX4_readAll_166 ?_
                          refine k_iast (ws' := [oMo m0 te re no tr di ke ik u134.2.1, aI G re 101 (upd u134.2.2 5 (u134.2.2 5)), aI G te 60 tt]) (j := 5) cx hP hD hS 1 rfl (by decide) (by unfold vp_in; decide) rfl dX4_readAll_167 (fun H locs hP hD hS => ?_)
                          exact b_X4_readAll_168 cx m0 te re no tr di ke ik tt  tgt ((7 - ((upd u134.2.2 5 (u134.2.2 5)) 9).toInt).toNat + 1) u134.2.1 (upd u134.2.2 5 (u134.2.2 5)) (hws) (nb_5 h9) (Nat.lt_succ_self _) hq H locs hP hD hS _ (lv_sub hl [1] rfl)
                        · replace hq := (if_neg c_148).symm.trans hq
                          refine lv_aload_n hx hb dX4_readAll_151 rfl (lv_at hl 1 rfl) ?_
                          refine k_get (v := .ref re) (T := TX4) (C := RX4) (N := 11) cx hi_X4_readAll_4 hP 0 rfl rfl 4 (by decide) (by decide +kernel) rfl dX4_readAll_152 ?_
                          refine lv_iconst (v := 5) hx hb dX4_readAll_155 (by decide) ?_
                          refine k_iald (j := 5) cx hP 1 rfl (by decide) (by unfold vp_in; decide) dX4_readAll_156 ?_
                          refine lv_ineg hx hb dX4_readAll_157 ?_
                          refine lv_goto (tgt := 167) hx hb dX4_readAll_158 (by decide) ?_
                          refine k_iast (ws' := [oMo m0 te re no tr di ke ik u134.2.1, aI G re 101 (upd u134.2.2 5 (-(u134.2.2 5))), aI G te 60 tt]) (j := 5) cx hP hD hS 1 rfl (by decide) (by unfold vp_in; decide) rfl dX4_readAll_167 (fun H locs hP hD hS => ?_)
                          exact b_X4_readAll_168 cx m0 te re no tr di ke ik tt  tgt ((7 - ((upd u134.2.2 5 (-(u134.2.2 5))) 9).toInt).toNat + 1) u134.2.1 (upd u134.2.2 5 (-(u134.2.2 5))) (hws) (nb_5 h9) (Nat.lt_succ_self _) hq H locs hP hD hS _ (lv_sub hl [1] rfl)
                      · replace hq := (if_pos c_137).symm.trans hq
                        refine lv_iconst (v := 0) hx hb dX4_readAll_140 (by decide) ?_
                        subst hq
                        exact k_zret (v := 0) (w1 := [oMo m0 te re no tr di ke ik u134.2.1, aI G re 101 u134.2.2, aI G te 60 tt]) cx (rfl) hP hS dX4_readAll_141
                  · replace hq := (if_pos c_103).symm.trans hq
                    refine lv_aload_n hx hb dX4_readAll_106 rfl (lv_at hl 1 rfl) ?_
                    refine lv_bipush (v := 43) hx hb dX4_readAll_107 (by decide) ?_
                    have hC := c_X4_eat l G m0 te re no tr di ke ik u98.2 tt 43 (hws)
                    generalize hu109 : P_X4_eat u98.2 tt 43 = u109 at hC hq
                    refine k_i (ws' := [oMo m0 te re no tr di ke ik u109.2, aI G re 101 u87.2.2, aI G te 60 tt]) (as := [m0, te]) cx hP hD hS [0, 2] rfl (kr_V (n := 1) (As := [.int 43]) (ci := 4) cx hC gX4_readAll_X4_eat rfl rfl rfl (by decide +kernel) ⟨Nat.le_of_ble_eq_true rfl, Nat.le_of_ble_eq_true rfl⟩ rfl rfl rfl hP hD [0, 2] rfl rfl rfl rfl hl (Nat.le_of_ble_eq_true rfl) dX4_readAll_109 ⟨Nat.le_refl _, Nat.le_refl _⟩) ⟨rfl, rfl⟩ rfl (fun H locs hP hD hS => ?_)
                    replace hws := eat_ws hu109 hws
                    refine lv_if_eq (tgt := 140) hx hb dX4_readAll_112 (by decide) (fun c_112 => ?_) (fun c_112 => ?_)
                    · replace hq := (if_pos c_112).symm.trans hq
                      refine lv_iconst (v := 0) hx hb dX4_readAll_140 (by decide) ?_
                      subst hq
                      exact k_zret (v := 0) (w1 := [oMo m0 te re no tr di ke ik u109.2, aI G re 101 u87.2.2, aI G te 60 tt]) cx (rfl) hP hS dX4_readAll_141
                    · replace hq := (if_neg c_112).symm.trans hq
                      refine lv_aload_n hx hb dX4_readAll_115 rfl (lv_at hl 1 rfl) ?_
                      refine lv_iconst (v := 5) hx hb dX4_readAll_116 (by decide) ?_
                      refine lv_iconst (v := 2) hx hb dX4_readAll_117 (by decide) ?_
                      refine lv_iconst (v := 0) hx hb dX4_readAll_118 (by decide) ?_
                      refine lv_bipush (v := 50) hx hb dX4_readAll_119 (by decide) ?_
                      have hC := c_X4_put l G m0 te re no tr di ke ik u109.2 u87.2.2 tt 5 2 0 50 (hws) (by first | exact ix_c (by decide) (by decide) | exact ix_nb h9 (by assumption))
                      generalize hu121 : P_X4_put u109.2 u87.2.2 tt 5 2 0 50 = u121 at hC hq
                      refine k_i (ws' := [oMo m0 te re no tr di ke ik u121.2.1, aI G re 101 u121.2.2, aI G te 60 tt]) (as := [m0, re, te]) cx hP hD hS [0, 1, 2] rfl (kr_V (n := 4) (As := [.int 5, .int 2, .int 0, .int 50]) (ci := 4) cx hC gX4_readAll_X4_put rfl rfl rfl (by decide +kernel) ⟨Nat.le_of_ble_eq_true rfl, Nat.le_of_ble_eq_true rfl⟩ rfl rfl rfl hP hD [0, 1, 2] rfl rfl rfl rfl hl (Nat.le_of_ble_eq_true rfl) dX4_readAll_121 ⟨Nat.le_refl _, Nat.le_refl _⟩) ⟨rfl, rfl⟩ rfl (fun H locs hP hD hS => ?_)
                      replace h9 := put_9 hu121 (by decide) h9
                      replace hws := put_ws hu121 hws
                      refine lv_if_eq (tgt := 140) hx hb dX4_readAll_124 (by decide) (fun c_124 => ?_) (fun c_124 => ?_)
                      · replace hq := (if_pos c_124).symm.trans hq
                        refine lv_iconst (v := 0) hx hb dX4_readAll_140 (by decide) ?_
                        subst hq
                        exact k_zret (v := 0) (w1 := [oMo m0 te re no tr di ke ik u121.2.1, aI G re 101 u121.2.2, aI G te 60 tt]) cx (rfl) hP hS dX4_readAll_141
                      · replace hq := (if_neg c_124).symm.trans hq
                        refine lv_aload_n hx hb dX4_readAll_127 rfl (lv_at hl 1 rfl) ?_
                        refine lv_bipush (v := 6) hx hb dX4_readAll_128 (by decide) ?_
                        refine lv_iconst (v := 2) hx hb dX4_readAll_130 (by decide) ?_
                        refine lv_iconst (v := 0) hx hb dX4_readAll_131 (by decide) ?_
                        refine lv_bipush (v := 20) hx hb dX4_readAll_132 (by decide) ?_
                        have hC := c_X4_put l G m0 te re no tr di ke ik u121.2.1 u121.2.2 tt 6 2 0 20 (hws) (by first | exact ix_c (by decide) (by decide) | exact ix_nb h9 (by assumption))
                        generalize hu134 : P_X4_put u121.2.1 u121.2.2 tt 6 2 0 20 = u134 at hC hq
                        refine k_i (ws' := [oMo m0 te re no tr di ke ik u134.2.1, aI G re 101 u134.2.2, aI G te 60 tt]) (as := [m0, re, te]) cx hP hD hS [0, 1, 2] rfl (kr_V (n := 4) (As := [.int 6, .int 2, .int 0, .int 20]) (ci := 4) cx hC gX4_readAll_X4_put rfl rfl rfl (by decide +kernel) ⟨Nat.le_of_ble_eq_true rfl, Nat.le_of_ble_eq_true rfl⟩ rfl rfl rfl hP hD [0, 1, 2] rfl rfl rfl rfl hl (Nat.le_of_ble_eq_true rfl) dX4_readAll_134 ⟨Nat.le_refl _, Nat.le_refl _⟩) ⟨rfl, rfl⟩ rfl (fun H locs hP hD hS => ?_)
                        replace h9 := put_9 hu134 (by decide) h9
                        replace hws := put_ws hu134 hws
                        refine lv_if_ne (tgt := 142) hx hb dX4_readAll_137 (by decide) (fun c_137 => ?_) (fun c_137 => ?_)
                        · replace hq := (if_neg c_137).symm.trans hq
                          refine lv_aload_n hx hb dX4_readAll_142 rfl (lv_at hl 1 rfl) ?_
                          refine k_get (v := .ref re) (T := TX4) (C := RX4) (N := 11) cx hi_X4_readAll_4 hP 0 rfl rfl 4 (by decide) (by decide +kernel) rfl dX4_readAll_143 ?_
                          refine lv_iconst (v := 5) hx hb dX4_readAll_146 (by decide) ?_
                          refine lv_iload_n hx hb dX4_readAll_147 rfl (lv_at hl 0 rfl) ?_
                          refine lv_if_eq (tgt := 161) hx hb dX4_readAll_148 (by decide) (fun c_148 => ?_) (fun c_148 => ?_)
                          · replace hq := (if_pos c_148).symm.trans hq
                            refine lv_aload_n hx hb dX4_readAll_161 rfl (lv_at hl 1 rfl) ?_
                            refine k_get (v := .ref re) (T := TX4) (C := RX4) (N := 11) cx hi_X4_readAll_4 hP 0 rfl rfl 4 (by decide) (by decide +kernel) rfl dX4_readAll_162 ?_
                            refine lv_iconst (v := 5) hx hb dX4_readAll_165 (by decide) ?_
                            refine k_iald (j := 5) cx hP 1 rfl (by decide) (by unfold vp_in; decide) dX4_readAll_166 ?_
                            refine k_iast (ws' := [oMo m0 te re no tr di ke ik u134.2.1, aI G re 101 (upd u134.2.2 5 (u134.2.2 5)), aI G te 60 tt]) (j := 5) cx hP hD hS 1 rfl (by decide) (by unfold vp_in; decide) rfl dX4_readAll_167 (fun H locs hP hD hS => ?_)
                            exact b_X4_readAll_168 cx m0 te re no tr di ke ik tt  tgt ((7 - ((upd u134.2.2 5 (u134.2.2 5)) 9).toInt).toNat + 1) u134.2.1 (upd u134.2.2 5 (u134.2.2 5)) (hws) (nb_5 h9) (Nat.lt_succ_self _) hq H locs hP hD hS _ (lv_sub hl [1] rfl)
                          · replace hq := (if_neg c_148).symm.trans hq
                            refine lv_aload_n hx hb dX4_readAll_151 rfl (lv_at hl 1 rfl) ?_
                            refine k_get (v := .ref re) (T := TX4) (C := RX4) (N := 11) cx hi_X4_readAll_4 hP 0 rfl rfl 4 (by decide) (by decide +kernel) rfl dX4_readAll_152 ?_
                            refine lv_iconst (v := 5) hx hb dX4_readAll_155 (by decide) ?_
                            refine k_iald (j := 5) cx hP 1 rfl (by decide) (by unfold vp_in; decide) dX4_readAll_156 ?_
                            refine lv_ineg hx hb dX4_readAll_157 ?_
                            refine lv_goto (tgt := 167) hx hb dX4_readAll_158 (by decide) ?_
                            refine k_iast (ws' := [oMo m0 te re no tr di ke ik u134.2.1, aI G re 101 (upd u134.2.2 5 (-(u134.2.2 5))), aI G te 60 tt]) (j := 5) cx hP hD hS 1 rfl (by decide) (by unfold vp_in; decide) rfl dX4_readAll_167 (fun H locs hP hD hS => ?_)
                            exact b_X4_readAll_168 cx m0 te re no tr di ke ik tt  tgt ((7 - ((upd u134.2.2 5 (-(u134.2.2 5))) 9).toInt).toNat + 1) u134.2.1 (upd u134.2.2 5 (-(u134.2.2 5))) (hws) (nb_5 h9) (Nat.lt_succ_self _) hq H locs hP hD hS _ (lv_sub hl [1] rfl)
                        · replace hq := (if_pos c_137).symm.trans hq
                          refine lv_iconst (v := 0) hx hb dX4_readAll_140 (by decide) ?_
                          subst hq
                          exact k_zret (v := 0) (w1 := [oMo m0 te re no tr di ke ik u134.2.1, aI G re 101 u134.2.2, aI G te 60 tt]) cx (rfl) hP hS dX4_readAll_141
                · replace hq := (if_pos c_90).symm.trans hq
                  refine lv_iconst (v := 0) hx hb dX4_readAll_93 (by decide) ?_
                  subst hq
                  exact k_zret (v := 0) (w1 := [oMo m0 te re no tr di ke ik u87.2.1, aI G re 101 u87.2.2, aI G te 60 tt]) cx (rfl) hP hS dX4_readAll_94
    · replace hq := (if_neg c_10).symm.trans hq
      refine lv_aload_n hx hb dX4_readAll_13 rfl (lv_at hl 0 rfl) ?_
      refine k_get (v := .ref re) (T := TX4) (C := RX4) (N := 11) cx hi_X4_readAll_4 hP 0 rfl rfl 4 (by decide) (by decide +kernel) rfl dX4_readAll_14 ?_
      refine lv_iload_n hx hb dX4_readAll_17 rfl (lv_at hl 1 rfl) ?_
      refine lv_iconst (v := 0) hx hb dX4_readAll_18 (by decide) ?_
      refine k_iast (ws' := [oMo m0 te re no tr di ke ik mf, aI G re 101 (upd pr v1.toNatClampNeg 0), aI G te 60 tt]) (j := v1.toNatClampNeg) cx hP hD hS 1 rfl rfl (ix_le h0 (N := (101 : Int32)) (by assumption) (by decide)) rfl dX4_readAll_19 (fun H locs hP hD hS => ?_)
      refine lv_iinc (v := (v1 + 1)) (lv' := [(1, .int (v1 + 1)), (0, .ref m0)]) hx hb dX4_readAll_20 hl (k := 1) rfl rfl (by decide) rfl (fun ls hl => ?_)
      refine lv_goto (tgt := 7) hx hb dX4_readAll_23 (by decide) ?_
      exact ih (v1 + 1) mf (upd pr v1.toNatClampNeg 0) (nn_inc h0 (N := (101 : Int32)) (by assumption)) (hws) (zr_s hz h0 (by assumption)) (by have hmd := mu_up (N := (101 : Int32)) (by assumption); omega) hq H locs hP hD hS _ (lv_sub hl [1, 0] rfl)
def P_X4_readAll (mf : Nat → Int32) (pr : Nat → Int32) (tt : Nat → Int32) : Int32 × (Nat → Int32) × (Nat → Int32) := (P_X4_readAll_7 tt (((101 : Int32).toInt - (0 : Int32).toInt).toNat + 1) 0 (upd mf 3 0) pr)
set_option maxHeartbeats 4000000 in
set_option maxRecDepth 100000 in
theorem c_X4_readAll (l : Launch) (G : gG) (m0 : Nat) (te : Nat) (re : Nat) (no : Nat) (tr : Nat) (di : Nat) (ke : Nat) (ik : Nat) (mf : Nat → Int32) (pr : Nat → Int32) (tt : Nat → Int32) (htb : TB (mf 2)) : kM l G yX4_readAll wsX4_readAll rm_X4_readAll [.ref m0] [oMo m0 te re no tr di ke ik mf, aI G re 101 pr, aI G te 60 tt] (qI G ((P_X4_readAll mf pr tt).1) [oMo m0 te re no tr di ke ik ((P_X4_readAll mf pr tt).2.1), aI G re 101 ((P_X4_readAll mf pr tt).2.2), aI G te 60 tt]) := by
  refine k_body (cc := cX4_readAll) (nL := 2) (ret := (some .boolean)) (by decide) rfl (Nat.le_of_ble_eq_true rfl) ?_
  intro p e s m args below meth c A cx hP hD hS ls hl
  obtain ⟨hx, hb, hml, hown, hts, hr, hlocks, hK, hA⟩ := id cx
  obtain ⟨H, hH⟩ : ∃ H, H = s.heap := ⟨_, rfl⟩
  obtain ⟨locs, hL⟩ : ∃ locs : List Loc, locs = [] := ⟨_, rfl⟩
  obtain ⟨tgt, hq⟩ : ∃ tgt, (P_X4_readAll mf pr tt) = tgt := ⟨_, rfl⟩
  have hS : va_S A s.heap H locs := by rw [hH, hL]; exact hS
  rw [← hH] at hP
  have hl : lv_has ls 2 [(0, .ref m0)] := hl
  have key : ∀ (H : Heap) (locs : List Loc), va_P G.1 vwCl [oMo m0 te re no tr di ke ik mf, aI G re 101 pr, aI G te 60 tt] H → va_D A [oMo m0 te re no tr di ke ik mf, aI G re 101 pr, aI G te 60 tt] → va_S A s.heap H locs → W p l e rm_X4_readAll s m args below meth c H locs 0 0 (Q_X4_readAll G m0 te re no tr di ke ik tt tgt below args s A) (F0 m 0 ls []) := by
    clear hP hD hS hH hL
    intro H locs hP hD hS
    unfold P_X4_readAll at hq
    refine lv_aload_n hx hb dX4_readAll_0 rfl (lv_at hl 0 rfl) ?_
    refine lv_iconst (v := 0) hx hb dX4_readAll_1 (by decide) ?_
    refine k_put (ws' := [oMo m0 te re no tr di ke ik (upd mf 3 0), aI G re 101 pr, aI G te 60 tt]) (ty := .int) (T := TX4) (C := RX4) (N := 11) cx hi_X4_readAll_4 tyX4_ok nmX4 hP hD hS 0 rfl rfl 3 (by decide) (by decide +kernel) rfl rfl rfl rfl (Nat.le_of_ble_eq_true rfl) rfl dX4_readAll_2 (fun H locs hP hD hS => ?_)
    refine lv_iconst (v := 0) hx hb dX4_readAll_5 (by decide) ?_
    refine lv_istore_n (lv' := [(1, .int 0), (0, .ref m0)]) hx hb dX4_readAll_6 rfl hl (by decide) rfl (fun ls hl => ?_)
    exact b_X4_readAll_7 cx m0 te re no tr di ke ik tt  tgt (((101 : Int32).toInt - (0 : Int32).toInt).toNat + 1) 0 (upd mf 3 0) pr (by decide) (ws_0 htb) (zr_0 _) (Nat.lt_succ_self _) hq H locs hP hD hS _ (lv_sub hl [1, 0] rfl)
  subst hL
  subst hH
  subst hq
  exact key _ _ hP hD hS

/-! X4_errorPosition -/
theorem hi_X4_errorPosition_4 : ∀ w ∈ u_ws RX4 TX4 11, w ∈ wsX4_errorPosition := by decide +kernel
abbrev rm_X4_errorPosition : Room := { frames := 4, cells := 0, slots := 0, locals := 97 }
abbrev Q_X4_errorPosition (G : gG) (m0 : Nat) (te : Nat) (re : Nat) (no : Nat) (tr : Nat) (di : Nat) (ke : Nat) (ik : Nat)  (tt : Nat → Int32) (tgt : Int32 × (Nat → Int32) × (Nat → Int32)) (below : List Frame) (args : Array Value) (s : State) (A : Nat → Prop) : State → Prop := MQ below (qI G tgt.1 [oMo m0 te re no tr di ke ik tgt.2.1, aI G re 101 tgt.2.2, aI G te 60 tt] A) args s 0 0 A
def P_X4_errorPosition (mf : Nat → Int32) (pr : Nat → Int32) (tt : Nat → Int32) : Int32 × (Nat → Int32) × (Nat → Int32) := (let u6 := P_X4_readAll (upd mf 0 0) pr tt; (if u6.1 = 0 then ((u6.2.1 3), u6.2.1, u6.2.2) else ((-9999), u6.2.1, u6.2.2)))
set_option maxHeartbeats 4000000 in
set_option maxRecDepth 100000 in
theorem c_X4_errorPosition (l : Launch) (G : gG) (m0 : Nat) (te : Nat) (re : Nat) (no : Nat) (tr : Nat) (di : Nat) (ke : Nat) (ik : Nat) (mf : Nat → Int32) (pr : Nat → Int32) (tt : Nat → Int32) (htb : TB (mf 2)) : kM l G yX4_errorPosition wsX4_errorPosition rm_X4_errorPosition [.ref m0] [oMo m0 te re no tr di ke ik mf, aI G re 101 pr, aI G te 60 tt] (qI G ((P_X4_errorPosition mf pr tt).1) [oMo m0 te re no tr di ke ik ((P_X4_errorPosition mf pr tt).2.1), aI G re 101 ((P_X4_errorPosition mf pr tt).2.2), aI G te 60 tt]) := by
  refine k_body (cc := cX4_errorPosition) (nL := 1) (ret := (some .int)) (by decide) rfl (Nat.le_of_ble_eq_true rfl) ?_
  intro p e s m args below meth c A cx hP hD hS ls hl
  obtain ⟨hx, hb, hml, hown, hts, hr, hlocks, hK, hA⟩ := id cx
  obtain ⟨H, hH⟩ : ∃ H, H = s.heap := ⟨_, rfl⟩
  obtain ⟨locs, hL⟩ : ∃ locs : List Loc, locs = [] := ⟨_, rfl⟩
  obtain ⟨tgt, hq⟩ : ∃ tgt, (P_X4_errorPosition mf pr tt) = tgt := ⟨_, rfl⟩
  have hS : va_S A s.heap H locs := by rw [hH, hL]; exact hS
  rw [← hH] at hP
  have hl : lv_has ls 1 [(0, .ref m0)] := hl
  have key : ∀ (H : Heap) (locs : List Loc), va_P G.1 vwCl [oMo m0 te re no tr di ke ik mf, aI G re 101 pr, aI G te 60 tt] H → va_D A [oMo m0 te re no tr di ke ik mf, aI G re 101 pr, aI G te 60 tt] → va_S A s.heap H locs → W p l e rm_X4_errorPosition s m args below meth c H locs 0 0 (Q_X4_errorPosition G m0 te re no tr di ke ik tt tgt below args s A) (F0 m 0 ls []) := by
    clear hP hD hS hH hL
    intro H locs hP hD hS
    unfold P_X4_errorPosition at hq
    refine lv_aload_n hx hb dX4_errorPosition_0 rfl (lv_at hl 0 rfl) ?_
    refine lv_iconst (v := 0) hx hb dX4_errorPosition_1 (by decide) ?_
    refine k_put (ws' := [oMo m0 te re no tr di ke ik (upd mf 0 0), aI G re 101 pr, aI G te 60 tt]) (ty := .int) (T := TX4) (C := RX4) (N := 11) cx hi_X4_errorPosition_4 tyX4_ok nmX4 hP hD hS 0 rfl rfl 0 (by decide) (by decide +kernel) rfl rfl rfl rfl (Nat.le_of_ble_eq_true rfl) rfl dX4_errorPosition_2 (fun H locs hP hD hS => ?_)
    refine lv_aload_n hx hb dX4_errorPosition_5 rfl (lv_at hl 0 rfl) ?_
    have hC := c_X4_readAll l G m0 te re no tr di ke ik (upd mf 0 0) pr tt (htb)
    generalize hu6 : P_X4_readAll (upd mf 0 0) pr tt = u6 at hC hq
    refine k_i (ws' := [oMo m0 te re no tr di ke ik u6.2.1, aI G re 101 u6.2.2, aI G te 60 tt]) (as := [m0, re, te]) cx hP hD hS [0, 1, 2] rfl (kr_V (n := 0) (As := []) (ci := 4) cx hC gX4_errorPosition_X4_readAll rfl rfl rfl (by decide +kernel) ⟨Nat.le_of_ble_eq_true rfl, Nat.le_of_ble_eq_true rfl⟩ rfl rfl rfl hP hD [0, 1, 2] rfl rfl rfl rfl hl (Nat.le_of_ble_eq_true rfl) dX4_errorPosition_6 ⟨Nat.le_refl _, Nat.le_refl _⟩) ⟨rfl, rfl⟩ rfl (fun H locs hP hD hS => ?_)
    refine lv_if_eq (tgt := 18) hx hb dX4_errorPosition_9 (by decide) (fun c_9 => ?_) (fun c_9 => ?_)
    · replace hq := (if_pos c_9).symm.trans hq
      refine lv_aload_n hx hb dX4_errorPosition_18 rfl (lv_at hl 0 rfl) ?_
      refine k_get (v := .int (u6.2.1 3)) (T := TX4) (C := RX4) (N := 11) cx hi_X4_errorPosition_4 hP 0 rfl rfl 3 (by decide) (by decide +kernel) rfl dX4_errorPosition_19 ?_
      subst hq
      exact k_iret cx hP hS dX4_errorPosition_22
    · replace hq := (if_neg c_9).symm.trans hq
      refine lv_sipush (v := (-9999)) hx hb dX4_errorPosition_12 (by decide) ?_
      refine lv_goto (tgt := 22) hx hb dX4_errorPosition_15 (by decide) ?_
      subst hq
      exact k_iret cx hP hS dX4_errorPosition_22
  subst hL
  subst hH
  subst hq
  exact key _ _ hP hD hS

/-! X4_load -/
theorem hi_X4_load_4 : ∀ w ∈ u_ws RX4 TX4 11, w ∈ wsX4_load := by decide +kernel
abbrev rm_X4_load : Room := { frames := 4, cells := 0, slots := 0, locals := 97 }
abbrev Q_X4_load (G : gG) (m0 : Nat) (te : Nat) (re : Nat) (no : Nat) (tr : Nat) (di : Nat) (ke : Nat) (ik : Nat)  (tt : Nat → Int32) (tgt : Int32 × (Nat → Int32) × (Nat → Int32) × (Nat → Int32) × (Nat → Int32)) (below : List Frame) (args : Array Value) (s : State) (A : Nat → Prop) : State → Prop := MQ below (qI G tgt.1 [oMo m0 te re no tr di ke ik tgt.2.1, aI G re 101 tgt.2.2.1, aI G no 101 tgt.2.2.2.1, aI G te 60 tt, aZ G ik 2 tgt.2.2.2.2] A) args s 0 0 A
def P_X4_load (mf : Nat → Int32) (pr : Nat → Int32) (pn : Nat → Int32) (tt : Nat → Int32) (ki : Nat → Int32) : Int32 × (Nat → Int32) × (Nat → Int32) × (Nat → Int32) × (Nat → Int32) := (let u2 := P_X4_readAll mf pr tt; (if u2.1 = 0 then (0, (upd u2.2.1 0 1), u2.2.2, pn, ki) else (let u31 := P_X4_copyPage 101 101 u2.2.2 pn 0 0; ((u31 9), (upd (upd u2.2.1 0 0) 8 0), u2.2.2, u31, (upd (upd ki 0 0) 1 0)))))
set_option maxHeartbeats 4000000 in
set_option maxRecDepth 100000 in
theorem c_X4_load (l : Launch) (G : gG) (m0 : Nat) (te : Nat) (re : Nat) (no : Nat) (tr : Nat) (di : Nat) (ke : Nat) (ik : Nat) (mf : Nat → Int32) (pr : Nat → Int32) (pn : Nat → Int32) (tt : Nat → Int32) (ki : Nat → Int32) (htb : TB (mf 2)) : kM l G yX4_load wsX4_load rm_X4_load [.ref m0] [oMo m0 te re no tr di ke ik mf, aI G re 101 pr, aI G no 101 pn, aI G te 60 tt, aZ G ik 2 ki] (qI G ((P_X4_load mf pr pn tt ki).1) [oMo m0 te re no tr di ke ik ((P_X4_load mf pr pn tt ki).2.1), aI G re 101 ((P_X4_load mf pr pn tt ki).2.2.1), aI G no 101 ((P_X4_load mf pr pn tt ki).2.2.2.1), aI G te 60 tt, aZ G ik 2 ((P_X4_load mf pr pn tt ki).2.2.2.2)]) := by
  refine k_body (cc := cX4_load) (nL := 1) (ret := (some .int)) (by decide) rfl (Nat.le_of_ble_eq_true rfl) ?_
  intro p e s m args below meth c A cx hP hD hS ls hl
  obtain ⟨hx, hb, hml, hown, hts, hr, hlocks, hK, hA⟩ := id cx
  obtain ⟨H, hH⟩ : ∃ H, H = s.heap := ⟨_, rfl⟩
  obtain ⟨locs, hL⟩ : ∃ locs : List Loc, locs = [] := ⟨_, rfl⟩
  obtain ⟨tgt, hq⟩ : ∃ tgt, (P_X4_load mf pr pn tt ki) = tgt := ⟨_, rfl⟩
  have hS : va_S A s.heap H locs := by rw [hH, hL]; exact hS
  rw [← hH] at hP
  have hl : lv_has ls 1 [(0, .ref m0)] := hl
  have key : ∀ (H : Heap) (locs : List Loc), va_P G.1 vwCl [oMo m0 te re no tr di ke ik mf, aI G re 101 pr, aI G no 101 pn, aI G te 60 tt, aZ G ik 2 ki] H → va_D A [oMo m0 te re no tr di ke ik mf, aI G re 101 pr, aI G no 101 pn, aI G te 60 tt, aZ G ik 2 ki] → va_S A s.heap H locs → W p l e rm_X4_load s m args below meth c H locs 0 0 (Q_X4_load G m0 te re no tr di ke ik tt tgt below args s A) (F0 m 0 ls []) := by
    clear hP hD hS hH hL
    intro H locs hP hD hS
    unfold P_X4_load at hq
    refine lv_aload_n hx hb dX4_load_0 rfl (lv_at hl 0 rfl) ?_
    refine lv_aload_n hx hb dX4_load_1 rfl (lv_at hl 0 rfl) ?_
    have hC := c_X4_readAll l G m0 te re no tr di ke ik mf pr tt (htb)
    generalize hu2 : P_X4_readAll mf pr tt = u2 at hC hq
    refine k_i (ws' := [oMo m0 te re no tr di ke ik u2.2.1, aI G re 101 u2.2.2, aI G no 101 pn, aI G te 60 tt, aZ G ik 2 ki]) (as := [m0, re, te]) cx hP hD hS [0, 1, 3] rfl (kr_V (n := 0) (As := []) (ci := 4) cx hC gX4_load_X4_readAll rfl rfl rfl (by decide +kernel) ⟨Nat.le_of_ble_eq_true rfl, Nat.le_of_ble_eq_true rfl⟩ rfl rfl rfl hP hD [0, 1, 3] rfl rfl rfl rfl hl (Nat.le_of_ble_eq_true rfl) dX4_load_2 ⟨Nat.le_refl _, Nat.le_refl _⟩) ⟨rfl, rfl⟩ rfl (fun H locs hP hD hS => ?_)
    refine lv_if_eq (tgt := 12) hx hb dX4_load_5 (by decide) (fun c_5 => ?_) (fun c_5 => ?_)
    · replace hq := (if_pos c_5).symm.trans hq
      refine lv_iconst (v := 1) hx hb dX4_load_12 (by decide) ?_
      have hC := c_X4_refused l G m0 te re no tr di ke ik u2.2.1 1
      rw [ref_1] at hC
      refine k_i (r := 1) (ws' := [oMo m0 te re no tr di ke ik (upd u2.2.1 0 1), aI G re 101 u2.2.2, aI G no 101 pn, aI G te 60 tt, aZ G ik 2 ki]) (as := [m0]) cx hP hD hS [0] rfl (kr_V (n := 1) (As := [.int 1]) (ci := 4) cx hC gX4_load_X4_refused rfl rfl rfl (by decide +kernel) ⟨Nat.le_of_ble_eq_true rfl, Nat.le_of_ble_eq_true rfl⟩ rfl rfl rfl hP hD [0] rfl rfl rfl rfl hl (Nat.le_of_ble_eq_true rfl) dX4_load_13 ⟨Nat.le_refl _, Nat.le_refl _⟩) ⟨rfl, rfl⟩ rfl (fun H locs hP hD hS => ?_)
      refine lv_if_eq (tgt := 21) hx hb dX4_load_16 (by decide) (fun cz => absurd cz (by decide)) (fun _ => ?_)
      refine lv_iconst (v := 0) hx hb dX4_load_19 (by decide) ?_
      subst hq
      exact k_iret cx hP hS dX4_load_20
    · replace hq := (if_neg c_5).symm.trans hq
      refine lv_iconst (v := 0) hx hb dX4_load_8 (by decide) ?_
      refine lv_goto (tgt := 13) hx hb dX4_load_9 (by decide) ?_
      have hC := c_X4_refused l G m0 te re no tr di ke ik u2.2.1 0
      rw [ref_0] at hC
      refine k_i (r := 0) (ws' := [oMo m0 te re no tr di ke ik (upd u2.2.1 0 0), aI G re 101 u2.2.2, aI G no 101 pn, aI G te 60 tt, aZ G ik 2 ki]) (as := [m0]) cx hP hD hS [0] rfl (kr_V (n := 1) (As := [.int 0]) (ci := 4) cx hC gX4_load_X4_refused rfl rfl rfl (by decide +kernel) ⟨Nat.le_of_ble_eq_true rfl, Nat.le_of_ble_eq_true rfl⟩ rfl rfl rfl hP hD [0] rfl rfl rfl rfl hl (Nat.le_of_ble_eq_true rfl) dX4_load_13 ⟨Nat.le_refl _, Nat.le_refl _⟩) ⟨rfl, rfl⟩ rfl (fun H locs hP hD hS => ?_)
      refine lv_if_eq (tgt := 21) hx hb dX4_load_16 (by decide) (fun _ => ?_) (fun cz => absurd (by decide) cz)
      refine lv_aload_n hx hb dX4_load_21 rfl (lv_at hl 0 rfl) ?_
      refine k_get (v := .ref re) (T := TX4) (C := RX4) (N := 11) cx hi_X4_load_4 hP 0 rfl rfl 4 (by decide) (by decide +kernel) rfl dX4_load_22 ?_
      refine lv_iconst (v := 0) hx hb dX4_load_25 (by decide) ?_
      refine lv_aload_n hx hb dX4_load_26 rfl (lv_at hl 0 rfl) ?_
      refine k_get (v := .ref no) (T := TX4) (C := RX4) (N := 11) cx hi_X4_load_4 hP 0 rfl rfl 5 (by decide) (by decide +kernel) rfl dX4_load_27 ?_
      refine lv_iconst (v := 0) hx hb dX4_load_30 (by decide) ?_
      have hC := c_X4_copyPage l G re no 101 101 u2.2.2 pn 0 0 (by first | exact cp0 | assumption) (by first | exact cp0 | assumption)
      generalize hu31 : P_X4_copyPage 101 101 u2.2.2 pn 0 0 = u31 at hC hq
      refine k_v (ws' := [oMo m0 te re no tr di ke ik (upd u2.2.1 0 0), aI G re 101 u2.2.2, aI G no 101 u31, aI G te 60 tt, aZ G ik 2 ki]) (as := [re, no]) cx hP hD hS [1, 2] rfl (kr_S (n := 4) (As := [.ref re, .int 0, .ref no, .int 0]) cx hC gX4_load_X4_copyPage rfl rfl rfl (by decide +kernel) ⟨Nat.le_of_ble_eq_true rfl, Nat.le_of_ble_eq_true rfl⟩ hP hD [1, 2] rfl rfl rfl rfl hl (Nat.le_of_ble_eq_true rfl) dX4_load_31 ⟨Nat.le_refl _, Nat.le_refl _⟩) ⟨rfl, rfl⟩ rfl (fun H locs hP hD hS => ?_)
      refine lv_aload_n hx hb dX4_load_34 rfl (lv_at hl 0 rfl) ?_
      refine lv_iconst (v := 0) hx hb dX4_load_35 (by decide) ?_
      refine k_put (ws' := [oMo m0 te re no tr di ke ik (upd (upd u2.2.1 0 0) 8 0), aI G re 101 u2.2.2, aI G no 101 u31, aI G te 60 tt, aZ G ik 2 ki]) (ty := .int) (T := TX4) (C := RX4) (N := 11) cx hi_X4_load_4 tyX4_ok nmX4 hP hD hS 0 rfl rfl 8 (by decide) (by decide +kernel) rfl rfl rfl rfl (Nat.le_of_ble_eq_true rfl) rfl dX4_load_36 (fun H locs hP hD hS => ?_)
      refine lv_aload_n hx hb dX4_load_39 rfl (lv_at hl 0 rfl) ?_
      refine k_get (v := .ref ik) (T := TX4) (C := RX4) (N := 11) cx hi_X4_load_4 hP 0 rfl rfl 10 (by decide) (by decide +kernel) rfl dX4_load_40 ?_
      refine lv_iconst (v := 0) hx hb dX4_load_43 (by decide) ?_
      refine lv_iconst (v := 0) hx hb dX4_load_44 (by decide) ?_
      refine k_zast (ws' := [oMo m0 te re no tr di ke ik (upd (upd u2.2.1 0 0) 8 0), aI G re 101 u2.2.2, aI G no 101 u31, aI G te 60 tt, aZ G ik 2 (upd ki 0 0)]) (j := 0) (z := 0) cx hP hD hS 4 rfl (by decide) (by unfold vp_in; decide) rfl rfl dX4_load_45 (fun H locs hP hD hS => ?_)
      refine lv_aload_n hx hb dX4_load_46 rfl (lv_at hl 0 rfl) ?_
      refine k_get (v := .ref ik) (T := TX4) (C := RX4) (N := 11) cx hi_X4_load_4 hP 0 rfl rfl 10 (by decide) (by decide +kernel) rfl dX4_load_47 ?_
      refine lv_iconst (v := 1) hx hb dX4_load_50 (by decide) ?_
      refine lv_iconst (v := 0) hx hb dX4_load_51 (by decide) ?_
      refine k_zast (ws' := [oMo m0 te re no tr di ke ik (upd (upd u2.2.1 0 0) 8 0), aI G re 101 u2.2.2, aI G no 101 u31, aI G te 60 tt, aZ G ik 2 (upd (upd ki 0 0) 1 0)]) (j := 1) (z := 0) cx hP hD hS 4 rfl (by decide) (by unfold vp_in; decide) rfl rfl dX4_load_52 (fun H locs hP hD hS => ?_)
      refine lv_aload_n hx hb dX4_load_53 rfl (lv_at hl 0 rfl) ?_
      refine k_get (v := .ref no) (T := TX4) (C := RX4) (N := 11) cx hi_X4_load_4 hP 0 rfl rfl 5 (by decide) (by decide +kernel) rfl dX4_load_54 ?_
      refine lv_bipush (v := 9) hx hb dX4_load_57 (by decide) ?_
      refine k_iald (j := 9) cx hP 2 rfl (by decide) (by unfold vp_in; decide) dX4_load_59 ?_
      subst hq
      exact k_iret cx hP hS dX4_load_60
  subst hL
  subst hH
  subst hq
  exact key _ _ hP hD hS
