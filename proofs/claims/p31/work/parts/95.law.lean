/-! the law -/
/-- the law's end, wherever it comes from -/
def FIN (p : Program) (l : Launch) (e : Env) (s : State) (m : MethodId) (args : Array Value) (below : List Frame) (meth : Method) (c : Code) (Qp : State → Prop) (A : Nat → Prop) : Prop := ∀ (H : Heap) (locs : List Loc) (ls : Array Slot) (cells slots : Nat), cells ≤ 600130 → slots ≤ 7301080 → va_S A s.heap H locs → W p l e room_1 s m args below meth c H locs cells slots Qp (F0 m 366 ls [.int 1])
/-- two bridges alike: the law goes on from pc -/
def KW (p : Program) (l : Launch) (e : Env) (s : State) (m : MethodId) (args : Array Value) (below : List Frame) (meth : Method) (c : Code) (Qp : State → Prop) (G : gG) (A : Nat → Prop) (d1 d2 : AD) (pc cells slots : Nat) (loc : List (Nat × Value)) : Prop := ∀ (n : Int32) (tt pg : Pg) (hs : List Pg) (k0 k1 : Option Pg) (x1 x2 : XT) (H : Heap) (locs : List Loc) (ls : Array Slot), OKS pg hs k1 → JNV x1 n tt pg hs k0 k1 → JNV x2 n tt pg hs k0 k1 → va_P G.1 vwCl (wB G d1 x1 (wB G d2 x2 [])) H → va_D A (wB G d1 x1 (wB G d2 x2 [])) → va_S A s.heap H locs → lv_has ls 9 loc → W p l e room_1 s m args below meth c H locs cells slots Qp (F0 m pc ls [])
theorem ax_ok {t : Nat} (ht : t ≤ 1) : 0 ≤ (40 * (nI t)).toInt ∧ (40 * (nI t)).toInt ≤ 1000 := by
  match t, ht with
  | 0, _ => decide
  | 1, _ => decide
theorem nx_ok {t k : Nat} {c : Int32} (ht : t ≤ 1) (hk : k ≤ 11) (hc : 0 ≤ c.toInt ∧ c.toInt ≤ 100) : 0 ≤ (((40 * (nI t)) + c) + (2 * (nI k))).toInt := by
  have a := ax_ok ht
  have z2 : (2 : Int32).toInt = 2 := by decide
  have ek := nI_toInt (n := k) (by omega)
  have m := toI_mul (a := 2) (b := nI k) (by rw [z2, ek]; omega) (by rw [z2, ek]; omega)
  rw [z2, ek] at m
  have s1 := toI_add (a := 40 * (nI t)) (b := c) (by omega) (by omega)
  have s2 := toI_add (a := (40 * (nI t)) + c) (b := 2 * (nI k)) (by omega) (by omega)
  omega
theorem oks_0 {pg : Pg} {hs : List Pg} {k1 : Option Pg} (h : OKS pg hs k1) : OKS pg [] k1 := ⟨h.1, fun _ h9 => absurd h9 List.not_mem_nil, h.2.2⟩
theorem oks_n {pg : Pg} (h : OKP pg) : OKS pg [] none := ⟨h, fun _ h9 => absurd h9 List.not_mem_nil, fun _ h9 => by cases h9⟩
/-! the law's start -/
def x_0 : XT := (z0, z0, z0, (iSt, iOh, z0, z0), (iSt, iOh, z0, z0), z0, fun _ => (iSt, iOh, z0, z0))
theorem j_0 : JNV x_0 0 z0 iNow [] none none := ⟨z0, z0, z0, z0, inv_0, rfl, rfl, ⟨by decide, fun i q h => by simp at h⟩, ⟨fun _ => rfl, fun q h => by cases h⟩, ⟨fun _ => rfl, fun q h => by cases h⟩⟩
theorem okp_0 : OKP iNow := ⟨fun q => absurd (by decide : iNow 12 ≤ 0) q, by decide, by decide, by decide⟩
theorem fe_00 : FE (TI z0) (0 : Int32).toInt.toNat (0 : Int32).toInt := by
  have z : (0 : Int32).toInt.toNat = 0 := by decide
  rw [z]
  exact Or.inr ⟨fun i hi => by omega, Or.inr ⟨by omega, by decide⟩⟩
theorem bs_i : aQ 3 ((P_X4_bestR z0 iNow 0).1, (P_X4_bestR z0 iNow 0).2) = 1500 := by
  obtain ⟨best, h1, h2, -, -, h3⟩ := bm_r (pg := iNow) j_0.pv
  have hT : (P_X4_ten (iNow 1)).toInt * (P_X4_unknown iNow).toInt = 150000 := by decide
  have hP : (P_X4_ten (iNow 0)).toInt = 100 := by decide
  rw [hT, hP] at h3
  have k := h3.2.1 1500 (by decide) (by decide)
  unfold ds at k
  rw [if_pos (show (0 : Int) ≤ 150000 - 100 * 1500 by decide)] at k
  have z : (1500 : Int32).toInt = 1500 := by decide
  refine (show aQ 3 ((P_X4_bestR z0 iNow 0).1, (P_X4_bestR z0 iNow 0).2) = best from h1).trans (Int32.toInt_inj.mp ?_)
  rw [z]
  by_cases c : (0 : Int) ≤ 150000 - 100 * best.toInt
  · rw [if_pos c] at k; omega
  · rw [if_neg c] at k; omega

section WLW
variable {p : Program} {l : Launch} {e : Env} {s : State} {m : MethodId} {args : Array Value} {below : List Frame} {meth : Method} {c : Code} {Qp : State → Prop} {G : gG} {A : Nat → Prop} {b L : Nat} {xs : Nat → Int32}
variable {n : Int32} {tt pg : Pg} {hs : List Pg} {k0 k1 : Option Pg}

set_option maxRecDepth 100000 in
set_option maxHeartbeats 4000000 in
theorem lw_b2 (hlt : l.stackTraces = false) (cx : Cx p s m args meth c cL_law 9 RL wsL_law (some .boolean) G A) (cl : CL s A b L xs) {d1 d2 : AD} (HQ1 : PQd d1) (HQ2 : PQd d2) {x1 x2 : XT} {pgx : Pg} {hsx : List Pg} {r1 r2 : Int32} {t k : Nat} (J1 : JNV x1 n tt pgx hsx (some pg) k1) (J2 : JNV x2 n tt pg hs (some pg) k1)  (HO : OKS pg hs k1) {cs ss ck sk : Nat} (hcs : cs ≤ 500000 ∧ ss ≤ 5000000) (hck : cs + 303 ≤ ck ∧ ss + 1818 ≤ sk) (kk : KW p l e s m args below meth c Qp G A d1 d2 353 ck sk [(5, .int (nI k)), (4, .int (nI t)), (3, .int 1), (2, .ref d2.1), (1, .ref d1.1), (0, .ref b)]) {H : Heap} {locs : List Loc} {ls : Array Slot} (hP : va_P G.1 vwCl (wB G d1 x1 (wB G d2 x2 [])) H) (hD : va_D A (wB G d1 x1 (wB G d2 x2 []))) (hS : va_S A s.heap H locs) (hl : lv_has ls 9 [(8, .int (pg 8)), (7, .int r2), (6, .int r1), (5, .int (nI k)), (4, .int (nI t)), (3, .int 1), (2, .ref d2.1), (1, .ref d1.1), (0, .ref b)])  : W p l e room_1 s m args below meth c H locs cs ss Qp (F0 m 307 ls [.int 1]) := by
  obtain ⟨hx, hb, hml, hown, hts, hr, hlocks, hK, hA⟩ := id cx
  refine lv_if_eq (tgt := 351) hx hb dL_law_307 (by decide) (fun c9 => absurd c9 (by decide)) (fun c9 => ?_)
  refine lv_aload_n hx hb dL_law_310 rfl (lv_at hl 7 rfl) ?_
  refine lv_iconst (v := 0) hx hb dL_law_311 (by decide) ?_
  refine o_restore0 hlt cx cl HQ1 J1  (q := pg) rfl (r0 := (pg 8)) rfl hP hD hS gL_law_L_tryRestore ⟨Nat.le_of_ble_eq_true rfl, Nat.le_of_ble_eq_true rfl⟩ hl (Nat.le_of_ble_eq_true rfl) dL_law_312 ⟨Nat.le_trans (m := 600130) (by omega) (Nat.le_refl _), Nat.le_trans (m := 7301080) (by omega) (Nat.le_refl _)⟩ (fun x1 H locs J1 hP hD hS => ?_)
  have J1 : JNV x1 n tt pg ([]) (some pg) k1 := J1
  refine lv_iload hx hb dL_law_315 (lv_at hl 0 rfl) ?_
  refine lv_icmp_ne (tgt := 351) hx hb dL_law_317 (by decide) (fun c9 => absurd rfl c9) (fun c9 => ?_)
  refine lv_aload_n hx hb dL_law_320 rfl (lv_at hl 6 rfl) ?_
  refine lv_iconst (v := 0) hx hb dL_law_321 (by decide) ?_
  replace hP := kP_perm (wB_swap G d1 d2 x1 x2 []) hP
  replace hD := kD_perm (wB_swap G d1 d2 x1 x2 []) hD
  refine o_restore0 hlt cx cl HQ2 J2  (q := pg) rfl (r0 := (pg 8)) rfl hP hD hS gL_law_L_tryRestore ⟨Nat.le_of_ble_eq_true rfl, Nat.le_of_ble_eq_true rfl⟩ hl (Nat.le_of_ble_eq_true rfl) dL_law_322 ⟨Nat.le_trans (m := 600130) (by omega) (Nat.le_refl _), Nat.le_trans (m := 7301080) (by omega) (Nat.le_refl _)⟩ (fun x2 H locs J2 hP hD hS => ?_)
  have J2 : JNV x2 n tt pg ([]) (some pg) k1 := J2
  replace hP := kP_perm (wB_swap G d2 d1 x2 x1 []) hP
  replace hD := kD_perm (wB_swap G d2 d1 x2 x1 []) hD
  refine lv_iload hx hb dL_law_325 (lv_at hl 0 rfl) ?_
  refine lv_icmp_ne (tgt := 351) hx hb dL_law_327 (by decide) (fun c9 => absurd rfl c9) (fun c9 => ?_)
  refine lv_aload_n hx hb dL_law_330 rfl (lv_at hl 7 rfl) ?_
  refine n_undo hlt cx cl HQ1 J1  rfl hP hD hS gL_law_L_tryUndo ⟨Nat.le_of_ble_eq_true rfl, Nat.le_of_ble_eq_true rfl⟩ hl (Nat.le_of_ble_eq_true rfl) dL_law_331 ⟨Nat.le_trans (m := 600130) (by omega) (Nat.le_refl _), Nat.le_trans (m := 7301080) (by omega) (Nat.le_refl _)⟩ (fun H locs hP hD hS => ?_)
  refine k_ldc (v := (-999900003)) cx (by decide +kernel) dL_law_334 ?_
  refine lv_icmp_ne (tgt := 351) hx hb dL_law_336 (by decide) (fun c9 => absurd (by decide) c9) (fun c9 => ?_)
  refine lv_aload_n hx hb dL_law_339 rfl (lv_at hl 7 rfl) ?_
  refine lv_aload_n hx hb dL_law_340 rfl (lv_at hl 6 rfl) ?_
  refine kc2 (n := 2) (As := [.ref d1.1, .ref d2.1]) cx cl (c_L_alike l hlt G b L xs d1 d2 HQ1 HQ2 n tt pg ([]) (some pg) k1) ⟨J1, J2⟩ hP hD hS gL_law_L_alike rfl rfl rfl (by decide +kernel) ⟨Nat.le_of_ble_eq_true rfl, Nat.le_of_ble_eq_true rfl⟩ rfl rfl hl (Nat.le_of_ble_eq_true rfl) dL_law_341 ⟨Nat.le_trans (m := 600130) (by omega) (Nat.le_refl _), Nat.le_trans (m := 7301080) (by omega) (Nat.le_refl _)⟩ (fun r9 x1 x2 H locs h9 hP hD hS => ?_)
  obtain ⟨h9, J1, J2⟩ : r9 = 1 ∧ JNV x1 n tt pg ([]) (some pg) k1 ∧ JNV x2 n tt pg ([]) (some pg) k1 := h9
  rw [h9]
  refine lv_if_eq (tgt := 351) hx hb dL_law_344 (by decide) (fun c9 => absurd c9 (by decide)) (fun c9 => ?_)
  refine lv_iconst (v := 1) hx hb dL_law_347 (by decide) ?_
  refine lv_goto (tgt := 352) hx hb dL_law_348 (by decide) ?_
  refine lv_istore_n (lv' := [(3, .int 1), (8, .int (pg 8)), (7, .int r2), (6, .int r1), (5, .int (nI k)), (4, .int (nI t)), (2, .ref d2.1), (1, .ref d1.1), (0, .ref b)]) hx hb dL_law_352 rfl hl (by decide) rfl (fun ls hl => ?_)
  refine W.widen (k := ck) (n := sk) (by omega) (by omega) ?_
  exact kk _ _ _ _ _ _ _ _ _ _ _ (oks_0 HO) J1 J2 hP hD hS (lv_sub hl [4, 5, 0, 6, 7, 8] rfl)

set_option maxRecDepth 100000 in
set_option maxHeartbeats 4000000 in
theorem lw_b1f (hlt : l.stackTraces = false) (cx : Cx p s m args meth c cL_law 9 RL wsL_law (some .boolean) G A) (cl : CL s A b L xs) {d1 d2 : AD} (HQ1 : PQd d1) (HQ2 : PQd d2) {x1 x2 : XT} {r1 r2 : Int32} {t k : Nat} (J1 : JNV x1 n tt pg hs k0 k1) (J2 : JNV x2 n tt pg hs k0 k1)  (HO : OKS pg hs k1) (hr2 : 0 ≤ r2.toInt) (hc : pg 11 = 0) {cs ss ck sk : Nat} (hcs : cs ≤ 400000 ∧ ss ≤ 4000000) (hck : cs + 589 ≤ ck ∧ ss + 3534 ≤ sk) (kk : KW p l e s m args below meth c Qp G A d1 d2 353 ck sk [(5, .int (nI k)), (4, .int (nI t)), (3, .int 1), (2, .ref d2.1), (1, .ref d1.1), (0, .ref b)]) {H : Heap} {locs : List Loc} {ls : Array Slot} (hP : va_P G.1 vwCl (wB G d1 x1 (wB G d2 x2 [])) H) (hD : va_D A (wB G d1 x1 (wB G d2 x2 []))) (hS : va_S A s.heap H locs) (hl : lv_has ls 9 [(7, .int r2), (6, .int r1), (5, .int (nI k)), (4, .int (nI t)), (3, .int 1), (2, .ref d2.1), (1, .ref d1.1), (0, .ref b)])  : W p l e room_1 s m args below meth c H locs cs ss Qp (F0 m 222 ls []) := by
  obtain ⟨hx, hb, hml, hown, hts, hr, hlocks, hK, hA⟩ := id cx
  refine lv_iload_n hx hb dL_law_222 rfl (lv_at hl 4 rfl) ?_
  refine lv_if_eq (tgt := 353) hx hb dL_law_223 (by decide) (fun c9 => absurd c9 (by decide)) (fun c9 => ?_)
  refine lv_aload_n hx hb dL_law_226 rfl (lv_at hl 6 rfl) ?_
  refine lv_bipush (v := 9) hx hb dL_law_227 (by decide) ?_
  refine o_about hlt cx cl HQ1 J1 9 (r0 := (pg 8)) (ab_hi (j := 8) (by decide) (by decide) (by decide) (by decide)) hP hD hS gL_law_L_tryAbout ⟨Nat.le_of_ble_eq_true rfl, Nat.le_of_ble_eq_true rfl⟩ hl (Nat.le_of_ble_eq_true rfl) dL_law_229 ⟨Nat.le_trans (m := 600130) (by omega) (Nat.le_refl _), Nat.le_trans (m := 7301080) (by omega) (Nat.le_refl _)⟩ (fun H locs hP hD hS => ?_)
  refine lv_istore (lv' := [(8, .int (pg 8)), (7, .int r2), (6, .int r1), (5, .int (nI k)), (4, .int (nI t)), (3, .int 1), (2, .ref d2.1), (1, .ref d1.1), (0, .ref b)]) hx hb dL_law_232 hl (by decide) rfl (fun ls hl => ?_)
  refine lv_aload_n hx hb dL_law_234 rfl (lv_at hl 7 rfl) ?_
  refine lv_iload hx hb dL_law_235 (lv_at hl 2 rfl) ?_
  refine kc1 (n := 2) (As := [.ref d1.1, .int r1]) cx cl (c_L_scripts l hlt G b L xs d1 HQ1 n tt pg hs k0 k1 HO.1.1 r1) J1 hP hD hS gL_law_L_scripts rfl rfl rfl (by decide +kernel) ⟨Nat.le_of_ble_eq_true rfl, Nat.le_of_ble_eq_true rfl⟩ rfl rfl hl (Nat.le_of_ble_eq_true rfl) dL_law_237 ⟨Nat.le_trans (m := 600130) (by omega) (Nat.le_refl _), Nat.le_trans (m := 7301080) (by omega) (Nat.le_refl _)⟩ (fun r9 x1 H locs h9 hP hD hS => ?_)
  obtain ⟨h9, J1⟩ : r9 = 1 ∧ JNV x1 n tt pg hs k0 k1 := h9
  rw [h9]
  refine lv_if_eq (tgt := 351) hx hb dL_law_240 (by decide) (fun c9 => absurd c9 (by decide)) (fun c9 => ?_)
  refine lv_aload_n hx hb dL_law_243 rfl (lv_at hl 6 rfl) ?_
  refine lv_iconst (v := 0) hx hb dL_law_244 (by decide) ?_
  replace hP := kP_perm (wB_swap G d1 d2 x1 x2 []) hP
  replace hD := kD_perm (wB_swap G d1 d2 x1 x2 []) hD
  refine o_save0 hlt cx cl HQ2 J2   (r0 := (pg 8)) rfl hP hD hS gL_law_L_trySave ⟨Nat.le_of_ble_eq_true rfl, Nat.le_of_ble_eq_true rfl⟩ hl (Nat.le_of_ble_eq_true rfl) dL_law_245 ⟨Nat.le_trans (m := 600130) (by omega) (Nat.le_refl _), Nat.le_trans (m := 7301080) (by omega) (Nat.le_refl _)⟩ (fun x2 H locs J2 hP hD hS => ?_)
  have J2 : JNV x2 n tt pg hs (some pg) k1 := J2
  replace hP := kP_perm (wB_swap G d2 d1 x2 x1 []) hP
  replace hD := kD_perm (wB_swap G d2 d1 x2 x1 []) hD
  refine lv_iload hx hb dL_law_248 (lv_at hl 0 rfl) ?_
  refine lv_icmp_ne (tgt := 351) hx hb dL_law_250 (by decide) (fun c9 => absurd rfl c9) (fun c9 => ?_)
  refine lv_aload_n hx hb dL_law_253 rfl (lv_at hl 7 rfl) ?_
  refine lv_iconst (v := 0) hx hb dL_law_254 (by decide) ?_
  refine o_save0 hlt cx cl HQ1 J1   (r0 := (pg 8)) rfl hP hD hS gL_law_L_trySave ⟨Nat.le_of_ble_eq_true rfl, Nat.le_of_ble_eq_true rfl⟩ hl (Nat.le_of_ble_eq_true rfl) dL_law_255 ⟨Nat.le_trans (m := 600130) (by omega) (Nat.le_refl _), Nat.le_trans (m := 7301080) (by omega) (Nat.le_refl _)⟩ (fun x1 H locs J1 hP hD hS => ?_)
  have J1 : JNV x1 n tt pg hs (some pg) k1 := J1
  refine lv_iload hx hb dL_law_258 (lv_at hl 0 rfl) ?_
  refine lv_icmp_ne (tgt := 351) hx hb dL_law_260 (by decide) (fun c9 => absurd rfl c9) (fun c9 => ?_)
  refine lv_aload_n hx hb dL_law_263 rfl (lv_at hl 7 rfl) ?_
  refine lv_iconst (v := 0) hx hb dL_law_264 (by decide) ?_
  refine o_restore0 hlt cx cl HQ1 J1  (q := pg) rfl (r0 := (pg 8)) rfl hP hD hS gL_law_L_tryRestore ⟨Nat.le_of_ble_eq_true rfl, Nat.le_of_ble_eq_true rfl⟩ hl (Nat.le_of_ble_eq_true rfl) dL_law_265 ⟨Nat.le_trans (m := 600130) (by omega) (Nat.le_refl _), Nat.le_trans (m := 7301080) (by omega) (Nat.le_refl _)⟩ (fun x1 H locs J1 hP hD hS => ?_)
  have J1 : JNV x1 n tt pg ([]) (some pg) k1 := J1
  refine lv_iload hx hb dL_law_268 (lv_at hl 0 rfl) ?_
  refine lv_icmp_ne (tgt := 351) hx hb dL_law_270 (by decide) (fun c9 => absurd rfl c9) (fun c9 => ?_)
  refine lv_aload_n hx hb dL_law_273 rfl (lv_at hl 7 rfl) ?_
  refine lv_iload hx hb dL_law_274 (lv_at hl 1 rfl) ?_
  refine kc1 (n := 2) (As := [.ref d1.1, .int r2]) cx cl (c_L_values l hlt G b L xs d1 HQ1 n tt pg ([]) (some pg) k1 HO.1 r2 hr2) J1 hP hD hS gL_law_L_values rfl rfl rfl (by decide +kernel) ⟨Nat.le_of_ble_eq_true rfl, Nat.le_of_ble_eq_true rfl⟩ rfl rfl hl (Nat.le_of_ble_eq_true rfl) dL_law_276 ⟨Nat.le_trans (m := 600130) (by omega) (Nat.le_refl _), Nat.le_trans (m := 7301080) (by omega) (Nat.le_refl _)⟩ (fun r9 x1 H locs h9 hP hD hS => ?_)
  obtain ⟨h9, J1⟩ : r9 = 1 ∧ JNV x1 n tt pg ([]) (some pg) k1 := h9
  rw [h9]
  refine lv_if_eq (tgt := 351) hx hb dL_law_279 (by decide) (fun c9 => absurd c9 (by decide)) (fun c9 => ?_)
  refine lv_aload_n hx hb dL_law_282 rfl (lv_at hl 7 rfl) ?_
  refine lv_iload hx hb dL_law_283 (lv_at hl 1 rfl) ?_
  refine kc1 (n := 2) (As := [.ref d1.1, .int r2]) cx cl (c_L_waits l hlt G b L xs d1 HQ1 n tt pg ([]) (some pg) k1 r2 hr2) J1 hP hD hS gL_law_L_waits rfl rfl rfl (by decide +kernel) ⟨Nat.le_of_ble_eq_true rfl, Nat.le_of_ble_eq_true rfl⟩ rfl rfl hl (Nat.le_of_ble_eq_true rfl) dL_law_285 ⟨Nat.le_trans (m := 600130) (by omega) (Nat.le_refl _), Nat.le_trans (m := 7301080) (by omega) (Nat.le_refl _)⟩ (fun r9 x1 H locs h9 hP hD hS => ?_)
  obtain ⟨h9, J1⟩ : r9 = 1 ∧ JNV x1 n tt pg ([]) (some pg) k1 := h9
  rw [h9]
  refine lv_if_eq (tgt := 351) hx hb dL_law_288 (by decide) (fun c9 => absurd c9 (by decide)) (fun c9 => ?_)
  refine lv_aload_n hx hb dL_law_291 rfl (lv_at hl 7 rfl) ?_
  refine lv_iload hx hb dL_law_292 (lv_at hl 1 rfl) ?_
  refine lv_iconst (v := 2) hx hb dL_law_294 (by decide) ?_
  refine lv_irem hx hb dL_law_295 (by decide) ?_
  refine lv_if_ne (tgt := 303) hx hb dL_law_296 (by decide) (fun c296 => ?_) (fun c296 => ?_)
  · refine lv_iconst (v := 0) hx hb dL_law_303 (by decide) ?_
    refine kc1 (n := 2) (As := [.ref d1.1, .int 0]) cx cl (c_L_presses_f l hlt G b L xs d1 HQ1 n tt pg ([]) (some pg) k1 hc) J1 hP hD hS gL_law_L_presses rfl rfl rfl (by decide +kernel) ⟨Nat.le_of_ble_eq_true rfl, Nat.le_of_ble_eq_true rfl⟩ rfl rfl hl (Nat.le_of_ble_eq_true rfl) dL_law_304 ⟨Nat.le_trans (m := 600130) (by omega) (Nat.le_refl _), Nat.le_trans (m := 7301080) (by omega) (Nat.le_refl _)⟩ (fun r9 x1 H locs h9 hP hD hS => ?_)
    obtain ⟨h9, J1⟩ : r9 = 1 ∧ JNV x1 n tt ((P_X4_pressOn pg 0).2) (push ([]) pg) (some pg) k1 := h9
    rw [h9]
    refine W.widen (k := cs + 286) (n := ss + 1716) (by omega) (by omega) ?_
    exact lw_b2 hlt cx cl HQ1 HQ2 J1 J2 HO ⟨by omega, by omega⟩ ⟨by omega, by omega⟩ kk hP hD hS (lv_sub hl [0, 1, 2, 3, 4, 5, 6, 7, 8] rfl)
  · refine lv_iconst (v := 1) hx hb dL_law_299 (by decide) ?_
    refine lv_goto (tgt := 304) hx hb dL_law_300 (by decide) ?_
    refine kc1 (n := 2) (As := [.ref d1.1, .int 1]) cx cl (c_L_presses_t l hlt G b L xs d1 HQ1 n tt pg ([]) (some pg) k1 hc) J1 hP hD hS gL_law_L_presses rfl rfl rfl (by decide +kernel) ⟨Nat.le_of_ble_eq_true rfl, Nat.le_of_ble_eq_true rfl⟩ rfl rfl hl (Nat.le_of_ble_eq_true rfl) dL_law_304 ⟨Nat.le_trans (m := 600130) (by omega) (Nat.le_refl _), Nat.le_trans (m := 7301080) (by omega) (Nat.le_refl _)⟩ (fun r9 x1 H locs h9 hP hD hS => ?_)
    obtain ⟨h9, J1⟩ : r9 = 1 ∧ JNV x1 n tt ((P_X4_pressOn pg 1).2) (push ([]) pg) (some pg) k1 := h9
    rw [h9]
    refine W.widen (k := cs + 286) (n := ss + 1716) (by omega) (by omega) ?_
    exact lw_b2 hlt cx cl HQ1 HQ2 J1 J2 HO ⟨by omega, by omega⟩ ⟨by omega, by omega⟩ kk hP hD hS (lv_sub hl [0, 1, 2, 3, 4, 5, 6, 7, 8] rfl)

set_option maxRecDepth 100000 in
set_option maxHeartbeats 4000000 in
theorem lw_b1s (hlt : l.stackTraces = false) (cx : Cx p s m args meth c cL_law 9 RL wsL_law (some .boolean) G A) (cl : CL s A b L xs) {d1 d2 : AD} (HQ1 : PQd d1) (HQ2 : PQd d2) {x1 x2 : XT} {r1 r2 : Int32} {t k : Nat} (J1 : JNV x1 n tt pg hs k0 k1) (J2 : JNV x2 n tt pg hs k0 k1)  (HO : OKS pg hs k1) (hr2 : 0 ≤ r2.toInt) (hc : pg 11 = 1) {cs ss ck sk : Nat} (hcs : cs ≤ 400000 ∧ ss ≤ 4000000) (hck : cs + 589 ≤ ck ∧ ss + 3534 ≤ sk) (kk : KW p l e s m args below meth c Qp G A d1 d2 353 ck sk [(5, .int (nI k)), (4, .int (nI t)), (3, .int 1), (2, .ref d2.1), (1, .ref d1.1), (0, .ref b)]) {H : Heap} {locs : List Loc} {ls : Array Slot} (hP : va_P G.1 vwCl (wB G d1 x1 (wB G d2 x2 [])) H) (hD : va_D A (wB G d1 x1 (wB G d2 x2 []))) (hS : va_S A s.heap H locs) (hl : lv_has ls 9 [(7, .int r2), (6, .int r1), (5, .int (nI k)), (4, .int (nI t)), (3, .int 1), (2, .ref d2.1), (1, .ref d1.1), (0, .ref b)])  : W p l e room_1 s m args below meth c H locs cs ss Qp (F0 m 222 ls []) := by
  obtain ⟨hx, hb, hml, hown, hts, hr, hlocks, hK, hA⟩ := id cx
  refine lv_iload_n hx hb dL_law_222 rfl (lv_at hl 4 rfl) ?_
  refine lv_if_eq (tgt := 353) hx hb dL_law_223 (by decide) (fun c9 => absurd c9 (by decide)) (fun c9 => ?_)
  refine lv_aload_n hx hb dL_law_226 rfl (lv_at hl 6 rfl) ?_
  refine lv_bipush (v := 9) hx hb dL_law_227 (by decide) ?_
  refine o_about hlt cx cl HQ1 J1 9 (r0 := (pg 8)) (ab_hi (j := 8) (by decide) (by decide) (by decide) (by decide)) hP hD hS gL_law_L_tryAbout ⟨Nat.le_of_ble_eq_true rfl, Nat.le_of_ble_eq_true rfl⟩ hl (Nat.le_of_ble_eq_true rfl) dL_law_229 ⟨Nat.le_trans (m := 600130) (by omega) (Nat.le_refl _), Nat.le_trans (m := 7301080) (by omega) (Nat.le_refl _)⟩ (fun H locs hP hD hS => ?_)
  refine lv_istore (lv' := [(8, .int (pg 8)), (7, .int r2), (6, .int r1), (5, .int (nI k)), (4, .int (nI t)), (3, .int 1), (2, .ref d2.1), (1, .ref d1.1), (0, .ref b)]) hx hb dL_law_232 hl (by decide) rfl (fun ls hl => ?_)
  refine lv_aload_n hx hb dL_law_234 rfl (lv_at hl 7 rfl) ?_
  refine lv_iload hx hb dL_law_235 (lv_at hl 2 rfl) ?_
  refine kc1 (n := 2) (As := [.ref d1.1, .int r1]) cx cl (c_L_scripts l hlt G b L xs d1 HQ1 n tt pg hs k0 k1 HO.1.1 r1) J1 hP hD hS gL_law_L_scripts rfl rfl rfl (by decide +kernel) ⟨Nat.le_of_ble_eq_true rfl, Nat.le_of_ble_eq_true rfl⟩ rfl rfl hl (Nat.le_of_ble_eq_true rfl) dL_law_237 ⟨Nat.le_trans (m := 600130) (by omega) (Nat.le_refl _), Nat.le_trans (m := 7301080) (by omega) (Nat.le_refl _)⟩ (fun r9 x1 H locs h9 hP hD hS => ?_)
  obtain ⟨h9, J1⟩ : r9 = 1 ∧ JNV x1 n tt pg hs k0 k1 := h9
  rw [h9]
  refine lv_if_eq (tgt := 351) hx hb dL_law_240 (by decide) (fun c9 => absurd c9 (by decide)) (fun c9 => ?_)
  refine lv_aload_n hx hb dL_law_243 rfl (lv_at hl 6 rfl) ?_
  refine lv_iconst (v := 0) hx hb dL_law_244 (by decide) ?_
  replace hP := kP_perm (wB_swap G d1 d2 x1 x2 []) hP
  replace hD := kD_perm (wB_swap G d1 d2 x1 x2 []) hD
  refine o_save0 hlt cx cl HQ2 J2   (r0 := (pg 8)) rfl hP hD hS gL_law_L_trySave ⟨Nat.le_of_ble_eq_true rfl, Nat.le_of_ble_eq_true rfl⟩ hl (Nat.le_of_ble_eq_true rfl) dL_law_245 ⟨Nat.le_trans (m := 600130) (by omega) (Nat.le_refl _), Nat.le_trans (m := 7301080) (by omega) (Nat.le_refl _)⟩ (fun x2 H locs J2 hP hD hS => ?_)
  have J2 : JNV x2 n tt pg hs (some pg) k1 := J2
  replace hP := kP_perm (wB_swap G d2 d1 x2 x1 []) hP
  replace hD := kD_perm (wB_swap G d2 d1 x2 x1 []) hD
  refine lv_iload hx hb dL_law_248 (lv_at hl 0 rfl) ?_
  refine lv_icmp_ne (tgt := 351) hx hb dL_law_250 (by decide) (fun c9 => absurd rfl c9) (fun c9 => ?_)
  refine lv_aload_n hx hb dL_law_253 rfl (lv_at hl 7 rfl) ?_
  refine lv_iconst (v := 0) hx hb dL_law_254 (by decide) ?_
  refine o_save0 hlt cx cl HQ1 J1   (r0 := (pg 8)) rfl hP hD hS gL_law_L_trySave ⟨Nat.le_of_ble_eq_true rfl, Nat.le_of_ble_eq_true rfl⟩ hl (Nat.le_of_ble_eq_true rfl) dL_law_255 ⟨Nat.le_trans (m := 600130) (by omega) (Nat.le_refl _), Nat.le_trans (m := 7301080) (by omega) (Nat.le_refl _)⟩ (fun x1 H locs J1 hP hD hS => ?_)
  have J1 : JNV x1 n tt pg hs (some pg) k1 := J1
  refine lv_iload hx hb dL_law_258 (lv_at hl 0 rfl) ?_
  refine lv_icmp_ne (tgt := 351) hx hb dL_law_260 (by decide) (fun c9 => absurd rfl c9) (fun c9 => ?_)
  refine lv_aload_n hx hb dL_law_263 rfl (lv_at hl 7 rfl) ?_
  refine lv_iconst (v := 0) hx hb dL_law_264 (by decide) ?_
  refine o_restore0 hlt cx cl HQ1 J1  (q := pg) rfl (r0 := (pg 8)) rfl hP hD hS gL_law_L_tryRestore ⟨Nat.le_of_ble_eq_true rfl, Nat.le_of_ble_eq_true rfl⟩ hl (Nat.le_of_ble_eq_true rfl) dL_law_265 ⟨Nat.le_trans (m := 600130) (by omega) (Nat.le_refl _), Nat.le_trans (m := 7301080) (by omega) (Nat.le_refl _)⟩ (fun x1 H locs J1 hP hD hS => ?_)
  have J1 : JNV x1 n tt pg ([]) (some pg) k1 := J1
  refine lv_iload hx hb dL_law_268 (lv_at hl 0 rfl) ?_
  refine lv_icmp_ne (tgt := 351) hx hb dL_law_270 (by decide) (fun c9 => absurd rfl c9) (fun c9 => ?_)
  refine lv_aload_n hx hb dL_law_273 rfl (lv_at hl 7 rfl) ?_
  refine lv_iload hx hb dL_law_274 (lv_at hl 1 rfl) ?_
  refine kc1 (n := 2) (As := [.ref d1.1, .int r2]) cx cl (c_L_values l hlt G b L xs d1 HQ1 n tt pg ([]) (some pg) k1 HO.1 r2 hr2) J1 hP hD hS gL_law_L_values rfl rfl rfl (by decide +kernel) ⟨Nat.le_of_ble_eq_true rfl, Nat.le_of_ble_eq_true rfl⟩ rfl rfl hl (Nat.le_of_ble_eq_true rfl) dL_law_276 ⟨Nat.le_trans (m := 600130) (by omega) (Nat.le_refl _), Nat.le_trans (m := 7301080) (by omega) (Nat.le_refl _)⟩ (fun r9 x1 H locs h9 hP hD hS => ?_)
  obtain ⟨h9, J1⟩ : r9 = 1 ∧ JNV x1 n tt pg ([]) (some pg) k1 := h9
  rw [h9]
  refine lv_if_eq (tgt := 351) hx hb dL_law_279 (by decide) (fun c9 => absurd c9 (by decide)) (fun c9 => ?_)
  refine lv_aload_n hx hb dL_law_282 rfl (lv_at hl 7 rfl) ?_
  refine lv_iload hx hb dL_law_283 (lv_at hl 1 rfl) ?_
  refine kc1 (n := 2) (As := [.ref d1.1, .int r2]) cx cl (c_L_waits l hlt G b L xs d1 HQ1 n tt pg ([]) (some pg) k1 r2 hr2) J1 hP hD hS gL_law_L_waits rfl rfl rfl (by decide +kernel) ⟨Nat.le_of_ble_eq_true rfl, Nat.le_of_ble_eq_true rfl⟩ rfl rfl hl (Nat.le_of_ble_eq_true rfl) dL_law_285 ⟨Nat.le_trans (m := 600130) (by omega) (Nat.le_refl _), Nat.le_trans (m := 7301080) (by omega) (Nat.le_refl _)⟩ (fun r9 x1 H locs h9 hP hD hS => ?_)
  obtain ⟨h9, J1⟩ : r9 = 1 ∧ JNV x1 n tt pg ([]) (some pg) k1 := h9
  rw [h9]
  refine lv_if_eq (tgt := 351) hx hb dL_law_288 (by decide) (fun c9 => absurd c9 (by decide)) (fun c9 => ?_)
  refine lv_aload_n hx hb dL_law_291 rfl (lv_at hl 7 rfl) ?_
  refine lv_iload hx hb dL_law_292 (lv_at hl 1 rfl) ?_
  refine lv_iconst (v := 2) hx hb dL_law_294 (by decide) ?_
  refine lv_irem hx hb dL_law_295 (by decide) ?_
  refine lv_if_ne (tgt := 303) hx hb dL_law_296 (by decide) (fun c296 => ?_) (fun c296 => ?_)
  · refine lv_iconst (v := 0) hx hb dL_law_303 (by decide) ?_
    refine kc1 (n := 2) (As := [.ref d1.1, .int 0]) cx cl (c_L_presses_s l hlt G b L xs d1 HQ1 n tt pg ([]) (some pg) k1 0 hc) J1 hP hD hS gL_law_L_presses rfl rfl rfl (by decide +kernel) ⟨Nat.le_of_ble_eq_true rfl, Nat.le_of_ble_eq_true rfl⟩ rfl rfl hl (Nat.le_of_ble_eq_true rfl) dL_law_304 ⟨Nat.le_trans (m := 600130) (by omega) (Nat.le_refl _), Nat.le_trans (m := 7301080) (by omega) (Nat.le_refl _)⟩ (fun r9 x1 H locs h9 hP hD hS => ?_)
    obtain ⟨h9, J1⟩ : r9 = 1 ∧ JNV x1 n tt pg ([]) (some pg) k1 := h9
    rw [h9]
    refine W.widen (k := cs + 286) (n := ss + 1716) (by omega) (by omega) ?_
    exact lw_b2 hlt cx cl HQ1 HQ2 J1 J2 HO ⟨by omega, by omega⟩ ⟨by omega, by omega⟩ kk hP hD hS (lv_sub hl [0, 1, 2, 3, 4, 5, 6, 7, 8] rfl)
  · refine lv_iconst (v := 1) hx hb dL_law_299 (by decide) ?_
    refine lv_goto (tgt := 304) hx hb dL_law_300 (by decide) ?_
    refine kc1 (n := 2) (As := [.ref d1.1, .int 1]) cx cl (c_L_presses_s l hlt G b L xs d1 HQ1 n tt pg ([]) (some pg) k1 1 hc) J1 hP hD hS gL_law_L_presses rfl rfl rfl (by decide +kernel) ⟨Nat.le_of_ble_eq_true rfl, Nat.le_of_ble_eq_true rfl⟩ rfl rfl hl (Nat.le_of_ble_eq_true rfl) dL_law_304 ⟨Nat.le_trans (m := 600130) (by omega) (Nat.le_refl _), Nat.le_trans (m := 7301080) (by omega) (Nat.le_refl _)⟩ (fun r9 x1 H locs h9 hP hD hS => ?_)
    obtain ⟨h9, J1⟩ : r9 = 1 ∧ JNV x1 n tt pg ([]) (some pg) k1 := h9
    rw [h9]
    refine W.widen (k := cs + 286) (n := ss + 1716) (by omega) (by omega) ?_
    exact lw_b2 hlt cx cl HQ1 HQ2 J1 J2 HO ⟨by omega, by omega⟩ ⟨by omega, by omega⟩ kk hP hD hS (lv_sub hl [0, 1, 2, 3, 4, 5, 6, 7, 8] rfl)

set_option maxRecDepth 100000 in
set_option maxHeartbeats 4000000 in
theorem lw_turn (hlt : l.stackTraces = false) (cx : Cx p s m args meth c cL_law 9 RL wsL_law (some .boolean) G A) (cl : CL s A b L xs) {d1 d2 : AD} (HQ1 : PQd d1) (HQ2 : PQd d2) {x1 x2 : XT} {t k : Nat} (J1 : JNV x1 n tt pg hs k0 k1) (J2 : JNV x2 n tt pg hs k0 k1)  (hL : L ≤ 260) (ht : t ≤ 1) (hk : k ≤ 11) (HO : OKS pg hs k1) {cs ss ck sk : Nat} (hcs : cs ≤ 300000 ∧ ss ≤ 3000000) (hck : cs + 953 ≤ ck ∧ ss + 5718 ≤ sk) (kk : KW p l e s m args below meth c Qp G A d1 d2 353 ck sk [(5, .int (nI k)), (4, .int (nI t)), (3, .int 1), (2, .ref d2.1), (1, .ref d1.1), (0, .ref b)]) {H : Heap} {locs : List Loc} {ls : Array Slot} (hP : va_P G.1 vwCl (wB G d1 x1 (wB G d2 x2 [])) H) (hD : va_D A (wB G d1 x1 (wB G d2 x2 []))) (hS : va_S A s.heap H locs) (hl : lv_has ls 9 [(5, .int (nI k)), (4, .int (nI t)), (3, .int 1), (2, .ref d2.1), (1, .ref d1.1), (0, .ref b)])  : W p l e room_1 s m args below meth c H locs cs ss Qp (F0 m 136 ls []) := by
  obtain ⟨hx, hb, hml, hown, hts, hr, hlocks, hK, hA⟩ := id cx
  refine lv_aload_n hx hb dL_law_136 rfl (lv_at hl 5 rfl) ?_
  refine lv_bipush (v := 40) hx hb dL_law_137 (by decide) ?_
  refine lv_iload hx hb dL_law_139 (lv_at hl 1 rfl) ?_
  refine lv_imul hx hb dL_law_141 ?_
  refine lv_bipush (v := 9) hx hb dL_law_142 (by decide) ?_
  refine lv_iadd hx hb dL_law_144 ?_
  refine lv_iconst (v := 2) hx hb dL_law_145 (by decide) ?_
  refine lv_iload hx hb dL_law_146 (lv_at hl 0 rfl) ?_
  refine lv_imul hx hb dL_law_148 ?_
  refine lv_iadd hx hb dL_law_149 ?_
  refine kc0 (n := 2) (As := [.ref b, .int (((40 * (nI t)) + 9) + (2 * (nI k)))]) cx cl (c_L_number l G b L xs hL (((40 * (nI t)) + 9) + (2 * (nI k))) (nx_ok ht hk (by decide))) trivial hP hD hS gL_law_L_number rfl rfl rfl (by decide +kernel) ⟨Nat.le_of_ble_eq_true rfl, Nat.le_of_ble_eq_true rfl⟩ rfl rfl hl (Nat.le_of_ble_eq_true rfl) dL_law_150 ⟨Nat.le_trans (m := 600130) (by omega) (Nat.le_refl _), Nat.le_trans (m := 7301080) (by omega) (Nat.le_refl _)⟩ (fun r1 H locs hr1 hP hD hS => ?_)
  have hr1 : 0 ≤ r1.toInt := hr1
  refine lv_istore (lv' := [(6, .int r1), (5, .int (nI k)), (4, .int (nI t)), (3, .int 1), (2, .ref d2.1), (1, .ref d1.1), (0, .ref b)]) hx hb dL_law_153 hl (by decide) rfl (fun ls hl => ?_)
  refine lv_aload_n hx hb dL_law_155 rfl (lv_at hl 6 rfl) ?_
  refine lv_bipush (v := 40) hx hb dL_law_156 (by decide) ?_
  refine lv_iload hx hb dL_law_158 (lv_at hl 2 rfl) ?_
  refine lv_imul hx hb dL_law_160 ?_
  refine lv_bipush (v := 10) hx hb dL_law_161 (by decide) ?_
  refine lv_iadd hx hb dL_law_163 ?_
  refine lv_iconst (v := 2) hx hb dL_law_164 (by decide) ?_
  refine lv_iload hx hb dL_law_165 (lv_at hl 1 rfl) ?_
  refine lv_imul hx hb dL_law_167 ?_
  refine lv_iadd hx hb dL_law_168 ?_
  refine kc0 (n := 2) (As := [.ref b, .int (((40 * (nI t)) + 10) + (2 * (nI k)))]) cx cl (c_L_number l G b L xs hL (((40 * (nI t)) + 10) + (2 * (nI k))) (nx_ok ht hk (by decide))) trivial hP hD hS gL_law_L_number rfl rfl rfl (by decide +kernel) ⟨Nat.le_of_ble_eq_true rfl, Nat.le_of_ble_eq_true rfl⟩ rfl rfl hl (Nat.le_of_ble_eq_true rfl) dL_law_169 ⟨Nat.le_trans (m := 600130) (by omega) (Nat.le_refl _), Nat.le_trans (m := 7301080) (by omega) (Nat.le_refl _)⟩ (fun r2 H locs hr2 hP hD hS => ?_)
  have hr2 : 0 ≤ r2.toInt := hr2
  refine lv_istore (lv' := [(7, .int r2), (6, .int r1), (5, .int (nI k)), (4, .int (nI t)), (3, .int 1), (2, .ref d2.1), (1, .ref d1.1), (0, .ref b)]) hx hb dL_law_172 hl (by decide) rfl (fun ls hl => ?_)
  obtain ⟨r0, pga, hsa, k1a, HOa, hact⟩ := act_ex (x9 := r1) (y9 := r2) (n := n) (tt := tt) (k0 := k0) hr1 hr2 J1.pv J1.st HO
  refine lv_aload_n hx hb dL_law_174 rfl (lv_at hl 6 rfl) ?_
  refine lv_iload hx hb dL_law_175 (lv_at hl 1 rfl) ?_
  refine lv_iload hx hb dL_law_177 (lv_at hl 0 rfl) ?_
  refine kc1 (n := 3) (As := [.ref d1.1, .int r1, .int r2]) cx cl (hact l hlt G b L xs d1 HQ1) J1 hP hD hS gL_law_L_act rfl rfl rfl (by decide +kernel) ⟨Nat.le_of_ble_eq_true rfl, Nat.le_of_ble_eq_true rfl⟩ rfl rfl hl (Nat.le_of_ble_eq_true rfl) dL_law_179 ⟨Nat.le_trans (m := 600130) (by omega) (Nat.le_refl _), Nat.le_trans (m := 7301080) (by omega) (Nat.le_refl _)⟩ (fun r9 x1 H locs h9 hP hD hS => ?_)
  obtain ⟨h9, J1⟩ : r9 = r0 ∧ JNV x1 n tt pga hsa k0 k1a := h9
  rw [h9]
  refine lv_aload_n hx hb dL_law_182 rfl (lv_at hl 5 rfl) ?_
  refine lv_iload hx hb dL_law_183 (lv_at hl 1 rfl) ?_
  refine lv_iload hx hb dL_law_185 (lv_at hl 0 rfl) ?_
  replace hP := kP_perm (wB_swap G d1 d2 x1 x2 []) hP
  replace hD := kD_perm (wB_swap G d1 d2 x1 x2 []) hD
  refine kc1 (n := 3) (As := [.ref d2.1, .int r1, .int r2]) cx cl (hact l hlt G b L xs d2 HQ2) J2 hP hD hS gL_law_L_act rfl rfl rfl (by decide +kernel) ⟨Nat.le_of_ble_eq_true rfl, Nat.le_of_ble_eq_true rfl⟩ rfl rfl hl (Nat.le_of_ble_eq_true rfl) dL_law_187 ⟨Nat.le_trans (m := 600130) (by omega) (Nat.le_refl _), Nat.le_trans (m := 7301080) (by omega) (Nat.le_refl _)⟩ (fun r9 x2 H locs h9 hP hD hS => ?_)
  obtain ⟨h9, J2⟩ : r9 = r0 ∧ JNV x2 n tt pga hsa k0 k1a := h9
  rw [h9]
  replace hP := kP_perm (wB_swap G d2 d1 x2 x1 []) hP
  replace hD := kD_perm (wB_swap G d2 d1 x2 x1 []) hD
  refine lv_icmp_ne (tgt := 212) hx hb dL_law_190 (by decide) (fun c9 => absurd rfl c9) (fun c9 => ?_)
  refine lv_aload_n hx hb dL_law_193 rfl (lv_at hl 5 rfl) ?_
  replace hP := kP_perm (wB_swap G d1 d2 x1 x2 []) hP
  replace hD := kD_perm (wB_swap G d1 d2 x1 x2 []) hD
  refine kc1 (n := 1) (As := [.ref d2.1]) cx cl (c_L_refuses l hlt G b L xs d2 HQ2 n tt pga hsa k0 k1a) J2 hP hD hS gL_law_L_refuses rfl rfl rfl (by decide +kernel) ⟨Nat.le_of_ble_eq_true rfl, Nat.le_of_ble_eq_true rfl⟩ rfl rfl hl (Nat.le_of_ble_eq_true rfl) dL_law_194 ⟨Nat.le_trans (m := 600130) (by omega) (Nat.le_refl _), Nat.le_trans (m := 7301080) (by omega) (Nat.le_refl _)⟩ (fun r9 x2 H locs h9 hP hD hS => ?_)
  obtain ⟨h9, J2⟩ : r9 = 1 ∧ JNV x2 n tt pga hsa k0 k1a := h9
  rw [h9]
  replace hP := kP_perm (wB_swap G d2 d1 x2 x1 []) hP
  replace hD := kD_perm (wB_swap G d2 d1 x2 x1 []) hD
  refine lv_if_eq (tgt := 212) hx hb dL_law_197 (by decide) (fun c9 => absurd c9 (by decide)) (fun c9 => ?_)
  refine lv_aload_n hx hb dL_law_200 rfl (lv_at hl 6 rfl) ?_
  refine lv_aload_n hx hb dL_law_201 rfl (lv_at hl 5 rfl) ?_
  refine kc2 (n := 2) (As := [.ref d1.1, .ref d2.1]) cx cl (c_L_alike l hlt G b L xs d1 d2 HQ1 HQ2 n tt pga hsa k0 k1a) ⟨J1, J2⟩ hP hD hS gL_law_L_alike rfl rfl rfl (by decide +kernel) ⟨Nat.le_of_ble_eq_true rfl, Nat.le_of_ble_eq_true rfl⟩ rfl rfl hl (Nat.le_of_ble_eq_true rfl) dL_law_202 ⟨Nat.le_trans (m := 600130) (by omega) (Nat.le_refl _), Nat.le_trans (m := 7301080) (by omega) (Nat.le_refl _)⟩ (fun r9 x1 x2 H locs h9 hP hD hS => ?_)
  obtain ⟨h9, J1, J2⟩ : r9 = 1 ∧ JNV x1 n tt pga hsa k0 k1a ∧ JNV x2 n tt pga hsa k0 k1a := h9
  rw [h9]
  refine lv_if_eq (tgt := 212) hx hb dL_law_205 (by decide) (fun c9 => absurd c9 (by decide)) (fun c9 => ?_)
  refine lv_iconst (v := 1) hx hb dL_law_208 (by decide) ?_
  refine lv_goto (tgt := 213) hx hb dL_law_209 (by decide) ?_
  refine lv_istore_n (lv' := [(3, .int 1), (7, .int r2), (6, .int r1), (5, .int (nI k)), (4, .int (nI t)), (2, .ref d2.1), (1, .ref d1.1), (0, .ref b)]) hx hb dL_law_213 rfl hl (by decide) rfl (fun ls hl => ?_)
  refine lv_iload hx hb dL_law_214 (lv_at hl 3 rfl) ?_
  refine lv_iconst (v := 4) hx hb dL_law_216 (by decide) ?_
  refine lv_irem hx hb dL_law_217 (by decide) ?_
  refine lv_iconst (v := 3) hx hb dL_law_218 (by decide) ?_
  refine lv_icmp_ne (tgt := 353) hx hb dL_law_219 (by decide) (fun c219 => ?_) (fun c219 => ?_)
  · refine W.widen (k := ck) (n := sk) (by omega) (by omega) ?_
    exact kk _ _ _ _ _ _ _ _ _ _ _ HOa J1 J2 hP hD hS (lv_sub hl [3, 4, 0, 5, 6, 7] rfl)
  · refine W.widen (k := cs + 364) (n := ss + 2184) (by omega) (by omega) ?_
    rcases J1.st with hc | hc
    · exact lw_b1f hlt cx cl HQ1 HQ2 J1 J2 HOa hr2 hc ⟨by omega, by omega⟩ ⟨by omega, by omega⟩ kk hP hD hS (lv_sub hl [1, 2, 3, 4, 0, 5, 6, 7] rfl)
    · exact lw_b1s hlt cx cl HQ1 HQ2 J1 J2 HOa hr2 hc ⟨by omega, by omega⟩ ⟨by omega, by omega⟩ kk hP hD hS (lv_sub hl [1, 2, 3, 4, 0, 5, 6, 7] rfl)

set_option maxRecDepth 100000 in
theorem lw_k (hlt : l.stackTraces = false) (cx : Cx p s m args meth c cL_law 9 RL wsL_law (some .boolean) G A) (cl : CL s A b L xs) (hL : L ≤ 260) {d1 d2 : AD} (HQ1 : PQd d1) (HQ2 : PQd d2) {t : Nat} (ht : t ≤ 1) {cs ss ck sk : Nat} (hcs : cs ≤ 200000 ∧ ss ≤ 2000000) (hck : cs + 12000 ≤ ck ∧ ss + 72000 ≤ sk) (kk : KW p l e s m args below meth c Qp G A d1 d2 359 ck sk [(4, .int (nI t)), (3, .int 1), (2, .ref d2.1), (1, .ref d1.1), (0, .ref b)]) : ∀ (f k : Nat), k + f = 12 → KW p l e s m args below meth c Qp G A d1 d2 125 (cs + 1000 * k) (ss + 6000 * k) [(5, .int (nI k)), (4, .int (nI t)), (3, .int 1), (2, .ref d2.1), (1, .ref d1.1), (0, .ref b)] := by
  obtain ⟨hx, hb, hml, hown, hts, hr, hlocks, hK, hA⟩ := id cx
  intro f
  induction f with
  | zero =>
    intro k hk
    intro n tt pg hs k0 k1 x1 x2 H locs ls HO J1 J2 hP hD hS hl
    have et : k = 12 := by omega
    subst et
    refine lv_iload hx hb dL_law_125 (lv_at hl 0 rfl) ?_
    refine lv_bipush (v := 12) hx hb dL_law_127 (by decide) ?_
    refine lv_icmp_ge (tgt := 359) hx hb dL_law_129 (by decide) (fun c9 => ?_) (fun c9 => absurd (nI_le (Nat.le_refl 12) (by decide)) c9)
    refine W.widen (k := ck) (n := sk) (by omega) (by omega) ?_
    exact kk _ _ _ _ _ _ _ _ _ _ _ HO J1 J2 hP hD hS (lv_sub hl [1, 2, 3, 4, 5] rfl)
  | succ f ih =>
    intro k hk
    intro n tt pg hs k0 k1 x1 x2 H locs ls HO J1 J2 hP hD hS hl
    refine lv_iload hx hb dL_law_125 (lv_at hl 0 rfl) ?_
    refine lv_bipush (v := 12) hx hb dL_law_127 (by decide) ?_
    refine lv_icmp_ge (tgt := 359) hx hb dL_law_129 (by decide) (fun c9 => absurd c9 (nI_ge (a := k) (b := 12) (by omega) (by decide))) (fun c9 => ?_)
    refine lv_iload_n hx hb dL_law_132 rfl (lv_at hl 2 rfl) ?_
    refine lv_if_eq (tgt := 359) hx hb dL_law_133 (by decide) (fun c9 => absurd c9 (by decide)) (fun c9 => ?_)
    refine lw_turn hlt cx cl HQ1 HQ2 J1 J2 hL ht (by omega) HO (ck := cs + 1000 * (k + 1)) (sk := ss + 6000 * (k + 1)) ⟨by omega, by omega⟩ ⟨by omega, by omega⟩ ?_ hP hD hS hl
    clear HO J1 J2 hP hD hS hl n tt pg hs k0 k1 x1 x2 H locs ls
    intro n tt pg hs k0 k1 x1 x2 H locs ls HO J1 J2 hP hD hS hl
    refine lv_iinc (v := nI (k + 1)) (lv' := [(5, .int (nI (k + 1))), (4, .int (nI t)), (3, .int 1), (2, .ref d2.1), (1, .ref d1.1), (0, .ref b)]) hx hb dL_law_353 hl (k := 0) rfl (nI_1 k) (by decide) rfl (fun ls hl => ?_)
    refine lv_goto (tgt := 125) hx hb dL_law_356 (by decide) ?_
    exact ih (k + 1) (by omega) _ _ _ _ _ _ _ _ _ _ _ HO J1 J2 hP hD hS hl

set_option maxRecDepth 100000 in
set_option maxHeartbeats 4000000 in
theorem lw_tale (hlt : l.stackTraces = false) (cx : Cx p s m args meth c cL_law 9 RL wsL_law (some .boolean) G A) (cl : CL s A b L xs) {d1 d2 : AD} (HQ1 : PQd d1) (HQ2 : PQd d2) {x1 x2 : XT} {t : Nat} (J1 : JNV x1 n tt pg hs k0 k1) (J2 : JNV x2 n tt pg hs k0 k1)  (hL : L ≤ 260) (ht : t ≤ 1) (HO : OKS pg hs k1) {cs ss ck sk : Nat} (hcs : cs ≤ 100000 ∧ ss ≤ 1000000) (hck : cs + 12480 ≤ ck ∧ ss + 74880 ≤ sk) (kk : KW p l e s m args below meth c Qp G A d1 d2 359 ck sk [(4, .int (nI t)), (3, .int 1), (2, .ref d2.1), (1, .ref d1.1), (0, .ref b)]) {H : Heap} {locs : List Loc} {ls : Array Slot} (hP : va_P G.1 vwCl (wB G d1 x1 (wB G d2 x2 [])) H) (hD : va_D A (wB G d1 x1 (wB G d2 x2 []))) (hS : va_S A s.heap H locs) (hl : lv_has ls 9 [(4, .int (nI t)), (3, .int 1), (2, .ref d2.1), (1, .ref d1.1), (0, .ref b)])  : W p l e room_1 s m args below meth c H locs cs ss Qp (F0 m 87 ls []) := by
  obtain ⟨hx, hb, hml, hown, hts, hr, hlocks, hK, hA⟩ := id cx
  refine lv_aload_n hx hb dL_law_87 rfl (lv_at hl 3 rfl) ?_
  refine lv_aload_n hx hb dL_law_88 rfl (lv_at hl 2 rfl) ?_
  refine lv_aload_n hx hb dL_law_89 rfl (lv_at hl 4 rfl) ?_
  refine lv_bipush (v := 40) hx hb dL_law_90 (by decide) ?_
  refine lv_iload hx hb dL_law_92 (lv_at hl 0 rfl) ?_
  refine lv_imul hx hb dL_law_94 ?_
  refine kc2 (n := 4) (As := [.ref d1.1, .ref d2.1, .ref b, .int (40 * (nI t))]) cx cl (c_L_told l hlt G b L xs hL d1 d2 HQ1 HQ2 n tt pg pg hs hs k0 k1 k0 k1 (40 * (nI t)) (ax_ok ht)) ⟨J1, J2⟩ hP hD hS gL_law_L_told rfl rfl rfl (by decide +kernel) ⟨Nat.le_of_ble_eq_true rfl, Nat.le_of_ble_eq_true rfl⟩ rfl rfl hl (Nat.le_of_ble_eq_true rfl) dL_law_95 ⟨Nat.le_trans (m := 600130) (by omega) (Nat.le_refl _), Nat.le_trans (m := 7301080) (by omega) (Nat.le_refl _)⟩ (fun r9 x1 x2 H locs h9 hP hD hS => ?_)
  obtain ⟨h9, n2, tt2, pg2, HO2, J1, J2⟩ := h9
  have h9 : r9 = 1 := h9
  have J1 : JNV x1 n2 tt2 pg2 ([]) none none := J1
  have J2 : JNV x2 n2 tt2 pg2 ([]) none none := J2
  rw [h9]
  refine lv_if_eq (tgt := 120) hx hb dL_law_98 (by decide) (fun c9 => absurd c9 (by decide)) (fun c9 => ?_)
  refine lv_aload_n hx hb dL_law_101 rfl (lv_at hl 2 rfl) ?_
  replace hP := kP_perm (wB_swap G d1 d2 x1 x2 []) hP
  replace hD := kD_perm (wB_swap G d1 d2 x1 x2 []) hD
  refine kc1 (n := 1) (As := [.ref d2.1]) cx cl (c_L_refuses l hlt G b L xs d2 HQ2 n2 tt2 pg2 ([]) none none) J2 hP hD hS gL_law_L_refuses rfl rfl rfl (by decide +kernel) ⟨Nat.le_of_ble_eq_true rfl, Nat.le_of_ble_eq_true rfl⟩ rfl rfl hl (Nat.le_of_ble_eq_true rfl) dL_law_102 ⟨Nat.le_trans (m := 600130) (by omega) (Nat.le_refl _), Nat.le_trans (m := 7301080) (by omega) (Nat.le_refl _)⟩ (fun r9 x2 H locs h9 hP hD hS => ?_)
  obtain ⟨h9, J2⟩ : r9 = 1 ∧ JNV x2 n2 tt2 pg2 ([]) none none := h9
  rw [h9]
  replace hP := kP_perm (wB_swap G d2 d1 x2 x1 []) hP
  replace hD := kD_perm (wB_swap G d2 d1 x2 x1 []) hD
  refine lv_if_eq (tgt := 120) hx hb dL_law_105 (by decide) (fun c9 => absurd c9 (by decide)) (fun c9 => ?_)
  refine lv_aload_n hx hb dL_law_108 rfl (lv_at hl 3 rfl) ?_
  refine lv_aload_n hx hb dL_law_109 rfl (lv_at hl 2 rfl) ?_
  refine kc2 (n := 2) (As := [.ref d1.1, .ref d2.1]) cx cl (c_L_alike l hlt G b L xs d1 d2 HQ1 HQ2 n2 tt2 pg2 ([]) none none) ⟨J1, J2⟩ hP hD hS gL_law_L_alike rfl rfl rfl (by decide +kernel) ⟨Nat.le_of_ble_eq_true rfl, Nat.le_of_ble_eq_true rfl⟩ rfl rfl hl (Nat.le_of_ble_eq_true rfl) dL_law_110 ⟨Nat.le_trans (m := 600130) (by omega) (Nat.le_refl _), Nat.le_trans (m := 7301080) (by omega) (Nat.le_refl _)⟩ (fun r9 x1 x2 H locs h9 hP hD hS => ?_)
  obtain ⟨h9, J1, J2⟩ : r9 = 1 ∧ JNV x1 n2 tt2 pg2 ([]) none none ∧ JNV x2 n2 tt2 pg2 ([]) none none := h9
  rw [h9]
  refine lv_if_eq (tgt := 120) hx hb dL_law_113 (by decide) (fun c9 => absurd c9 (by decide)) (fun c9 => ?_)
  refine lv_iconst (v := 1) hx hb dL_law_116 (by decide) ?_
  refine lv_goto (tgt := 121) hx hb dL_law_117 (by decide) ?_
  refine lv_istore_n (lv' := [(3, .int 1), (4, .int (nI t)), (2, .ref d2.1), (1, .ref d1.1), (0, .ref b)]) hx hb dL_law_121 rfl hl (by decide) rfl (fun ls hl => ?_)
  refine lv_iconst (v := 0) hx hb dL_law_122 (by decide) ?_
  refine lv_istore (lv' := [(5, .int 0), (3, .int 1), (4, .int (nI t)), (2, .ref d2.1), (1, .ref d1.1), (0, .ref b)]) hx hb dL_law_123 hl (by decide) rfl (fun ls hl => ?_)
  refine W.widen (k := (cs + 480) + 1000 * 0) (n := (ss + 2880) + 6000 * 0) (by omega) (by omega) ?_
  exact lw_k hlt cx cl hL HQ1 HQ2 ht ⟨by omega, by omega⟩ ⟨by omega, by omega⟩ kk 12 0 (by decide) _ _ _ _ _ _ _ _ _ _ _ (oks_n HO2) J1 J2 hP hD hS (lv_sub hl [0, 2, 1, 3, 4, 5] rfl)

set_option maxRecDepth 100000 in
theorem lw_t (hlt : l.stackTraces = false) (cx : Cx p s m args meth c cL_law 9 RL wsL_law (some .boolean) G A) (cl : CL s A b L xs) (hL : L ≤ 260) {d1 d2 : AD} (HQ1 : PQd d1) (HQ2 : PQd d2) (hfin : FIN p l e s m args below meth c Qp A) : ∀ (f t : Nat), t + f = 2 → KW p l e s m args below meth c Qp G A d1 d2 77 (2000 + 13000 * t) (12000 + 78000 * t) [(4, .int (nI t)), (3, .int 1), (2, .ref d2.1), (1, .ref d1.1), (0, .ref b)] := by
  obtain ⟨hx, hb, hml, hown, hts, hr, hlocks, hK, hA⟩ := id cx
  intro f
  induction f with
  | zero =>
    intro t ht
    intro n tt pg hs k0 k1 x1 x2 H locs ls HO J1 J2 hP hD hS hl
    have et : t = 2 := by omega
    subst et
    refine lv_iload hx hb dL_law_77 (lv_at hl 0 rfl) ?_
    refine lv_iconst (v := 2) hx hb dL_law_79 (by decide) ?_
    refine lv_icmp_ge (tgt := 365) hx hb dL_law_80 (by decide) (fun c9 => ?_) (fun c9 => absurd (nI_le (Nat.le_refl 2) (by decide)) c9)
    refine lv_iload_n hx hb dL_law_365 rfl (lv_at hl 1 rfl) ?_
    exact hfin _ _ _ _ _ (by omega) (by omega) hS
  | succ f ih =>
    intro t ht
    intro n tt pg hs k0 k1 x1 x2 H locs ls HO J1 J2 hP hD hS hl
    refine lv_iload hx hb dL_law_77 (lv_at hl 0 rfl) ?_
    refine lv_iconst (v := 2) hx hb dL_law_79 (by decide) ?_
    refine lv_icmp_ge (tgt := 365) hx hb dL_law_80 (by decide) (fun c9 => absurd c9 (nI_ge (a := t) (b := 2) (by omega) (by decide))) (fun c9 => ?_)
    refine lv_iload_n hx hb dL_law_83 rfl (lv_at hl 1 rfl) ?_
    refine lv_if_eq (tgt := 365) hx hb dL_law_84 (by decide) (fun c9 => absurd c9 (by decide)) (fun c9 => ?_)
    refine lw_tale hlt cx cl HQ1 HQ2 J1 J2 hL (by omega) HO (ck := 2000 + 13000 * (t + 1)) (sk := 12000 + 78000 * (t + 1)) ⟨by omega, by omega⟩ ⟨by omega, by omega⟩ ?_ hP hD hS hl
    clear HO J1 J2 hP hD hS hl n tt pg hs k0 k1 x1 x2 H locs ls
    intro n tt pg hs k0 k1 x1 x2 H locs ls HO J1 J2 hP hD hS hl
    refine lv_iinc (v := nI (t + 1)) (lv' := [(4, .int (nI (t + 1))), (3, .int 1), (2, .ref d2.1), (1, .ref d1.1), (0, .ref b)]) hx hb dL_law_359 hl (k := 0) rfl (nI_1 t) (by decide) rfl (fun ls hl => ?_)
    refine lv_goto (tgt := 77) hx hb dL_law_362 (by decide) ?_
    exact ih (t + 1) (by omega) _ _ _ _ _ _ _ _ _ _ _ HO J1 J2 hP hD hS hl

set_option maxRecDepth 100000 in
set_option maxHeartbeats 4000000 in
theorem lw_s (hlt : l.stackTraces = false) (cx : Cx p s m args meth c cL_law 9 RL wsL_law (some .boolean) G A) (cl : CL s A b L xs) {d1 d2 : AD} (HQ1 : PQd d1) (HQ2 : PQd d2) {x1 x2 : XT}  (J1 : JNV x1 (0 : Int32) z0 iNow ([]) none none) (J2 : JNV x2 (0 : Int32) z0 iNow ([]) none none)  (hL : L ≤ 260) (hfin : FIN p l e s m args below meth c Qp A) {H : Heap} {locs : List Loc} {ls : Array Slot} (hP : va_P G.1 vwCl (wB G d1 x1 (wB G d2 x2 [])) H) (hD : va_D A (wB G d1 x1 (wB G d2 x2 []))) (hS : va_S A s.heap H locs) (hl : lv_has ls 9 [(2, .ref d2.1), (1, .ref d1.1), (0, .ref b)])  : W p l e room_1 s m args below meth c H locs 156 3956 Qp (F0 m 16 ls []) := by
  obtain ⟨hx, hb, hml, hown, hts, hr, hlocks, hK, hA⟩ := id cx
  refine lv_aload_n hx hb dL_law_16 rfl (lv_at hl 1 rfl) ?_
  refine o_errorPosition hlt cx cl HQ1 J1  (r0 := 0) fe_00 hP hD hS gL_law_X3_errorPosition ⟨Nat.le_of_ble_eq_true rfl, Nat.le_of_ble_eq_true rfl⟩ hl (Nat.le_of_ble_eq_true rfl) dL_law_17 ⟨Nat.le_trans (m := 600130) (by omega) (Nat.le_refl _), Nat.le_trans (m := 7301080) (by omega) (Nat.le_refl _)⟩ (fun H locs hP hD hS => ?_)
  refine lv_if_ne (tgt := 72) hx hb dL_law_20 (by decide) (fun c9 => absurd (by decide) c9) (fun c9 => ?_)
  refine lv_aload_n hx hb dL_law_23 rfl (lv_at hl 1 rfl) ?_
  refine lv_bipush (v := 10) hx hb dL_law_24 (by decide) ?_
  refine o_about hlt cx cl HQ1 J1 10 (r0 := (iNow 9)) (ab_hi (j := 9) (by decide) (by decide) (by decide) (by decide)) hP hD hS gL_law_L_tryAbout ⟨Nat.le_of_ble_eq_true rfl, Nat.le_of_ble_eq_true rfl⟩ hl (Nat.le_of_ble_eq_true rfl) dL_law_26 ⟨Nat.le_trans (m := 600130) (by omega) (Nat.le_refl _), Nat.le_trans (m := 7301080) (by omega) (Nat.le_refl _)⟩ (fun H locs hP hD hS => ?_)
  refine lv_iconst (v := 1) hx hb dL_law_29 (by decide) ?_
  refine lv_icmp_ne (tgt := 72) hx hb dL_law_30 (by decide) (fun c9 => absurd (by decide) c9) (fun c9 => ?_)
  refine lv_aload_n hx hb dL_law_33 rfl (lv_at hl 1 rfl) ?_
  refine lv_iconst (v := 0) hx hb dL_law_34 (by decide) ?_
  refine o_bestR hlt cx cl HQ1 J1 0 (r0 := 1500) bs_i hP hD hS gL_law_L_tryBestR ⟨Nat.le_of_ble_eq_true rfl, Nat.le_of_ble_eq_true rfl⟩ hl (Nat.le_of_ble_eq_true rfl) dL_law_35 ⟨Nat.le_trans (m := 600130) (by omega) (Nat.le_refl _), Nat.le_trans (m := 7301080) (by omega) (Nat.le_refl _)⟩ (fun H locs hP hD hS => ?_)
  refine lv_sipush (v := 1500) hx hb dL_law_38 (by decide) ?_
  refine lv_icmp_ne (tgt := 72) hx hb dL_law_41 (by decide) (fun c9 => absurd (by decide) c9) (fun c9 => ?_)
  refine lv_aload_n hx hb dL_law_44 rfl (lv_at hl 1 rfl) ?_
  refine n_undo hlt cx cl HQ1 J1  rfl hP hD hS gL_law_L_tryUndo ⟨Nat.le_of_ble_eq_true rfl, Nat.le_of_ble_eq_true rfl⟩ hl (Nat.le_of_ble_eq_true rfl) dL_law_45 ⟨Nat.le_trans (m := 600130) (by omega) (Nat.le_refl _), Nat.le_trans (m := 7301080) (by omega) (Nat.le_refl _)⟩ (fun H locs hP hD hS => ?_)
  refine k_ldc (v := (-999900003)) cx (by decide +kernel) dL_law_48 ?_
  refine lv_icmp_ne (tgt := 72) hx hb dL_law_50 (by decide) (fun c9 => absurd (by decide) c9) (fun c9 => ?_)
  refine lv_aload_n hx hb dL_law_53 rfl (lv_at hl 0 rfl) ?_
  replace hP := kP_perm (wB_swap G d1 d2 x1 x2 []) hP
  replace hD := kD_perm (wB_swap G d1 d2 x1 x2 []) hD
  refine kc1 (n := 1) (As := [.ref d2.1]) cx cl (c_L_refuses l hlt G b L xs d2 HQ2 (0 : Int32) z0 iNow ([]) none none) J2 hP hD hS gL_law_L_refuses rfl rfl rfl (by decide +kernel) ⟨Nat.le_of_ble_eq_true rfl, Nat.le_of_ble_eq_true rfl⟩ rfl rfl hl (Nat.le_of_ble_eq_true rfl) dL_law_54 ⟨Nat.le_trans (m := 600130) (by omega) (Nat.le_refl _), Nat.le_trans (m := 7301080) (by omega) (Nat.le_refl _)⟩ (fun r9 x2 H locs h9 hP hD hS => ?_)
  obtain ⟨h9, J2⟩ : r9 = 1 ∧ JNV x2 (0 : Int32) z0 iNow ([]) none none := h9
  rw [h9]
  replace hP := kP_perm (wB_swap G d2 d1 x2 x1 []) hP
  replace hD := kD_perm (wB_swap G d2 d1 x2 x1 []) hD
  refine lv_if_eq (tgt := 72) hx hb dL_law_57 (by decide) (fun c9 => absurd c9 (by decide)) (fun c9 => ?_)
  refine lv_aload_n hx hb dL_law_60 rfl (lv_at hl 1 rfl) ?_
  refine lv_aload_n hx hb dL_law_61 rfl (lv_at hl 0 rfl) ?_
  refine kc2 (n := 2) (As := [.ref d1.1, .ref d2.1]) cx cl (c_L_alike l hlt G b L xs d1 d2 HQ1 HQ2 (0 : Int32) z0 iNow ([]) none none) ⟨J1, J2⟩ hP hD hS gL_law_L_alike rfl rfl rfl (by decide +kernel) ⟨Nat.le_of_ble_eq_true rfl, Nat.le_of_ble_eq_true rfl⟩ rfl rfl hl (Nat.le_of_ble_eq_true rfl) dL_law_62 ⟨Nat.le_trans (m := 600130) (by omega) (Nat.le_refl _), Nat.le_trans (m := 7301080) (by omega) (Nat.le_refl _)⟩ (fun r9 x1 x2 H locs h9 hP hD hS => ?_)
  obtain ⟨h9, J1, J2⟩ : r9 = 1 ∧ JNV x1 (0 : Int32) z0 iNow ([]) none none ∧ JNV x2 (0 : Int32) z0 iNow ([]) none none := h9
  rw [h9]
  refine lv_if_eq (tgt := 72) hx hb dL_law_65 (by decide) (fun c9 => absurd c9 (by decide)) (fun c9 => ?_)
  refine lv_iconst (v := 1) hx hb dL_law_68 (by decide) ?_
  refine lv_goto (tgt := 73) hx hb dL_law_69 (by decide) ?_
  refine lv_istore_n (lv' := [(3, .int 1), (2, .ref d2.1), (1, .ref d1.1), (0, .ref b)]) hx hb dL_law_73 rfl hl (by decide) rfl (fun ls hl => ?_)
  refine lv_iconst (v := 0) hx hb dL_law_74 (by decide) ?_
  refine lv_istore (lv' := [(4, .int 0), (3, .int 1), (2, .ref d2.1), (1, .ref d1.1), (0, .ref b)]) hx hb dL_law_75 hl (by decide) rfl (fun ls hl => ?_)
  refine W.widen (k := 2000 + 13000 * 0) (n := 12000 + 78000 * 0) (by omega) (by omega) ?_
  exact lw_t hlt cx cl hL HQ1 HQ2 hfin 2 0 (by decide) _ _ _ _ _ _ _ _ _ _ _ (oks_n okp_0) J1 J2 hP hD hS (lv_sub hl [0, 1, 2, 3, 4] rfl)

end WLW
