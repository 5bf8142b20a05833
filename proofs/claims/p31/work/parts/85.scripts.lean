/-! the law's method scripts -/
abbrev rmL_scripts : Room := { frames := 8, cells := 40, slots := 240, locals := 190 }
section WSC
variable {p : Program} {l : Launch} {e : Env} {s : State} {m : MethodId} {args : Array Value} {below : List Frame} {meth : Method} {c : Code} {Qp : State → Prop} {G : gG} {A : Nat → Prop} {b L : Nat} {xs : Nat → Int32}
variable {n : Int32} {tt pg : Pg} {hs : List Pg} {k0 k1 : Option Pg}

set_option maxRecDepth 100000 in
set_option maxHeartbeats 4000000 in
theorem sc_5 (hlt : l.stackTraces = false) (cx : Cx p s m args meth c cL_scripts 9 RL wsL_scripts (some .boolean) G A) (cl : CL s A b L xs) {d : AD} (HQ : PQd d) {x : XT} {sm x9 : Int32} (J : JNV x n tt pg hs k0 k1)  (hsm : aQ 1 ((P_X4_simulate z0 pg z0 ((x9).toInt64 * 149) 30).1, (P_X4_simulate z0 pg z0 ((x9).toInt64 * 149) 30).2.1) = sm) (hsb : -15000 ≤ sm.toInt ∧ sm.toInt ≤ 15000) {H : Heap} {locs : List Loc} {ls : Array Slot} (hP : va_P G.1 vwCl (wB G d x []) H) (hD : va_D A (wB G d x [])) (hS : va_S A s.heap H locs) (hl : lv_has ls 9 [(4, .int (pg 9)), (6, .int (pg 11)), (7, .int sm), (1, .int x9), (0, .ref d.1)])  : W p l e rmL_scripts s m args below meth c H locs 14 84 (MQ below (qG G (fun x : XT => wB G d x []) (fun r x => r = 1 ∧ JNV x n tt pg hs k0 k1) A) args s 40 240 A) (F0 m 223 ls []) := by
  obtain ⟨hx, hb, hml, hown, hts, hr, hlocks, hK, hA⟩ := id cx
  refine lv_aload_n hx hb dL_scripts_223 rfl (lv_at hl 4 rfl) ?_
  refine lv_iconst (v := 1) hx hb dL_scripts_224 (by decide) ?_
  refine k_ldc2 (v := 10001) cx (by decide +kernel) dL_scripts_225 ?_
  refine o_runScript hlt cx cl HQ J 1 10001 (r0 := (if pg 11 = 1 then 0 else (-9999))) (x_st (how := 1) (four := 1) (by decide) (by decide) (by decide) dz_11) hP hD hS gL_scripts_L_tryScript ⟨Nat.le_of_ble_eq_true rfl, Nat.le_of_ble_eq_true rfl⟩ hl (Nat.le_of_ble_eq_true rfl) dL_scripts_228 ⟨Nat.le_of_ble_eq_true rfl, Nat.le_of_ble_eq_true rfl⟩ (fun x H locs J hP hD hS => ?_)
  have J : JNV x n tt pg hs k0 k1 := J
  refine lv_iload hx hb dL_scripts_231 (lv_at hl 1 rfl) ?_
  refine lv_iconst (v := 1) hx hb dL_scripts_233 (by decide) ?_
  have hj244 : W p l e rmL_scripts s m args below meth c H locs 15 90 (MQ below (qG G (fun x : XT => wB G d x []) (fun r x => r = 1 ∧ JNV x n tt pg hs k0 k1) A) args s 40 240 A) (F0 m 244 ls [.int (if pg 11 = 1 then 0 else (-9999)), .int (if pg 11 = 1 then 0 else (-9999))]) := by
    refine lv_icmp_ne (tgt := 275) hx hb dL_scripts_244 (by decide) (fun c9 => absurd rfl c9) (fun c9 => ?_)
    refine lv_aload_n hx hb dL_scripts_247 rfl (lv_at hl 4 rfl) ?_
    refine lv_iconst (v := 1) hx hb dL_scripts_248 (by decide) ?_
    refine k_ldc2 (v := 60000) cx (by decide +kernel) dL_scripts_249 ?_
    refine o_runScript hlt cx cl HQ J 1 60000 (r0 := (if pg 11 = 1 then 0 else (-9999))) (x_st (how := 6) (four := 0) (by decide) (by decide) (by decide) dz_60) hP hD hS gL_scripts_L_tryScript ⟨Nat.le_of_ble_eq_true rfl, Nat.le_of_ble_eq_true rfl⟩ hl (Nat.le_of_ble_eq_true rfl) dL_scripts_252 ⟨Nat.le_of_ble_eq_true rfl, Nat.le_of_ble_eq_true rfl⟩ (fun x H locs J hP hD hS => ?_)
    have J : JNV x n tt pg hs k0 k1 := J
    refine lv_iload hx hb dL_scripts_255 (lv_at hl 1 rfl) ?_
    refine lv_iconst (v := 1) hx hb dL_scripts_257 (by decide) ?_
    have hj268 : W p l e rmL_scripts s m args below meth c H locs 16 96 (MQ below (qG G (fun x : XT => wB G d x []) (fun r x => r = 1 ∧ JNV x n tt pg hs k0 k1) A) args s 40 240 A) (F0 m 268 ls [.int (if pg 11 = 1 then 0 else (-9999)), .int (if pg 11 = 1 then 0 else (-9999))]) := by
      refine lv_icmp_ne (tgt := 275) hx hb dL_scripts_268 (by decide) (fun c9 => absurd rfl c9) (fun c9 => ?_)
      refine lv_iconst (v := 1) hx hb dL_scripts_271 (by decide) ?_
      refine lv_goto (tgt := 276) hx hb dL_scripts_272 (by decide) ?_
      refine lv_istore (lv' := [(8, .int 1), (4, .int (pg 9)), (6, .int (pg 11)), (7, .int sm), (1, .int x9), (0, .ref d.1)]) hx hb dL_scripts_276 hl (by decide) rfl (fun ls hl => ?_)
      refine lv_iload hx hb dL_scripts_278 (lv_at hl 0 rfl) ?_
      refine lv_if_eq (tgt := 464) hx hb dL_scripts_280 (by decide) (fun c9 => absurd c9 (by decide)) (fun c9 => ?_)
      refine lv_aload_n hx hb dL_scripts_283 rfl (lv_at hl 5 rfl) ?_
      refine lv_iconst (v := 1) hx hb dL_scripts_284 (by decide) ?_
      refine k_ldc2 (v := 10000) cx (by decide +kernel) dL_scripts_285 ?_
      refine o_runScript hlt cx cl HQ J 1 10000 (r0 := 0) (sc_no (how := 1) (four := 0) (by decide) (by decide) (by decide) (dz_1n (by decide))) hP hD hS gL_scripts_L_tryScript ⟨Nat.le_of_ble_eq_true rfl, Nat.le_of_ble_eq_true rfl⟩ hl (Nat.le_of_ble_eq_true rfl) dL_scripts_288 ⟨Nat.le_of_ble_eq_true rfl, Nat.le_of_ble_eq_true rfl⟩ (fun x H locs J hP hD hS => ?_)
      have J : JNV x n tt pg hs k0 k1 := J
      refine lv_if_ne (tgt := 464) hx hb dL_scripts_291 (by decide) (fun c9 => absurd (by decide) c9) (fun c9 => ?_)
      refine lv_aload_n hx hb dL_scripts_294 rfl (lv_at hl 5 rfl) ?_
      refine lv_iconst (v := 1) hx hb dL_scripts_295 (by decide) ?_
      refine k_ldc2 (v := 10100) cx (by decide +kernel) dL_scripts_296 ?_
      refine o_runScript hlt cx cl HQ J 1 10100 (r0 := 0) (sc_no (how := 1) (four := 100) (by decide) (by decide) (by decide) (dz_1n (by decide))) hP hD hS gL_scripts_L_tryScript ⟨Nat.le_of_ble_eq_true rfl, Nat.le_of_ble_eq_true rfl⟩ hl (Nat.le_of_ble_eq_true rfl) dL_scripts_299 ⟨Nat.le_of_ble_eq_true rfl, Nat.le_of_ble_eq_true rfl⟩ (fun x H locs J hP hD hS => ?_)
      have J : JNV x n tt pg hs k0 k1 := J
      refine lv_if_ne (tgt := 464) hx hb dL_scripts_302 (by decide) (fun c9 => absurd (by decide) c9) (fun c9 => ?_)
      refine lv_aload_n hx hb dL_scripts_305 rfl (lv_at hl 5 rfl) ?_
      refine lv_iconst (v := 1) hx hb dL_scripts_306 (by decide) ?_
      refine k_ldc2 (v := 12001) cx (by decide +kernel) dL_scripts_307 ?_
      refine o_runScript hlt cx cl HQ J 1 12001 (r0 := 0) (sc_no (how := 1) (four := 2001) (by decide) (by decide) (by decide) (dz_1n (by decide))) hP hD hS gL_scripts_L_tryScript ⟨Nat.le_of_ble_eq_true rfl, Nat.le_of_ble_eq_true rfl⟩ hl (Nat.le_of_ble_eq_true rfl) dL_scripts_310 ⟨Nat.le_of_ble_eq_true rfl, Nat.le_of_ble_eq_true rfl⟩ (fun x H locs J hP hD hS => ?_)
      have J : JNV x n tt pg hs k0 k1 := J
      refine lv_if_ne (tgt := 464) hx hb dL_scripts_313 (by decide) (fun c9 => absurd (by decide) c9) (fun c9 => ?_)
      refine lv_aload_n hx hb dL_scripts_316 rfl (lv_at hl 5 rfl) ?_
      refine lv_iconst (v := 1) hx hb dL_scripts_317 (by decide) ?_
      refine k_ldc2 (v := 20201) cx (by decide +kernel) dL_scripts_318 ?_
      refine o_runScript hlt cx cl HQ J 1 20201 (r0 := 0) (sc_no (how := 2) (four := 201) (by decide) (by decide) (by decide) (dz_2n (by decide))) hP hD hS gL_scripts_L_tryScript ⟨Nat.le_of_ble_eq_true rfl, Nat.le_of_ble_eq_true rfl⟩ hl (Nat.le_of_ble_eq_true rfl) dL_scripts_321 ⟨Nat.le_of_ble_eq_true rfl, Nat.le_of_ble_eq_true rfl⟩ (fun x H locs J hP hD hS => ?_)
      have J : JNV x n tt pg hs k0 k1 := J
      refine lv_if_ne (tgt := 464) hx hb dL_scripts_324 (by decide) (fun c9 => absurd (by decide) c9) (fun c9 => ?_)
      refine lv_aload_n hx hb dL_scripts_327 rfl (lv_at hl 5 rfl) ?_
      refine lv_iconst (v := 2) hx hb dL_scripts_328 (by decide) ?_
      refine k_ldc2 (v := 3432174321) cx (by decide +kernel) dL_scripts_329 ?_
      refine o_runScript hlt cx cl HQ J 2 3432174321 (r0 := (-9999)) sc_2 hP hD hS gL_scripts_L_tryScript ⟨Nat.le_of_ble_eq_true rfl, Nat.le_of_ble_eq_true rfl⟩ hl (Nat.le_of_ble_eq_true rfl) dL_scripts_332 ⟨Nat.le_of_ble_eq_true rfl, Nat.le_of_ble_eq_true rfl⟩ (fun x H locs J hP hD hS => ?_)
      have J : JNV x n tt pg hs k0 k1 := J
      refine lv_sipush (v := (-9999)) hx hb dL_scripts_335 (by decide) ?_
      refine lv_icmp_ne (tgt := 464) hx hb dL_scripts_338 (by decide) (fun c9 => absurd (by decide) c9) (fun c9 => ?_)
      refine lv_aload_n hx hb dL_scripts_341 rfl (lv_at hl 5 rfl) ?_
      refine lv_iconst (v := 1) hx hb dL_scripts_342 (by decide) ?_
      refine k_ldc2 (v := 42005) cx (by decide +kernel) dL_scripts_343 ?_
      refine o_runScript hlt cx cl HQ J 1 42005 (r0 := 0) (sc_no (how := 4) (four := 2005) (by decide) (by decide) (by decide) (dz_4n (by decide))) hP hD hS gL_scripts_L_tryScript ⟨Nat.le_of_ble_eq_true rfl, Nat.le_of_ble_eq_true rfl⟩ hl (Nat.le_of_ble_eq_true rfl) dL_scripts_346 ⟨Nat.le_of_ble_eq_true rfl, Nat.le_of_ble_eq_true rfl⟩ (fun x H locs J hP hD hS => ?_)
      have J : JNV x n tt pg hs k0 k1 := J
      refine lv_if_ne (tgt := 464) hx hb dL_scripts_349 (by decide) (fun c9 => absurd (by decide) c9) (fun c9 => ?_)
      refine lv_aload_n hx hb dL_scripts_352 rfl (lv_at hl 5 rfl) ?_
      refine lv_iconst (v := 1) hx hb dL_scripts_353 (by decide) ?_
      refine k_ldc2 (v := 40004) cx (by decide +kernel) dL_scripts_354 ?_
      refine o_runScript hlt cx cl HQ J 1 40004 (r0 := 0) (sc_no (how := 4) (four := 4) (by decide) (by decide) (by decide) (dz_4n (by decide))) hP hD hS gL_scripts_L_tryScript ⟨Nat.le_of_ble_eq_true rfl, Nat.le_of_ble_eq_true rfl⟩ hl (Nat.le_of_ble_eq_true rfl) dL_scripts_357 ⟨Nat.le_of_ble_eq_true rfl, Nat.le_of_ble_eq_true rfl⟩ (fun x H locs J hP hD hS => ?_)
      have J : JNV x n tt pg hs k0 k1 := J
      refine lv_if_ne (tgt := 464) hx hb dL_scripts_360 (by decide) (fun c9 => absurd (by decide) c9) (fun c9 => ?_)
      refine lv_aload_n hx hb dL_scripts_363 rfl (lv_at hl 5 rfl) ?_
      refine lv_iconst (v := 1) hx hb dL_scripts_364 (by decide) ?_
      refine k_ldc2 (v := 43000) cx (by decide +kernel) dL_scripts_365 ?_
      refine o_runScript hlt cx cl HQ J 1 43000 (r0 := 0) (sc_no (how := 4) (four := 3000) (by decide) (by decide) (by decide) (dz_4n (by decide))) hP hD hS gL_scripts_L_tryScript ⟨Nat.le_of_ble_eq_true rfl, Nat.le_of_ble_eq_true rfl⟩ hl (Nat.le_of_ble_eq_true rfl) dL_scripts_368 ⟨Nat.le_of_ble_eq_true rfl, Nat.le_of_ble_eq_true rfl⟩ (fun x H locs J hP hD hS => ?_)
      have J : JNV x n tt pg hs k0 k1 := J
      refine lv_if_ne (tgt := 464) hx hb dL_scripts_371 (by decide) (fun c9 => absurd (by decide) c9) (fun c9 => ?_)
      refine lv_aload_n hx hb dL_scripts_374 rfl (lv_at hl 5 rfl) ?_
      refine lv_iconst (v := 1) hx hb dL_scripts_375 (by decide) ?_
      refine k_ldc2 (v := 43099) cx (by decide +kernel) dL_scripts_376 ?_
      refine o_runScript hlt cx cl HQ J 1 43099 (r0 := (-9999)) (sc_ye (how := 4) (four := 3099) (by decide) (by decide) (by decide) (dz_4y (by decide) (by decide) (by decide))) hP hD hS gL_scripts_L_tryScript ⟨Nat.le_of_ble_eq_true rfl, Nat.le_of_ble_eq_true rfl⟩ hl (Nat.le_of_ble_eq_true rfl) dL_scripts_379 ⟨Nat.le_of_ble_eq_true rfl, Nat.le_of_ble_eq_true rfl⟩ (fun x H locs J hP hD hS => ?_)
      have J : JNV x n tt pg hs k0 k1 := J
      refine lv_sipush (v := (-9999)) hx hb dL_scripts_382 (by decide) ?_
      refine lv_icmp_ne (tgt := 464) hx hb dL_scripts_385 (by decide) (fun c9 => absurd (by decide) c9) (fun c9 => ?_)
      refine lv_aload_n hx hb dL_scripts_388 rfl (lv_at hl 5 rfl) ?_
      refine lv_iconst (v := 1) hx hb dL_scripts_389 (by decide) ?_
      refine k_ldc2 (v := 50000) cx (by decide +kernel) dL_scripts_390 ?_
      refine k_ldc2 (v := 1000) cx (by decide +kernel) dL_scripts_393 ?_
      refine lv_iload hx hb dL_scripts_396 (lv_at hl 1 rfl) ?_
      refine lv_i2l hx hb dL_scripts_398 rfl ?_
      refine lv_lmul hx hb dL_scripts_399 ?_
      refine lv_ladd hx hb dL_scripts_400 ?_
      refine o_runScript hlt cx cl HQ J 1 (50000 + (1000 * ((pg 9)).toInt64)) (r0 := 0) (x_un J.pv) hP hD hS gL_scripts_L_tryScript ⟨Nat.le_of_ble_eq_true rfl, Nat.le_of_ble_eq_true rfl⟩ hl (Nat.le_of_ble_eq_true rfl) dL_scripts_401 ⟨Nat.le_of_ble_eq_true rfl, Nat.le_of_ble_eq_true rfl⟩ (fun x H locs J hP hD hS => ?_)
      have J : JNV x n tt pg hs k0 k1 := J
      refine lv_if_ne (tgt := 464) hx hb dL_scripts_404 (by decide) (fun c9 => absurd (by decide) c9) (fun c9 => ?_)
      refine lv_aload_n hx hb dL_scripts_407 rfl (lv_at hl 5 rfl) ?_
      refine lv_iconst (v := 1) hx hb dL_scripts_408 (by decide) ?_
      refine k_ldc2 (v := 60001) cx (by decide +kernel) dL_scripts_409 ?_
      refine o_runScript hlt cx cl HQ J 1 60001 (r0 := 0) (sc_no (how := 6) (four := 1) (by decide) (by decide) (by decide) (dz_6n (by decide))) hP hD hS gL_scripts_L_tryScript ⟨Nat.le_of_ble_eq_true rfl, Nat.le_of_ble_eq_true rfl⟩ hl (Nat.le_of_ble_eq_true rfl) dL_scripts_412 ⟨Nat.le_of_ble_eq_true rfl, Nat.le_of_ble_eq_true rfl⟩ (fun x H locs J hP hD hS => ?_)
      have J : JNV x n tt pg hs k0 k1 := J
      refine lv_if_ne (tgt := 464) hx hb dL_scripts_415 (by decide) (fun c9 => absurd (by decide) c9) (fun c9 => ?_)
      refine lv_aload_n hx hb dL_scripts_418 rfl (lv_at hl 5 rfl) ?_
      refine lv_iconst (v := 1) hx hb dL_scripts_419 (by decide) ?_
      refine lv_lconst (v := 0) hx hb dL_scripts_420 (by decide) ?_
      refine o_runScript hlt cx cl HQ J 1 0 (r0 := 0) (sc_no (how := 0) (four := 0) (by decide) (by decide) (by decide) dz_0) hP hD hS gL_scripts_L_tryScript ⟨Nat.le_of_ble_eq_true rfl, Nat.le_of_ble_eq_true rfl⟩ hl (Nat.le_of_ble_eq_true rfl) dL_scripts_421 ⟨Nat.le_of_ble_eq_true rfl, Nat.le_of_ble_eq_true rfl⟩ (fun x H locs J hP hD hS => ?_)
      have J : JNV x n tt pg hs k0 k1 := J
      refine lv_if_ne (tgt := 464) hx hb dL_scripts_424 (by decide) (fun c9 => absurd (by decide) c9) (fun c9 => ?_)
      refine lv_iload hx hb dL_scripts_427 (lv_at hl 3 rfl) ?_
      refine lv_sipush (v := 15000) hx hb dL_scripts_429 (by decide) ?_
      refine lv_icmp_gt (tgt := 464) hx hb dL_scripts_432 (by decide) (fun c9 => absurd c9 (fun q => by rw [Int32.lt_iff_toInt_lt, show (15000 : Int32).toInt = 15000 by decide] at q; omega)) (fun c9 => ?_)
      refine lv_iload hx hb dL_scripts_435 (lv_at hl 3 rfl) ?_
      refine lv_sipush (v := (-15000)) hx hb dL_scripts_437 (by decide) ?_
      refine lv_icmp_lt (tgt := 464) hx hb dL_scripts_440 (by decide) (fun c9 => absurd c9 (fun q => by rw [Int32.lt_iff_toInt_lt, show (-15000 : Int32).toInt = -15000 by decide] at q; omega)) (fun c9 => ?_)
      refine lv_iload hx hb dL_scripts_443 (lv_at hl 3 rfl) ?_
      refine lv_aload_n hx hb dL_scripts_445 rfl (lv_at hl 5 rfl) ?_
      refine lv_iload_n hx hb dL_scripts_446 rfl (lv_at hl 4 rfl) ?_
      refine lv_i2l hx hb dL_scripts_447 rfl ?_
      refine k_ldc2 (v := 149) cx (by decide +kernel) dL_scripts_448 ?_
      refine lv_lmul hx hb dL_scripts_451 ?_
      refine lv_bipush (v := 30) hx hb dL_scripts_452 (by decide) ?_
      refine o_simulate hlt cx cl HQ J ((x9).toInt64 * 149) 30 (r0 := sm) hsm hP hD hS gL_scripts_L_trySimulate ⟨Nat.le_of_ble_eq_true rfl, Nat.le_of_ble_eq_true rfl⟩ hl (Nat.le_of_ble_eq_true rfl) dL_scripts_454 ⟨Nat.le_of_ble_eq_true rfl, Nat.le_of_ble_eq_true rfl⟩ (fun x H locs J hP hD hS => ?_)
      have J : JNV x n tt pg hs k0 k1 := J
      refine lv_icmp_ne (tgt := 464) hx hb dL_scripts_457 (by decide) (fun c9 => absurd rfl c9) (fun c9 => ?_)
      refine lv_iconst (v := 1) hx hb dL_scripts_460 (by decide) ?_
      refine lv_goto (tgt := 465) hx hb dL_scripts_461 (by decide) ?_
      exact k_retG (u := x) cx (nz (Or.inr rfl)) ⟨rfl, J⟩ hP hS ⟨Nat.le_of_ble_eq_true rfl, Nat.le_of_ble_eq_true rfl⟩ dL_scripts_465
    refine lv_icmp_ne (tgt := 265) hx hb dL_scripts_258 (by decide) (fun c258 => ?_) (fun c258 => ?_)
    · refine lv_sipush (v := (-9999)) hx hb dL_scripts_265 (by decide) ?_
      exact k_top (v' := (if pg 11 = 1 then 0 else (-9999))) (if_neg c258).symm hj268
    · refine lv_iconst (v := 0) hx hb dL_scripts_261 (by decide) ?_
      refine lv_goto (tgt := 268) hx hb dL_scripts_262 (by decide) ?_
      exact k_top (v' := (if pg 11 = 1 then 0 else (-9999))) (if_pos c258).symm hj268
  refine lv_icmp_ne (tgt := 241) hx hb dL_scripts_234 (by decide) (fun c234 => ?_) (fun c234 => ?_)
  · refine lv_sipush (v := (-9999)) hx hb dL_scripts_241 (by decide) ?_
    exact k_top (v' := (if pg 11 = 1 then 0 else (-9999))) (if_neg c234).symm hj244
  · refine lv_iconst (v := 0) hx hb dL_scripts_237 (by decide) ?_
    refine lv_goto (tgt := 244) hx hb dL_scripts_238 (by decide) ?_
    exact k_top (v' := (if pg 11 = 1 then 0 else (-9999))) (if_pos c234).symm hj244

set_option maxRecDepth 100000 in
set_option maxHeartbeats 4000000 in
theorem sc_4 (hlt : l.stackTraces = false) (cx : Cx p s m args meth c cL_scripts 9 RL wsL_scripts (some .boolean) G A) (cl : CL s A b L xs) {d : AD} (HQ : PQd d) {x : XT} {sm x9 : Int32} (J : JNV x n tt pg hs k0 k1)  (hsm : aQ 1 ((P_X4_simulate z0 pg z0 ((x9).toInt64 * 149) 30).1, (P_X4_simulate z0 pg z0 ((x9).toInt64 * 149) 30).2.1) = sm) (hsb : -15000 ≤ sm.toInt ∧ sm.toInt ≤ 15000) {H : Heap} {locs : List Loc} {ls : Array Slot} (hP : va_P G.1 vwCl (wB G d x []) H) (hD : va_D A (wB G d x [])) (hS : va_S A s.heap H locs) (hl : lv_has ls 9 [(3, .int (P_X4_offsetOf pg)), (4, .int (pg 9)), (6, .int (pg 11)), (7, .int sm), (1, .int x9), (0, .ref d.1)])  : W p l e rmL_scripts s m args below meth c H locs 12 72 (MQ below (qG G (fun x : XT => wB G d x []) (fun r x => r = 1 ∧ JNV x n tt pg hs k0 k1) A) args s 40 240 A) (F0 m 198 ls []) := by
  obtain ⟨hx, hb, hml, hown, hts, hr, hlocks, hK, hA⟩ := id cx
  refine lv_iload_n hx hb dL_scripts_198 rfl (lv_at hl 0 rfl) ?_
  refine lv_iconst (v := 1) hx hb dL_scripts_199 (by decide) ?_
  refine lv_icmp_lt (tgt := 223) hx hb dL_scripts_200 (by decide) (fun c200 => ?_) (fun c200 => ?_)
  · refine W.widen (k := 14) (n := 84) (Nat.le_of_ble_eq_true rfl) (Nat.le_of_ble_eq_true rfl) ?_
    exact sc_5 hlt cx cl HQ J hsm hsb hP hD hS (lv_sub hl [1, 2, 3, 4, 5] rfl)
  · refine lv_iload_n hx hb dL_scripts_203 rfl (lv_at hl 0 rfl) ?_
    refine lv_bipush (v := 100) hx hb dL_scripts_204 (by decide) ?_
    refine lv_icmp_gt (tgt := 223) hx hb dL_scripts_206 (by decide) (fun c206 => ?_) (fun c206 => ?_)
    · refine W.widen (k := 14) (n := 84) (Nat.le_of_ble_eq_true rfl) (Nat.le_of_ble_eq_true rfl) ?_
      exact sc_5 hlt cx cl HQ J hsm hsb hP hD hS (lv_sub hl [1, 2, 3, 4, 5] rfl)
    · refine lv_aload_n hx hb dL_scripts_209 rfl (lv_at hl 5 rfl) ?_
      refine lv_iconst (v := 1) hx hb dL_scripts_210 (by decide) ?_
      refine k_ldc2 (v := 89999) cx (by decide +kernel) dL_scripts_211 ?_
      refine lv_iload_n hx hb dL_scripts_214 rfl (lv_at hl 0 rfl) ?_
      refine lv_i2l hx hb dL_scripts_215 rfl ?_
      refine lv_ladd hx hb dL_scripts_216 ?_
      refine o_runScript hlt cx cl HQ J 1 (89999 + ((P_X4_offsetOf pg)).toInt64) (r0 := 0) (x_o1 c200 (ngt c206)) hP hD hS gL_scripts_L_tryScript ⟨Nat.le_of_ble_eq_true rfl, Nat.le_of_ble_eq_true rfl⟩ hl (Nat.le_of_ble_eq_true rfl) dL_scripts_217 ⟨Nat.le_of_ble_eq_true rfl, Nat.le_of_ble_eq_true rfl⟩ (fun x H locs J hP hD hS => ?_)
      have J : JNV x n tt pg hs k0 k1 := J
      refine lv_if_ne (tgt := 275) hx hb dL_scripts_220 (by decide) (fun c9 => absurd (by decide) c9) (fun c9 => ?_)
      refine W.widen (k := 14) (n := 84) (Nat.le_of_ble_eq_true rfl) (Nat.le_of_ble_eq_true rfl) ?_
      exact sc_5 hlt cx cl HQ J hsm hsb hP hD hS (lv_sub hl [1, 2, 3, 4, 5] rfl)

set_option maxRecDepth 100000 in
set_option maxHeartbeats 4000000 in
theorem sc_3 (hlt : l.stackTraces = false) (cx : Cx p s m args meth c cL_scripts 9 RL wsL_scripts (some .boolean) G A) (cl : CL s A b L xs) {d : AD} (HQ : PQd d) {x : XT} {sm x9 : Int32} (J : JNV x n tt pg hs k0 k1)  (hsm : aQ 1 ((P_X4_simulate z0 pg z0 ((x9).toInt64 * 149) 30).1, (P_X4_simulate z0 pg z0 ((x9).toInt64 * 149) 30).2.1) = sm) (hsb : -15000 ≤ sm.toInt ∧ sm.toInt ≤ 15000) {H : Heap} {locs : List Loc} {ls : Array Slot} (hP : va_P G.1 vwCl (wB G d x []) H) (hD : va_D A (wB G d x [])) (hS : va_S A s.heap H locs) (hl : lv_has ls 9 [(3, .int (P_X4_offsetOf pg)), (4, .int (pg 9)), (6, .int (pg 11)), (7, .int sm), (1, .int x9), (0, .ref d.1)])  : W p l e rmL_scripts s m args below meth c H locs 11 66 (MQ below (qG G (fun x : XT => wB G d x []) (fun r x => r = 1 ∧ JNV x n tt pg hs k0 k1) A) args s 40 240 A) (F0 m 171 ls []) := by
  obtain ⟨hx, hb, hml, hown, hts, hr, hlocks, hK, hA⟩ := id cx
  refine lv_iload_n hx hb dL_scripts_171 rfl (lv_at hl 0 rfl) ?_
  refine lv_if_lt (tgt := 198) hx hb dL_scripts_172 (by decide) (fun c172 => ?_) (fun c172 => ?_)
  · refine W.widen (k := 12) (n := 72) (Nat.le_of_ble_eq_true rfl) (Nat.le_of_ble_eq_true rfl) ?_
    exact sc_4 hlt cx cl HQ J hsm hsb hP hD hS (lv_sub hl [0, 1, 2, 3, 4, 5] rfl)
  · refine lv_iload_n hx hb dL_scripts_175 rfl (lv_at hl 0 rfl) ?_
    refine lv_bipush (v := 99) hx hb dL_scripts_176 (by decide) ?_
    refine lv_icmp_gt (tgt := 198) hx hb dL_scripts_178 (by decide) (fun c178 => ?_) (fun c178 => ?_)
    · refine W.widen (k := 12) (n := 72) (Nat.le_of_ble_eq_true rfl) (Nat.le_of_ble_eq_true rfl) ?_
      exact sc_4 hlt cx cl HQ J hsm hsb hP hD hS (lv_sub hl [0, 1, 2, 3, 4, 5] rfl)
    · refine lv_aload_n hx hb dL_scripts_181 rfl (lv_at hl 5 rfl) ?_
      refine lv_iconst (v := 1) hx hb dL_scripts_182 (by decide) ?_
      refine k_ldc2 (v := 90000) cx (by decide +kernel) dL_scripts_183 ?_
      refine lv_iload_n hx hb dL_scripts_186 rfl (lv_at hl 0 rfl) ?_
      refine lv_i2l hx hb dL_scripts_187 rfl ?_
      refine lv_ladd hx hb dL_scripts_188 ?_
      refine o_runScript hlt cx cl HQ J 1 (90000 + ((P_X4_offsetOf pg)).toInt64) (r0 := (-9999)) (x_o c172 (ngt c178)) hP hD hS gL_scripts_L_tryScript ⟨Nat.le_of_ble_eq_true rfl, Nat.le_of_ble_eq_true rfl⟩ hl (Nat.le_of_ble_eq_true rfl) dL_scripts_189 ⟨Nat.le_of_ble_eq_true rfl, Nat.le_of_ble_eq_true rfl⟩ (fun x H locs J hP hD hS => ?_)
      have J : JNV x n tt pg hs k0 k1 := J
      refine lv_sipush (v := (-9999)) hx hb dL_scripts_192 (by decide) ?_
      refine lv_icmp_ne (tgt := 275) hx hb dL_scripts_195 (by decide) (fun c9 => absurd (by decide) c9) (fun c9 => ?_)
      refine W.widen (k := 12) (n := 72) (Nat.le_of_ble_eq_true rfl) (Nat.le_of_ble_eq_true rfl) ?_
      exact sc_4 hlt cx cl HQ J hsm hsb hP hD hS (lv_sub hl [0, 1, 2, 3, 4, 5] rfl)

set_option maxRecDepth 100000 in
set_option maxHeartbeats 4000000 in
theorem sc_2a (hlt : l.stackTraces = false) (cx : Cx p s m args meth c cL_scripts 9 RL wsL_scripts (some .boolean) G A) (cl : CL s A b L xs) {d : AD} (HQ : PQd d) {x : XT} {sm x9 : Int32} (J : JNV x n tt pg hs k0 k1)  (hsm : aQ 1 ((P_X4_simulate z0 pg z0 ((x9).toInt64 * 149) 30).1, (P_X4_simulate z0 pg z0 ((x9).toInt64 * 149) 30).2.1) = sm) (hsb : -15000 ≤ sm.toInt ∧ sm.toInt ≤ 15000) (h12 : pg 12 ≤ 0) {H : Heap} {locs : List Loc} {ls : Array Slot} (hP : va_P G.1 vwCl (wB G d x []) H) (hD : va_D A (wB G d x [])) (hS : va_S A s.heap H locs) (hl : lv_has ls 9 [(5, .int (-9999)), (3, .int (P_X4_offsetOf pg)), (4, .int (pg 9)), (6, .int (pg 11)), (7, .int sm), (1, .int x9), (0, .ref d.1)])  : W p l e rmL_scripts s m args below meth c H locs 9 54 (MQ below (qG G (fun x : XT => wB G d x []) (fun r x => r = 1 ∧ JNV x n tt pg hs k0 k1) A) args s 40 240 A) (F0 m 88 ls []) := by
  obtain ⟨hx, hb, hml, hown, hts, hr, hlocks, hK, hA⟩ := id cx
  refine lv_iload hx hb dL_scripts_88 (lv_at hl 0 rfl) ?_
  refine lv_sipush (v := (-9999)) hx hb dL_scripts_90 (by decide) ?_
  refine lv_icmp_ne (tgt := 110) hx hb dL_scripts_93 (by decide) (fun c9 => absurd (by decide) c9) (fun c9 => ?_)
  refine lv_aload_n hx hb dL_scripts_96 rfl (lv_at hl 6 rfl) ?_
  refine lv_iconst (v := 1) hx hb dL_scripts_97 (by decide) ?_
  refine k_ldc2 (v := 80000) cx (by decide +kernel) dL_scripts_98 ?_
  refine o_runScript hlt cx cl HQ J 1 80000 (r0 := 0) (x_none h12) hP hD hS gL_scripts_L_tryScript ⟨Nat.le_of_ble_eq_true rfl, Nat.le_of_ble_eq_true rfl⟩ hl (Nat.le_of_ble_eq_true rfl) dL_scripts_101 ⟨Nat.le_of_ble_eq_true rfl, Nat.le_of_ble_eq_true rfl⟩ (fun x H locs J hP hD hS => ?_)
  have J : JNV x n tt pg hs k0 k1 := J
  refine lv_if_ne (tgt := 275) hx hb dL_scripts_104 (by decide) (fun c9 => absurd (by decide) c9) (fun c9 => ?_)
  refine lv_goto (tgt := 171) hx hb dL_scripts_107 (by decide) ?_
  refine W.widen (k := 11) (n := 66) (Nat.le_of_ble_eq_true rfl) (Nat.le_of_ble_eq_true rfl) ?_
  exact sc_3 hlt cx cl HQ J hsm hsb hP hD hS (lv_sub hl [1, 2, 3, 4, 5, 6] rfl)

set_option maxRecDepth 100000 in
set_option maxHeartbeats 4000000 in
theorem sc_2b (hlt : l.stackTraces = false) (cx : Cx p s m args meth c cL_scripts 9 RL wsL_scripts (some .boolean) G A) (cl : CL s A b L xs) {d : AD} (HQ : PQd d) {x : XT} {sm x9 : Int32} (J : JNV x n tt pg hs k0 k1)  (hsm : aQ 1 ((P_X4_simulate z0 pg z0 ((x9).toInt64 * 149) 30).1, (P_X4_simulate z0 pg z0 ((x9).toInt64 * 149) 30).2.1) = sm) (hsb : -15000 ≤ sm.toInt ∧ sm.toInt ≤ 15000) (h12 : ¬ pg 12 ≤ 0) (hrd : -500 ≤ (pg 21).toInt ∧ (pg 21).toInt ≤ 500) (h21 : 0 ≤ pg 21) {H : Heap} {locs : List Loc} {ls : Array Slot} (hP : va_P G.1 vwCl (wB G d x []) H) (hD : va_D A (wB G d x [])) (hS : va_S A s.heap H locs) (hl : lv_has ls 9 [(5, .int (pg 21)), (3, .int (P_X4_offsetOf pg)), (4, .int (pg 9)), (6, .int (pg 11)), (7, .int sm), (1, .int x9), (0, .ref d.1)])  : W p l e rmL_scripts s m args below meth c H locs 9 54 (MQ below (qG G (fun x : XT => wB G d x []) (fun r x => r = 1 ∧ JNV x n tt pg hs k0 k1) A) args s 40 240 A) (F0 m 88 ls []) := by
  obtain ⟨hx, hb, hml, hown, hts, hr, hlocks, hK, hA⟩ := id cx
  refine lv_iload hx hb dL_scripts_88 (lv_at hl 0 rfl) ?_
  refine lv_sipush (v := (-9999)) hx hb dL_scripts_90 (by decide) ?_
  refine lv_icmp_ne (tgt := 110) hx hb dL_scripts_93 (by decide) (fun c9 => ?_) (fun c9 => absurd c9 (ne9 (by omega)))
  refine lv_aload_n hx hb dL_scripts_110 rfl (lv_at hl 6 rfl) ?_
  refine lv_iconst (v := 1) hx hb dL_scripts_111 (by decide) ?_
  refine lv_iload hx hb dL_scripts_112 (lv_at hl 0 rfl) ?_
  refine lv_if_ge (tgt := 123) hx hb dL_scripts_114 (by decide) (fun c9 => ?_) (fun c9 => absurd h21 c9)
  refine k_ldc2 (v := 80000) cx (by decide +kernel) dL_scripts_123 ?_
  refine lv_iload hx hb dL_scripts_126 (lv_at hl 0 rfl) ?_
  refine kc0 (n := 1) (As := [.int (pg 21)]) cx cl (c_L_size l hlt G b L xs (pg 21)) trivial hP hD hS gL_scripts_L_size rfl rfl rfl (by decide +kernel) ⟨Nat.le_of_ble_eq_true rfl, Nat.le_of_ble_eq_true rfl⟩ rfl rfl hl (Nat.le_of_ble_eq_true rfl) dL_scripts_128 ⟨Nat.le_of_ble_eq_true rfl, Nat.le_of_ble_eq_true rfl⟩ (fun r9 H locs h9 hP hD hS => ?_)
  rw [h9]
  refine lv_i2l hx hb dL_scripts_131 rfl ?_
  refine lv_ladd hx hb dL_scripts_132 ?_
  refine o_runScript hlt cx cl HQ J 1 (80000 + ((P_X4_size (pg 21))).toInt64) (r0 := (-9999)) (x_p h12 hrd.2 h21) hP hD hS gL_scripts_L_tryScript ⟨Nat.le_of_ble_eq_true rfl, Nat.le_of_ble_eq_true rfl⟩ hl (Nat.le_of_ble_eq_true rfl) dL_scripts_133 ⟨Nat.le_of_ble_eq_true rfl, Nat.le_of_ble_eq_true rfl⟩ (fun x H locs J hP hD hS => ?_)
  have J : JNV x n tt pg hs k0 k1 := J
  refine lv_sipush (v := (-9999)) hx hb dL_scripts_136 (by decide) ?_
  refine lv_icmp_ne (tgt := 275) hx hb dL_scripts_139 (by decide) (fun c9 => absurd (by decide) c9) (fun c9 => ?_)
  refine lv_aload_n hx hb dL_scripts_142 rfl (lv_at hl 6 rfl) ?_
  refine lv_iconst (v := 1) hx hb dL_scripts_143 (by decide) ?_
  refine lv_iload hx hb dL_scripts_144 (lv_at hl 0 rfl) ?_
  refine lv_if_ge (tgt := 155) hx hb dL_scripts_146 (by decide) (fun c9 => ?_) (fun c9 => absurd h21 c9)
  refine k_ldc2 (v := 80001) cx (by decide +kernel) dL_scripts_155 ?_
  refine lv_iload hx hb dL_scripts_158 (lv_at hl 0 rfl) ?_
  refine kc0 (n := 1) (As := [.int (pg 21)]) cx cl (c_L_size l hlt G b L xs (pg 21)) trivial hP hD hS gL_scripts_L_size rfl rfl rfl (by decide +kernel) ⟨Nat.le_of_ble_eq_true rfl, Nat.le_of_ble_eq_true rfl⟩ rfl rfl hl (Nat.le_of_ble_eq_true rfl) dL_scripts_160 ⟨Nat.le_of_ble_eq_true rfl, Nat.le_of_ble_eq_true rfl⟩ (fun r9 H locs h9 hP hD hS => ?_)
  rw [h9]
  refine lv_i2l hx hb dL_scripts_163 rfl ?_
  refine lv_ladd hx hb dL_scripts_164 ?_
  refine o_runScript hlt cx cl HQ J 1 (80001 + ((P_X4_size (pg 21))).toInt64) (r0 := 0) (x_p1 h12 hrd.2 h21) hP hD hS gL_scripts_L_tryScript ⟨Nat.le_of_ble_eq_true rfl, Nat.le_of_ble_eq_true rfl⟩ hl (Nat.le_of_ble_eq_true rfl) dL_scripts_165 ⟨Nat.le_of_ble_eq_true rfl, Nat.le_of_ble_eq_true rfl⟩ (fun x H locs J hP hD hS => ?_)
  have J : JNV x n tt pg hs k0 k1 := J
  refine lv_if_ne (tgt := 275) hx hb dL_scripts_168 (by decide) (fun c9 => absurd (by decide) c9) (fun c9 => ?_)
  refine W.widen (k := 11) (n := 66) (Nat.le_of_ble_eq_true rfl) (Nat.le_of_ble_eq_true rfl) ?_
  exact sc_3 hlt cx cl HQ J hsm hsb hP hD hS (lv_sub hl [1, 2, 3, 4, 5, 6] rfl)

set_option maxRecDepth 100000 in
set_option maxHeartbeats 4000000 in
theorem sc_2c (hlt : l.stackTraces = false) (cx : Cx p s m args meth c cL_scripts 9 RL wsL_scripts (some .boolean) G A) (cl : CL s A b L xs) {d : AD} (HQ : PQd d) {x : XT} {sm x9 : Int32} (J : JNV x n tt pg hs k0 k1)  (hsm : aQ 1 ((P_X4_simulate z0 pg z0 ((x9).toInt64 * 149) 30).1, (P_X4_simulate z0 pg z0 ((x9).toInt64 * 149) 30).2.1) = sm) (hsb : -15000 ≤ sm.toInt ∧ sm.toInt ≤ 15000) (h12 : ¬ pg 12 ≤ 0) (hrd : -500 ≤ (pg 21).toInt ∧ (pg 21).toInt ≤ 500) (h21 : ¬ 0 ≤ pg 21) {H : Heap} {locs : List Loc} {ls : Array Slot} (hP : va_P G.1 vwCl (wB G d x []) H) (hD : va_D A (wB G d x [])) (hS : va_S A s.heap H locs) (hl : lv_has ls 9 [(5, .int (pg 21)), (3, .int (P_X4_offsetOf pg)), (4, .int (pg 9)), (6, .int (pg 11)), (7, .int sm), (1, .int x9), (0, .ref d.1)])  : W p l e rmL_scripts s m args below meth c H locs 9 54 (MQ below (qG G (fun x : XT => wB G d x []) (fun r x => r = 1 ∧ JNV x n tt pg hs k0 k1) A) args s 40 240 A) (F0 m 88 ls []) := by
  obtain ⟨hx, hb, hml, hown, hts, hr, hlocks, hK, hA⟩ := id cx
  refine lv_iload hx hb dL_scripts_88 (lv_at hl 0 rfl) ?_
  refine lv_sipush (v := (-9999)) hx hb dL_scripts_90 (by decide) ?_
  refine lv_icmp_ne (tgt := 110) hx hb dL_scripts_93 (by decide) (fun c9 => ?_) (fun c9 => absurd c9 (ne9 (by omega)))
  refine lv_aload_n hx hb dL_scripts_110 rfl (lv_at hl 6 rfl) ?_
  refine lv_iconst (v := 1) hx hb dL_scripts_111 (by decide) ?_
  refine lv_iload hx hb dL_scripts_112 (lv_at hl 0 rfl) ?_
  refine lv_if_ge (tgt := 123) hx hb dL_scripts_114 (by decide) (fun c9 => absurd c9 h21) (fun c9 => ?_)
  refine k_ldc2 (v := 81000) cx (by decide +kernel) dL_scripts_117 ?_
  refine lv_goto (tgt := 126) hx hb dL_scripts_120 (by decide) ?_
  refine lv_iload hx hb dL_scripts_126 (lv_at hl 0 rfl) ?_
  refine kc0 (n := 1) (As := [.int (pg 21)]) cx cl (c_L_size l hlt G b L xs (pg 21)) trivial hP hD hS gL_scripts_L_size rfl rfl rfl (by decide +kernel) ⟨Nat.le_of_ble_eq_true rfl, Nat.le_of_ble_eq_true rfl⟩ rfl rfl hl (Nat.le_of_ble_eq_true rfl) dL_scripts_128 ⟨Nat.le_of_ble_eq_true rfl, Nat.le_of_ble_eq_true rfl⟩ (fun r9 H locs h9 hP hD hS => ?_)
  rw [h9]
  refine lv_i2l hx hb dL_scripts_131 rfl ?_
  refine lv_ladd hx hb dL_scripts_132 ?_
  refine o_runScript hlt cx cl HQ J 1 (81000 + ((P_X4_size (pg 21))).toInt64) (r0 := (-9999)) (x_m h12 hrd.1 h21) hP hD hS gL_scripts_L_tryScript ⟨Nat.le_of_ble_eq_true rfl, Nat.le_of_ble_eq_true rfl⟩ hl (Nat.le_of_ble_eq_true rfl) dL_scripts_133 ⟨Nat.le_of_ble_eq_true rfl, Nat.le_of_ble_eq_true rfl⟩ (fun x H locs J hP hD hS => ?_)
  have J : JNV x n tt pg hs k0 k1 := J
  refine lv_sipush (v := (-9999)) hx hb dL_scripts_136 (by decide) ?_
  refine lv_icmp_ne (tgt := 275) hx hb dL_scripts_139 (by decide) (fun c9 => absurd (by decide) c9) (fun c9 => ?_)
  refine lv_aload_n hx hb dL_scripts_142 rfl (lv_at hl 6 rfl) ?_
  refine lv_iconst (v := 1) hx hb dL_scripts_143 (by decide) ?_
  refine lv_iload hx hb dL_scripts_144 (lv_at hl 0 rfl) ?_
  refine lv_if_ge (tgt := 155) hx hb dL_scripts_146 (by decide) (fun c9 => absurd c9 h21) (fun c9 => ?_)
  refine k_ldc2 (v := 81001) cx (by decide +kernel) dL_scripts_149 ?_
  refine lv_goto (tgt := 158) hx hb dL_scripts_152 (by decide) ?_
  refine lv_iload hx hb dL_scripts_158 (lv_at hl 0 rfl) ?_
  refine kc0 (n := 1) (As := [.int (pg 21)]) cx cl (c_L_size l hlt G b L xs (pg 21)) trivial hP hD hS gL_scripts_L_size rfl rfl rfl (by decide +kernel) ⟨Nat.le_of_ble_eq_true rfl, Nat.le_of_ble_eq_true rfl⟩ rfl rfl hl (Nat.le_of_ble_eq_true rfl) dL_scripts_160 ⟨Nat.le_of_ble_eq_true rfl, Nat.le_of_ble_eq_true rfl⟩ (fun r9 H locs h9 hP hD hS => ?_)
  rw [h9]
  refine lv_i2l hx hb dL_scripts_163 rfl ?_
  refine lv_ladd hx hb dL_scripts_164 ?_
  refine o_runScript hlt cx cl HQ J 1 (81001 + ((P_X4_size (pg 21))).toInt64) (r0 := 0) (x_m1 h12 hrd.1 h21) hP hD hS gL_scripts_L_tryScript ⟨Nat.le_of_ble_eq_true rfl, Nat.le_of_ble_eq_true rfl⟩ hl (Nat.le_of_ble_eq_true rfl) dL_scripts_165 ⟨Nat.le_of_ble_eq_true rfl, Nat.le_of_ble_eq_true rfl⟩ (fun x H locs J hP hD hS => ?_)
  have J : JNV x n tt pg hs k0 k1 := J
  refine lv_if_ne (tgt := 275) hx hb dL_scripts_168 (by decide) (fun c9 => absurd (by decide) c9) (fun c9 => ?_)
  refine W.widen (k := 11) (n := 66) (Nat.le_of_ble_eq_true rfl) (Nat.le_of_ble_eq_true rfl) ?_
  exact sc_3 hlt cx cl HQ J hsm hsb hP hD hS (lv_sub hl [1, 2, 3, 4, 5, 6] rfl)

end WSC
set_option maxRecDepth 100000 in
set_option maxHeartbeats 4000000 in
theorem c_L_scripts (l : Launch) (hlt : l.stackTraces = false) (G : gG) (b L : Nat) (xs : Nat → Int32) (d : AD) (HQ : PQd d) (n : Int32) (tt pg : Pg) (hs : List Pg) (k0 k1 : Option Pg) (hrd : RDR pg) (x9 : Int32) : kG l G yL_scripts wsL_scripts rmL_scripts [.ref d.1, .int x9] b L xs (fun x : XT => wB G d x []) (fun x => JNV x n tt pg hs k0 k1) (fun r x => r = 1 ∧ JNV x n tt pg hs k0 k1) 40 240 := by
  refine k_bodyG (cc := cL_scripts) (nL := 9) (ret := some .boolean) (by decide) rfl (Nat.le_of_ble_eq_true rfl) ?_
  intro x hI
  intro p e s m args below meth c A cx cl H locs hP hD hS ls hl
  obtain ⟨hx, hb, hml, hown, hts, hr, hlocks, hK, hA⟩ := id cx
  have hl : lv_has ls 9 [(0, .ref d.1), (1, .int x9)] := hl
  have hP : va_P G.1 vwCl (wB G d x []) H := hP
  have hD : va_D A (wB G d x []) := hD
  have J : JNV x n tt pg hs k0 k1 := hI
  obtain ⟨sm, hsm, hsb⟩ := sm_r pg ((x9).toInt64 * 149)
  refine lv_aload_n hx hb dL_scripts_0 rfl (lv_at hl 0 rfl) ?_
  refine lv_iconst (v := 2) hx hb dL_scripts_1 (by decide) ?_
  refine o_about hlt cx cl HQ J 2 (r0 := (pg 2)) (ab_lo (j := 2) (by decide) (by decide) (by decide)) hP hD hS gL_scripts_L_tryAbout ⟨Nat.le_of_ble_eq_true rfl, Nat.le_of_ble_eq_true rfl⟩ hl (Nat.le_of_ble_eq_true rfl) dL_scripts_2 ⟨Nat.le_of_ble_eq_true rfl, Nat.le_of_ble_eq_true rfl⟩ (fun H locs hP hD hS => ?_)
  refine lv_istore_n (lv' := [(2, .int (pg 2)), (0, .ref d.1), (1, .int x9)]) hx hb dL_scripts_5 rfl hl (by decide) rfl (fun ls hl => ?_)
  refine lv_aload_n hx hb dL_scripts_6 rfl (lv_at hl 1 rfl) ?_
  refine lv_bipush (v := 8) hx hb dL_scripts_7 (by decide) ?_
  refine o_about hlt cx cl HQ J 8 (r0 := (P_X4_offsetOf pg)) ab_8 hP hD hS gL_scripts_L_tryAbout ⟨Nat.le_of_ble_eq_true rfl, Nat.le_of_ble_eq_true rfl⟩ hl (Nat.le_of_ble_eq_true rfl) dL_scripts_9 ⟨Nat.le_of_ble_eq_true rfl, Nat.le_of_ble_eq_true rfl⟩ (fun H locs hP hD hS => ?_)
  refine lv_istore_n (lv' := [(3, .int (P_X4_offsetOf pg)), (2, .int (pg 2)), (0, .ref d.1), (1, .int x9)]) hx hb dL_scripts_12 rfl hl (by decide) rfl (fun ls hl => ?_)
  refine lv_aload_n hx hb dL_scripts_13 rfl (lv_at hl 2 rfl) ?_
  refine lv_bipush (v := 10) hx hb dL_scripts_14 (by decide) ?_
  refine o_about hlt cx cl HQ J 10 (r0 := (pg 9)) (ab_hi (j := 9) (by decide) (by decide) (by decide) (by decide)) hP hD hS gL_scripts_L_tryAbout ⟨Nat.le_of_ble_eq_true rfl, Nat.le_of_ble_eq_true rfl⟩ hl (Nat.le_of_ble_eq_true rfl) dL_scripts_16 ⟨Nat.le_of_ble_eq_true rfl, Nat.le_of_ble_eq_true rfl⟩ (fun H locs hP hD hS => ?_)
  refine lv_istore (lv' := [(4, .int (pg 9)), (3, .int (P_X4_offsetOf pg)), (2, .int (pg 2)), (0, .ref d.1), (1, .int x9)]) hx hb dL_scripts_19 hl (by decide) rfl (fun ls hl => ?_)
  refine lv_aload_n hx hb dL_scripts_21 rfl (lv_at hl 3 rfl) ?_
  refine lv_iconst (v := 0) hx hb dL_scripts_22 (by decide) ?_
  refine lv_iconst (v := 0) hx hb dL_scripts_23 (by decide) ?_
  refine o_told hlt cx cl HQ J 0 0 (r0 := (if pg 12 ≤ 0 then (-9999) else (pg 21))) (td_0 (j := 21) (by decide) (by decide)) hP hD hS gL_scripts_L_tryTold ⟨Nat.le_of_ble_eq_true rfl, Nat.le_of_ble_eq_true rfl⟩ hl (Nat.le_of_ble_eq_true rfl) dL_scripts_24 ⟨Nat.le_of_ble_eq_true rfl, Nat.le_of_ble_eq_true rfl⟩ (fun H locs hP hD hS => ?_)
  refine lv_istore (lv' := [(5, .int (if pg 12 ≤ 0 then (-9999) else (pg 21))), (4, .int (pg 9)), (3, .int (P_X4_offsetOf pg)), (2, .int (pg 2)), (0, .ref d.1), (1, .int x9)]) hx hb dL_scripts_27 hl (by decide) rfl (fun ls hl => ?_)
  refine lv_aload_n hx hb dL_scripts_29 rfl (lv_at hl 4 rfl) ?_
  refine lv_bipush (v := 12) hx hb dL_scripts_30 (by decide) ?_
  refine o_about hlt cx cl HQ J 12 (r0 := (pg 11)) (ab_hi (j := 11) (by decide) (by decide) (by decide) (by decide)) hP hD hS gL_scripts_L_tryAbout ⟨Nat.le_of_ble_eq_true rfl, Nat.le_of_ble_eq_true rfl⟩ hl (Nat.le_of_ble_eq_true rfl) dL_scripts_32 ⟨Nat.le_of_ble_eq_true rfl, Nat.le_of_ble_eq_true rfl⟩ (fun H locs hP hD hS => ?_)
  refine lv_istore (lv' := [(6, .int (pg 11)), (5, .int (if pg 12 ≤ 0 then (-9999) else (pg 21))), (4, .int (pg 9)), (3, .int (P_X4_offsetOf pg)), (2, .int (pg 2)), (0, .ref d.1), (1, .int x9)]) hx hb dL_scripts_35 hl (by decide) rfl (fun ls hl => ?_)
  refine lv_aload_n hx hb dL_scripts_37 rfl (lv_at hl 5 rfl) ?_
  refine lv_iload_n hx hb dL_scripts_38 rfl (lv_at hl 6 rfl) ?_
  refine lv_i2l hx hb dL_scripts_39 rfl ?_
  refine k_ldc2 (v := 149) cx (by decide +kernel) dL_scripts_40 ?_
  refine lv_lmul hx hb dL_scripts_43 ?_
  refine lv_bipush (v := 30) hx hb dL_scripts_44 (by decide) ?_
  refine o_simulate hlt cx cl HQ J ((x9).toInt64 * 149) 30 (r0 := sm) hsm hP hD hS gL_scripts_L_trySimulate ⟨Nat.le_of_ble_eq_true rfl, Nat.le_of_ble_eq_true rfl⟩ hl (Nat.le_of_ble_eq_true rfl) dL_scripts_46 ⟨Nat.le_of_ble_eq_true rfl, Nat.le_of_ble_eq_true rfl⟩ (fun x H locs J hP hD hS => ?_)
  have J : JNV x n tt pg hs k0 k1 := J
  refine lv_istore (lv' := [(7, .int sm), (6, .int (pg 11)), (5, .int (if pg 12 ≤ 0 then (-9999) else (pg 21))), (4, .int (pg 9)), (3, .int (P_X4_offsetOf pg)), (2, .int (pg 2)), (0, .ref d.1), (1, .int x9)]) hx hb dL_scripts_49 hl (by decide) rfl (fun ls hl => ?_)
  refine lv_aload_n hx hb dL_scripts_51 rfl (lv_at hl 6 rfl) ?_
  refine lv_iconst (v := 1) hx hb dL_scripts_52 (by decide) ?_
  refine k_ldc2 (v := 70000) cx (by decide +kernel) dL_scripts_53 ?_
  refine lv_iload_n hx hb dL_scripts_56 rfl (lv_at hl 5 rfl) ?_
  refine lv_i2l hx hb dL_scripts_57 rfl ?_
  refine lv_ladd hx hb dL_scripts_58 ?_
  refine o_runScript hlt cx cl HQ J 1 (70000 + ((pg 2)).toInt64) (r0 := (-9999)) (x_box J.pv) hP hD hS gL_scripts_L_tryScript ⟨Nat.le_of_ble_eq_true rfl, Nat.le_of_ble_eq_true rfl⟩ hl (Nat.le_of_ble_eq_true rfl) dL_scripts_59 ⟨Nat.le_of_ble_eq_true rfl, Nat.le_of_ble_eq_true rfl⟩ (fun x H locs J hP hD hS => ?_)
  have J : JNV x n tt pg hs k0 k1 := J
  refine lv_sipush (v := (-9999)) hx hb dL_scripts_62 (by decide) ?_
  refine lv_icmp_ne (tgt := 275) hx hb dL_scripts_65 (by decide) (fun c9 => absurd (by decide) c9) (fun c9 => ?_)
  refine lv_aload_n hx hb dL_scripts_68 rfl (lv_at hl 6 rfl) ?_
  refine lv_iconst (v := 1) hx hb dL_scripts_69 (by decide) ?_
  refine k_ldc2 (v := 70000) cx (by decide +kernel) dL_scripts_70 ?_
  refine lv_iload_n hx hb dL_scripts_73 rfl (lv_at hl 5 rfl) ?_
  refine lv_iconst (v := 1) hx hb dL_scripts_74 (by decide) ?_
  refine lv_iadd hx hb dL_scripts_75 ?_
  refine lv_sipush (v := 10000) hx hb dL_scripts_76 (by decide) ?_
  refine lv_irem hx hb dL_scripts_79 (by decide) ?_
  refine lv_i2l hx hb dL_scripts_80 rfl ?_
  refine lv_ladd hx hb dL_scripts_81 ?_
  refine o_runScript hlt cx cl HQ J 1 (70000 + ((((pg 2) + 1) - ((pg 2) + 1) / 10000 * 10000)).toInt64) (r0 := 0) (x_box1 J.pv) hP hD hS gL_scripts_L_tryScript ⟨Nat.le_of_ble_eq_true rfl, Nat.le_of_ble_eq_true rfl⟩ hl (Nat.le_of_ble_eq_true rfl) dL_scripts_82 ⟨Nat.le_of_ble_eq_true rfl, Nat.le_of_ble_eq_true rfl⟩ (fun x H locs J hP hD hS => ?_)
  have J : JNV x n tt pg hs k0 k1 := J
  refine lv_if_ne (tgt := 275) hx hb dL_scripts_85 (by decide) (fun c9 => absurd (by decide) c9) (fun c9 => ?_)
  refine W.widen (k := 9) (n := 54) (Nat.le_of_ble_eq_true rfl) (Nat.le_of_ble_eq_true rfl) ?_
  have hl := lv_sub hl [2, 4, 3, 1, 0, 7, 6] (l' := [(5, .int (if pg 12 ≤ 0 then (-9999) else (pg 21))), (3, .int (P_X4_offsetOf pg)), (4, .int (pg 9)), (6, .int (pg 11)), (7, .int sm), (1, .int x9), (0, .ref d.1)]) rfl
  by_cases h12 : pg 12 ≤ 0
  · rw [if_pos h12] at hl
    exact sc_2a hlt cx cl HQ J hsm hsb h12 hP hD hS hl
  · rw [if_neg h12] at hl
    by_cases h21 : 0 ≤ pg 21
    · exact sc_2b hlt cx cl HQ J hsm hsb h12 (hrd h12) h21 hP hD hS hl
    · exact sc_2c hlt cx cl HQ J hsm hsb h12 (hrd h12) h21 hP hD hS hl
