/-! the law's methods -/
abbrev rmL_told : Room := { frames := 10, cells := 120, slots := 720, locals := 270 }
section WTD
variable {p : Program} {l : Launch} {e : Env} {s : State} {m : MethodId} {args : Array Value} {below : List Frame} {meth : Method} {c : Code} {Qp : State → Prop} {G : gG} {A : Nat → Prop} {b L : Nat} {xs : Nat → Int32}

set_option maxRecDepth 100000 in
set_option maxHeartbeats 16000000 in
theorem td_3 (hlt : l.stackTraces = false) (cx : Cx p s m args meth c cL_told 13 RL wsL_told (some .boolean) G A) (cl : CL s A b L xs) {d1 d2 : AD} (HQ1 : PQd d1) (HQ2 : PQd d2) {x1 x2 : XT} {n : Int32} {tt pg1 pg2 : Pg} {hs1 hs2 : List Pg} {a0 a1 b0 b1 : Option Pg} {l0 : List Int} {M : Nat} {many box bat st y : Int32} (J1 : JNV x1 n tt pg1 hs1 a0 a1) (J2 : JNV x2 n tt pg2 hs2 b0 b1)  (hM : 1 ≤ M ∧ M ≤ 6) (hmany : many = nI M) (hll : l0.length = 15 + 5 * M) (V : V15 l0 box bat st y) (K : TK n tt l0) {H : Heap} {locs : List Loc} {ls : Array Slot} (hP : va_P G.1 vwCl (wB G d1 x1 (wB G d2 x2 [])) H) (hD : va_D A (wB G d1 x1 (wB G d2 x2 []))) (hS : va_S A s.heap H locs) (hl : lv_has ls 13 [(10, .int 1), (6, .int many), (7, .int box), (8, .int bat), (9, .int st), (5, .int y), (0, .ref d1.1), (1, .ref d2.1)])  : W p l e rmL_told s m args below meth c H locs 90 540 (MQ below (qG G (fun x : XT × XT => wB G d1 x.1 (wB G d2 x.2 [])) (fun r x => r = 1 ∧ ∃ (n' : Int32) (tt' pg' : Pg), OKP pg' ∧ JNV x.1 n' tt' pg' [] none none ∧ JNV x.2 n' tt' pg' [] none none) A) args s 120 720 A) (F0 m 365 ls []) := by
  obtain ⟨hx, hb, hml, hown, hts, hr, hlocks, hK, hA⟩ := id cx
  refine lv_iload hx hb dL_told_365 (lv_at hl 0 rfl) ?_
  refine lv_if_eq (tgt := 525) hx hb dL_told_367 (by decide) (fun c9 => absurd c9 (by decide)) (fun c9 => ?_)
  refine lv_aload_n hx hb dL_told_370 rfl (lv_at hl 6 rfl) ?_
  refine o_load hlt cx cl HQ1 J1  (fe_ok K ⟨by omega, by omega⟩) hP hD hS gL_told_L_tryLoad ⟨Nat.le_of_ble_eq_true rfl, Nat.le_of_ble_eq_true rfl⟩ hl (Nat.le_of_ble_eq_true rfl) dL_told_371 ⟨Nat.le_of_ble_eq_true rfl, Nat.le_of_ble_eq_true rfl⟩ (fun pgp Kpgp x1 H locs npgp mpgp lpgp gpgp J1 hP hD hS => ?_)
  have J1 : JNV x1 n tt pgp ([]) none none := J1
  have e9 : pgp 9 = nI M := tl_9 gpgp (by have := tk_N K; omega) hM
  refine lv_iload hx hb dL_told_374 (lv_at hl 1 rfl) ?_
  refine lv_icmp_ne (tgt := 525) hx hb dL_told_376 (by decide) (fun c9 => absurd (by rw [e9, hmany]) c9) (fun c9 => ?_)
  refine lv_aload_n hx hb dL_told_379 rfl (lv_at hl 7 rfl) ?_
  replace hP := kP_perm (wB_swap G d1 d2 x1 x2 []) hP
  replace hD := kD_perm (wB_swap G d1 d2 x1 x2 []) hD
  refine o_load hlt cx cl HQ2 J2  (fe_ok K ⟨by omega, by omega⟩) hP hD hS gL_told_L_tryLoad ⟨Nat.le_of_ble_eq_true rfl, Nat.le_of_ble_eq_true rfl⟩ hl (Nat.le_of_ble_eq_true rfl) dL_told_380 ⟨Nat.le_of_ble_eq_true rfl, Nat.le_of_ble_eq_true rfl⟩ (fun pgq Kpgq x2 H locs npgq mpgq lpgq gpgq J2 hP hD hS => ?_)
  have J2 : JNV x2 n tt pgq ([]) none none := J2
  replace hP := kP_perm (wB_swap G d2 d1 x2 x1 []) hP
  replace hD := kD_perm (wB_swap G d2 d1 x2 x1 []) hD
  have e9q : pgq 9 = nI M := tl_9 gpgq (by have := tk_N K; omega) hM
  have eK : Kpgq = Kpgp := by omega
  rw [eK] at gpgq
  have J2 : JNV x2 n tt pgp [] none none := jnv_pg gpgp gpgq J2
  refine lv_iload hx hb dL_told_383 (lv_at hl 1 rfl) ?_
  refine lv_icmp_ne (tgt := 525) hx hb dL_told_385 (by decide) (fun c9 => absurd (by rw [e9q, hmany]) c9) (fun c9 => ?_)
  refine lv_aload_n hx hb dL_told_388 rfl (lv_at hl 6 rfl) ?_
  refine lv_iconst (v := 2) hx hb dL_told_389 (by decide) ?_
  refine o_about hlt cx cl HQ1 J1 2 (r0 := (pgp 2)) (ab_lo (j := 2) (by decide) (by decide) (by decide)) hP hD hS gL_told_L_tryAbout ⟨Nat.le_of_ble_eq_true rfl, Nat.le_of_ble_eq_true rfl⟩ hl (Nat.le_of_ble_eq_true rfl) dL_told_390 ⟨Nat.le_of_ble_eq_true rfl, Nat.le_of_ble_eq_true rfl⟩ (fun H locs hP hD hS => ?_)
  refine lv_iload hx hb dL_told_393 (lv_at hl 2 rfl) ?_
  refine lv_icmp_ne (tgt := 525) hx hb dL_told_395 (by decide) (fun c9 => absurd (tl_2 K V gpgp) c9) (fun c9 => ?_)
  refine lv_aload_n hx hb dL_told_398 rfl (lv_at hl 6 rfl) ?_
  refine lv_iconst (v := 3) hx hb dL_told_399 (by decide) ?_
  refine o_about hlt cx cl HQ1 J1 3 (r0 := (pgp 3)) (ab_lo (j := 3) (by decide) (by decide) (by decide)) hP hD hS gL_told_L_tryAbout ⟨Nat.le_of_ble_eq_true rfl, Nat.le_of_ble_eq_true rfl⟩ hl (Nat.le_of_ble_eq_true rfl) dL_told_400 ⟨Nat.le_of_ble_eq_true rfl, Nat.le_of_ble_eq_true rfl⟩ (fun H locs hP hD hS => ?_)
  refine lv_iload hx hb dL_told_403 (lv_at hl 3 rfl) ?_
  refine lv_icmp_ne (tgt := 525) hx hb dL_told_405 (by decide) (fun c9 => absurd (tl_3 K V gpgp) c9) (fun c9 => ?_)
  refine lv_aload_n hx hb dL_told_408 rfl (lv_at hl 6 rfl) ?_
  refine lv_iconst (v := 5) hx hb dL_told_409 (by decide) ?_
  refine o_about hlt cx cl HQ1 J1 5 (r0 := (pgp 5)) (ab_lo (j := 5) (by decide) (by decide) (by decide)) hP hD hS gL_told_L_tryAbout ⟨Nat.le_of_ble_eq_true rfl, Nat.le_of_ble_eq_true rfl⟩ hl (Nat.le_of_ble_eq_true rfl) dL_told_410 ⟨Nat.le_of_ble_eq_true rfl, Nat.le_of_ble_eq_true rfl⟩ (fun H locs hP hD hS => ?_)
  refine lv_iload hx hb dL_told_413 (lv_at hl 5 rfl) ?_
  refine lv_iconst (v := 2) hx hb dL_told_415 (by decide) ?_
  refine lv_irem hx hb dL_told_416 (by decide) ?_
  have hj428 : W p l e rmL_told s m args below meth c H locs 95 570 (MQ below (qG G (fun x : XT × XT => wB G d1 x.1 (wB G d2 x.2 [])) (fun r x => r = 1 ∧ ∃ (n' : Int32) (tt' pg' : Pg), OKP pg' ∧ JNV x.1 n' tt' pg' [] none none ∧ JNV x.2 n' tt' pg' [] none none) A) args s 120 720 A) (F0 m 428 ls [.int (pgp 5), .int (pgp 5)]) := by
    refine lv_icmp_ne (tgt := 525) hx hb dL_told_428 (by decide) (fun c9 => absurd rfl c9) (fun c9 => ?_)
    refine lv_aload_n hx hb dL_told_431 rfl (lv_at hl 6 rfl) ?_
    refine lv_bipush (v := 7) hx hb dL_told_432 (by decide) ?_
    refine o_about hlt cx cl HQ1 J1 7 (r0 := (pgp 7)) (ab_lo (j := 7) (by decide) (by decide) (by decide)) hP hD hS gL_told_L_tryAbout ⟨Nat.le_of_ble_eq_true rfl, Nat.le_of_ble_eq_true rfl⟩ hl (Nat.le_of_ble_eq_true rfl) dL_told_434 ⟨Nat.le_of_ble_eq_true rfl, Nat.le_of_ble_eq_true rfl⟩ (fun H locs hP hD hS => ?_)
    refine lv_if_ne (tgt := 525) hx hb dL_told_437 (by decide) (fun c9 => absurd gpgp.2.2.2.1 c9) (fun c9 => ?_)
    refine lv_aload_n hx hb dL_told_440 rfl (lv_at hl 6 rfl) ?_
    refine lv_bipush (v := 10) hx hb dL_told_441 (by decide) ?_
    refine o_about hlt cx cl HQ1 J1 10 (r0 := (pgp 9)) (ab_hi (j := 9) (by decide) (by decide) (by decide) (by decide)) hP hD hS gL_told_L_tryAbout ⟨Nat.le_of_ble_eq_true rfl, Nat.le_of_ble_eq_true rfl⟩ hl (Nat.le_of_ble_eq_true rfl) dL_told_443 ⟨Nat.le_of_ble_eq_true rfl, Nat.le_of_ble_eq_true rfl⟩ (fun H locs hP hD hS => ?_)
    refine lv_iload hx hb dL_told_446 (lv_at hl 1 rfl) ?_
    refine lv_icmp_ne (tgt := 525) hx hb dL_told_448 (by decide) (fun c9 => absurd (by rw [e9, hmany]) c9) (fun c9 => ?_)
    refine lv_aload_n hx hb dL_told_451 rfl (lv_at hl 6 rfl) ?_
    refine lv_bipush (v := 11) hx hb dL_told_452 (by decide) ?_
    refine o_about hlt cx cl HQ1 J1 11 (r0 := (pgp 10)) (ab_hi (j := 10) (by decide) (by decide) (by decide) (by decide)) hP hD hS gL_told_L_tryAbout ⟨Nat.le_of_ble_eq_true rfl, Nat.le_of_ble_eq_true rfl⟩ hl (Nat.le_of_ble_eq_true rfl) dL_told_454 ⟨Nat.le_of_ble_eq_true rfl, Nat.le_of_ble_eq_true rfl⟩ (fun H locs hP hD hS => ?_)
    refine lv_if_ne (tgt := 525) hx hb dL_told_457 (by decide) (fun c9 => absurd gpgp.2.2.2.2.2.1 c9) (fun c9 => ?_)
    refine lv_aload_n hx hb dL_told_460 rfl (lv_at hl 6 rfl) ?_
    refine lv_bipush (v := 13) hx hb dL_told_461 (by decide) ?_
    refine o_about hlt cx cl HQ1 J1 13 (r0 := (pgp 12)) (ab_hi (j := 12) (by decide) (by decide) (by decide) (by decide)) hP hD hS gL_told_L_tryAbout ⟨Nat.le_of_ble_eq_true rfl, Nat.le_of_ble_eq_true rfl⟩ hl (Nat.le_of_ble_eq_true rfl) dL_told_463 ⟨Nat.le_of_ble_eq_true rfl, Nat.le_of_ble_eq_true rfl⟩ (fun H locs hP hD hS => ?_)
    refine lv_if_ne (tgt := 525) hx hb dL_told_466 (by decide) (fun c9 => absurd gpgp.2.2.2.2.2.2.2.1 c9) (fun c9 => ?_)
    refine lv_aload_n hx hb dL_told_469 rfl (lv_at hl 6 rfl) ?_
    refine n_undo hlt cx cl HQ1 J1  rfl hP hD hS gL_told_L_tryUndo ⟨Nat.le_of_ble_eq_true rfl, Nat.le_of_ble_eq_true rfl⟩ hl (Nat.le_of_ble_eq_true rfl) dL_told_470 ⟨Nat.le_of_ble_eq_true rfl, Nat.le_of_ble_eq_true rfl⟩ (fun H locs hP hD hS => ?_)
    refine k_ldc (v := (-999900003)) cx (by decide +kernel) dL_told_473 ?_
    refine lv_icmp_ne (tgt := 525) hx hb dL_told_475 (by decide) (fun c9 => absurd (by decide) c9) (fun c9 => ?_)
    refine lv_aload_n hx hb dL_told_478 rfl (lv_at hl 7 rfl) ?_
    refine lv_iconst (v := 1) hx hb dL_told_479 (by decide) ?_
    replace hP := kP_perm (wB_swap G d1 d2 x1 x2 []) hP
    replace hD := kD_perm (wB_swap G d1 d2 x1 x2 []) hD
    refine m_restore hlt cx cl HQ2 J2  rfl hP hD hS gL_told_L_tryRestore ⟨Nat.le_of_ble_eq_true rfl, Nat.le_of_ble_eq_true rfl⟩ hl (Nat.le_of_ble_eq_true rfl) dL_told_480 ⟨Nat.le_of_ble_eq_true rfl, Nat.le_of_ble_eq_true rfl⟩ (fun H locs hP hD hS => ?_)
    replace hP := kP_perm (wB_swap G d2 d1 x2 x1 []) hP
    replace hD := kD_perm (wB_swap G d2 d1 x2 x1 []) hD
    refine k_ldc (v := (-999900003)) cx (by decide +kernel) dL_told_483 ?_
    refine lv_icmp_ne (tgt := 525) hx hb dL_told_485 (by decide) (fun c9 => absurd (by decide) c9) (fun c9 => ?_)
    refine lv_aload_n hx hb dL_told_488 rfl (lv_at hl 6 rfl) ?_
    refine lv_aload_n hx hb dL_told_489 rfl (lv_at hl 7 rfl) ?_
    refine lv_bipush (v := 121) hx hb dL_told_490 (by decide) ?_
    refine kc2 (n := 3) (As := [.ref d1.1, .ref d2.1, .int 121]) cx cl (c_L_put l hlt G b L xs d1 d2 HQ1 HQ2 n tt pgp pgp ([]) ([]) none none none none 121 (by decide) (by have := tk_n K; omega)) ⟨J1, J2⟩ hP hD hS gL_told_L_put rfl rfl rfl (by decide +kernel) ⟨Nat.le_of_ble_eq_true rfl, Nat.le_of_ble_eq_true rfl⟩ rfl rfl hl (Nat.le_of_ble_eq_true rfl) dL_told_492 ⟨Nat.le_of_ble_eq_true rfl, Nat.le_of_ble_eq_true rfl⟩ (fun r9 x1 x2 H locs h9 hP hD hS => ?_)
    obtain ⟨h9, J1, J2⟩ : r9 = 1 ∧ JNV x1 (n + 1) (upd tt n.toNatClampNeg 121) pgp ([]) none none ∧ JNV x2 (n + 1) (upd tt n.toNatClampNeg 121) pgp ([]) none none := h9
    rw [h9]
    refine lv_if_eq (tgt := 525) hx hb dL_told_495 (by decide) (fun c9 => absurd c9 (by decide)) (fun c9 => ?_)
    refine lv_aload_n hx hb dL_told_498 rfl (lv_at hl 6 rfl) ?_
    refine o_errorPosition hlt cx cl HQ1 J1  (r0 := (nI (15 + 5 * M))) (by rw [nI_toInt (by omega)]; exact bd_1 (tk_n K) hll hM.2 K) hP hD hS gL_told_X3_errorPosition ⟨Nat.le_of_ble_eq_true rfl, Nat.le_of_ble_eq_true rfl⟩ hl (Nat.le_of_ble_eq_true rfl) dL_told_499 ⟨Nat.le_of_ble_eq_true rfl, Nat.le_of_ble_eq_true rfl⟩ (fun H locs hP hD hS => ?_)
    refine lv_bipush (v := 15) hx hb dL_told_502 (by decide) ?_
    refine lv_iconst (v := 5) hx hb dL_told_504 (by decide) ?_
    refine lv_iload hx hb dL_told_505 (lv_at hl 1 rfl) ?_
    refine lv_imul hx hb dL_told_507 ?_
    refine lv_iadd hx hb dL_told_508 ?_
    refine lv_icmp_ne (tgt := 525) hx hb dL_told_509 (by decide) (fun c9 => absurd (tl_e hmany hM) c9) (fun c9 => ?_)
    refine lv_aload_n hx hb dL_told_512 rfl (lv_at hl 6 rfl) ?_
    refine n_load hlt cx cl HQ1 J1  (r := ((15 + 5 * M : Nat) : Int)) (bd_1 (tk_n K) hll hM.2 K) (by omega) hP hD hS gL_told_L_tryLoad ⟨Nat.le_of_ble_eq_true rfl, Nat.le_of_ble_eq_true rfl⟩ hl (Nat.le_of_ble_eq_true rfl) dL_told_513 ⟨Nat.le_of_ble_eq_true rfl, Nat.le_of_ble_eq_true rfl⟩ (fun H locs hP hD hS => ?_)
    refine k_ldc (v := (-999900003)) cx (by decide +kernel) dL_told_516 ?_
    refine lv_icmp_ne (tgt := 525) hx hb dL_told_518 (by decide) (fun c9 => absurd (by decide) c9) (fun c9 => ?_)
    refine lv_iconst (v := 1) hx hb dL_told_521 (by decide) ?_
    refine lv_goto (tgt := 526) hx hb dL_told_522 (by decide) ?_
    exact k_retG (u := (x1, x2)) cx (nz (Or.inr rfl)) ⟨rfl, _, _, _, tl_ok K V gpgp, J1, J2⟩ hP hS ⟨Nat.le_of_ble_eq_true rfl, Nat.le_of_ble_eq_true rfl⟩ dL_told_526
  refine lv_if_ne (tgt := 425) hx hb dL_told_417 (by decide) (fun c417 => ?_) (fun c417 => ?_)
  · refine lv_iload hx hb dL_told_425 (lv_at hl 4 rfl) ?_
    refine lv_ineg hx hb dL_told_427 ?_
    exact k_top (v' := (pgp 5)) (tl_5n K V gpgp c417) hj428
  · refine lv_iload hx hb dL_told_420 (lv_at hl 4 rfl) ?_
    refine lv_goto (tgt := 428) hx hb dL_told_422 (by decide) ?_
    exact k_top (v' := (pgp 5)) (tl_5p K V gpgp c417) hj428

set_option maxRecDepth 100000 in
set_option maxHeartbeats 16000000 in
theorem td_2 (hlt : l.stackTraces = false) (cx : Cx p s m args meth c cL_told 13 RL wsL_told (some .boolean) G A) (cl : CL s A b L xs) (hL : L ≤ 260) {d1 d2 : AD} (HQ1 : PQd d1) (HQ2 : PQd d2) {pg1 pg2 : Pg} {hs1 hs2 : List Pg} {a0 a1 b0 b1 : Option Pg} {M : Nat} {many box bat st y ax : Int32} (hM : 1 ≤ M ∧ M ≤ 6) (hmany : many = nI M) (hax : 0 ≤ ax.toInt ∧ ax.toInt ≤ 1000) : ∀ (f i : Nat), i + f = M → ∀ {x1 x2 : XT} {n : Int32} {tt : Pg} {l0 : List Int} {z12 : Value} {H : Heap} {locs : List Loc} {ls : Array Slot} (J1 : JNV x1 n tt pg1 hs1 a0 a1) (J2 : JNV x2 n tt pg2 hs2 b0 b1) (K : TK n tt l0) (hll : l0.length = 15 + 5 * i) (V : V15 l0 box bat st y) (hP : va_P G.1 vwCl (wB G d1 x1 (wB G d2 x2 [])) H) (hD : va_D A (wB G d1 x1 (wB G d2 x2 []))) (hS : va_S A s.heap H locs) (hl : lv_has ls 13 [(11, .int (nI i)), (10, .int 1), (6, .int many), (7, .int box), (8, .int bat), (9, .int st), (5, .int y), (0, .ref d1.1), (1, .ref d2.1), (2, .ref b), (3, .int ax)]), W p l e rmL_told s m args below meth c H locs (30 + 10 * i) (180 + 60 * i) (MQ below (qG G (fun x : XT × XT => wB G d1 x.1 (wB G d2 x.2 [])) (fun r x => r = 1 ∧ ∃ (n' : Int32) (tt' pg' : Pg), OKP pg' ∧ JNV x.1 n' tt' pg' [] none none ∧ JNV x.2 n' tt' pg' [] none none) A) args s 120 720 A) (F0 m 262 ls []) := by
  obtain ⟨hx, hb, hml, hown, hts, hr, hlocks, hK, hA⟩ := id cx
  have emany : many.toInt = M := by rw [hmany, nI_toInt (by omega)]
  intro f
  induction f with
  | zero =>
    intro i hi x1 x2 n tt l0 z12 H locs ls J1 J2 K hll V hP hD hS hl
    have ei : i = M := by omega
    subst ei
    refine lv_iload hx hb dL_told_262 (lv_at hl 0 rfl) ?_
    refine lv_iload hx hb dL_told_264 (lv_at hl 2 rfl) ?_
    refine lv_icmp_ge (tgt := 365) hx hb dL_told_266 (by decide) (fun c9 => ?_) (fun c9 => absurd (by rw [hmany]; exact Int32.le_refl _) c9)
    refine W.widen (k := 90) (n := 540) (by omega) (by omega) ?_
    exact td_3 hlt cx cl HQ1 HQ2 J1 J2 hM hmany hll V K hP hD hS (lv_sub hl [1, 2, 3, 4, 5, 6, 7, 8] rfl)
  | succ f ih =>
    intro i hi x1 x2 n tt l0 z12 H locs ls J1 J2 K hll V hP hD hS hl
    refine lv_iload hx hb dL_told_262 (lv_at hl 0 rfl) ?_
    refine lv_iload hx hb dL_told_264 (lv_at hl 2 rfl) ?_
    refine lv_icmp_ge (tgt := 365) hx hb dL_told_266 (by decide) (fun c9 => absurd c9 (by rw [hmany]; exact nI_ge (by omega) (by omega))) (fun c9 => ?_)
    refine lv_iload hx hb dL_told_269 (lv_at hl 1 rfl) ?_
    refine lv_if_eq (tgt := 365) hx hb dL_told_271 (by decide) (fun c9 => absurd c9 (by decide)) (fun c9 => ?_)
    refine lv_aload_n hx hb dL_told_274 rfl (lv_at hl 9 rfl) ?_
    refine lv_iload_n hx hb dL_told_275 rfl (lv_at hl 10 rfl) ?_
    refine lv_iconst (v := 2) hx hb dL_told_276 (by decide) ?_
    refine lv_iadd hx hb dL_told_277 ?_
    refine lv_iload hx hb dL_told_278 (lv_at hl 0 rfl) ?_
    refine lv_iadd hx hb dL_told_280 ?_
    refine kc0 (n := 2) (As := [.ref b, .int ((ax + 2) + (nI i))]) cx cl (c_L_number l G b L xs hL ((ax + 2) + (nI i)) (ax_i hax (by omega))) trivial hP hD hS gL_told_L_number rfl rfl rfl (by decide +kernel) ⟨Nat.le_of_ble_eq_true rfl, Nat.le_of_ble_eq_true rfl⟩ rfl rfl hl (Nat.le_of_ble_eq_true rfl) dL_told_281 ⟨Nat.le_trans (m := 120) (by omega) (Nat.le_refl _), Nat.le_trans (m := 720) (by omega) (Nat.le_refl _)⟩ (fun r1 H locs hr1 hP hD hS => ?_)
    have hr1 : 0 ≤ r1.toInt := hr1
    refine lv_sipush (v := 9999) hx hb dL_told_284 (by decide) ?_
    refine lv_irem hx hb dL_told_287 (by decide) ?_
    refine lv_iconst (v := 1) hx hb dL_told_288 (by decide) ?_
    refine lv_iadd hx hb dL_told_289 ?_
    refine lv_istore (lv' := [(12, .int ((r1 - r1 / 9999 * 9999) + 1)), (11, .int (nI i)), (10, .int 1), (6, .int many), (7, .int box), (8, .int bat), (9, .int st), (5, .int y), (0, .ref d1.1), (1, .ref d2.1), (2, .ref b), (3, .int ax)]) hx hb dL_told_290 hl (by decide) rfl (fun ls hl => ?_)
    have hz := z_b hr1
    have hZ1 := dvi (x := ((r1 - r1 / 9999 * 9999) + 1)) (k := 100) (K := 100) (by omega) (by decide) (by decide)
    have hZ2 := mdi (x := ((r1 - r1 / 9999 * 9999) + 1)) (k := 100) (K := 100) (by omega) (by decide) (by decide)
    obtain ⟨Z, hZ⟩ : ∃ Z, ((r1 - r1 / 9999 * 9999) + 1).toInt = Z := ⟨_, rfl⟩
    rw [hZ] at hz hZ1 hZ2
    refine lv_aload_n hx hb dL_told_292 rfl (lv_at hl 8 rfl) ?_
    refine lv_aload_n hx hb dL_told_293 rfl (lv_at hl 9 rfl) ?_
    refine lv_bipush (v := 120) hx hb dL_told_294 (by decide) ?_
    refine kc2 (n := 3) (As := [.ref d1.1, .ref d2.1, .int 120]) cx cl (c_L_put l hlt G b L xs d1 d2 HQ1 HQ2 n tt pg1 pg2 hs1 hs2 a0 a1 b0 b1 120 (by decide) (by have := tk_n K; omega)) ⟨J1, J2⟩ hP hD hS gL_told_L_put rfl rfl rfl (by decide +kernel) ⟨Nat.le_of_ble_eq_true rfl, Nat.le_of_ble_eq_true rfl⟩ rfl rfl hl (Nat.le_of_ble_eq_true rfl) dL_told_296 ⟨Nat.le_trans (m := 120) (by omega) (Nat.le_refl _), Nat.le_trans (m := 720) (by omega) (Nat.le_refl _)⟩ (fun r9 x1 x2 H locs h9 hP hD hS => ?_)
    obtain ⟨h9, J1, J2⟩ : r9 = 1 ∧ JNV x1 (n + 1) (upd tt n.toNatClampNeg 120) pg1 hs1 a0 a1 ∧ JNV x2 (n + 1) (upd tt n.toNatClampNeg 120) pg2 hs2 b0 b1 := h9
    rw [h9]
    have K1 := tk_ap K (ch := 120) (c := 120) (by decide) (by omega) (ok_120 hll (by omega))
    generalize (upd tt n.toNatClampNeg 120) = t1 at J1 J2 K1
    generalize (n + 1) = n1 at J1 J2 K1
    refine lv_if_eq (tgt := 356) hx hb dL_told_299 (by decide) (fun c9 => absurd c9 (by decide)) (fun c9 => ?_)
    refine lv_aload_n hx hb dL_told_302 rfl (lv_at hl 8 rfl) ?_
    refine o_errorPosition hlt cx cl HQ1 J1  (r0 := (nI (16 + 5 * i))) (by rw [nI_toInt (by omega)]; exact fe_in K1 (by rw [List.length_append, hll]; simp; omega) (by rw [List.length_append, hll]; simp; omega)) hP hD hS gL_told_X3_errorPosition ⟨Nat.le_of_ble_eq_true rfl, Nat.le_of_ble_eq_true rfl⟩ hl (Nat.le_of_ble_eq_true rfl) dL_told_303 ⟨Nat.le_trans (m := 120) (by omega) (Nat.le_refl _), Nat.le_trans (m := 720) (by omega) (Nat.le_refl _)⟩ (fun H locs hP hD hS => ?_)
    refine lv_bipush (v := 16) hx hb dL_told_306 (by decide) ?_
    refine lv_iconst (v := 5) hx hb dL_told_308 (by decide) ?_
    refine lv_iload hx hb dL_told_309 (lv_at hl 1 rfl) ?_
    refine lv_imul hx hb dL_told_311 ?_
    refine lv_iadd hx hb dL_told_312 ?_
    refine lv_icmp_ne (tgt := 356) hx hb dL_told_313 (by decide) (fun c9 => absurd (tw_e (i := i) (by omega)) c9) (fun c9 => ?_)
    refine lv_aload_n hx hb dL_told_316 rfl (lv_at hl 8 rfl) ?_
    refine lv_aload_n hx hb dL_told_317 rfl (lv_at hl 9 rfl) ?_
    refine lv_iload hx hb dL_told_318 (lv_at hl 0 rfl) ?_
    refine lv_bipush (v := 100) hx hb dL_told_320 (by decide) ?_
    refine lv_idiv hx hb dL_told_322 (by decide) ?_
    refine kc2 (n := 3) (As := [.ref d1.1, .ref d2.1, .int (((r1 - r1 / 9999 * 9999) + 1) / 100)]) cx cl (c_L_two l hlt G b L xs d1 d2 HQ1 HQ2 n1 t1 pg1 pg2 hs1 hs2 a0 a1 b0 b1 (((r1 - r1 / 9999 * 9999) + 1) / 100) ⟨by rw [hZ1]; omega, by rw [hZ1]; omega⟩ (by have := tk_n K1; rw [List.length_append, hll] at this; simp at this; omega)) ⟨J1, J2⟩ hP hD hS gL_told_L_two rfl rfl rfl (by decide +kernel) ⟨Nat.le_of_ble_eq_true rfl, Nat.le_of_ble_eq_true rfl⟩ rfl rfl hl (Nat.le_of_ble_eq_true rfl) dL_told_323 ⟨Nat.le_trans (m := 120) (by omega) (Nat.le_refl _), Nat.le_trans (m := 720) (by omega) (Nat.le_refl _)⟩ (fun r9 x1 x2 H locs h9 hP hD hS => ?_)
    obtain ⟨h9, J1, J2⟩ : r9 = 1 ∧ JNV x1 ((n1 + 1) + 1) (upd (upd t1 n1.toNatClampNeg (48 + (((r1 - r1 / 9999 * 9999) + 1) / 100) / 10)) (n1 + 1).toNatClampNeg (48 + ((((r1 - r1 / 9999 * 9999) + 1) / 100) - (((r1 - r1 / 9999 * 9999) + 1) / 100) / 10 * 10))) pg1 hs1 a0 a1 ∧ JNV x2 ((n1 + 1) + 1) (upd (upd t1 n1.toNatClampNeg (48 + (((r1 - r1 / 9999 * 9999) + 1) / 100) / 10)) (n1 + 1).toNatClampNeg (48 + ((((r1 - r1 / 9999 * 9999) + 1) / 100) - (((r1 - r1 / 9999 * 9999) + 1) / 100) / 10 * 10))) pg2 hs2 b0 b1 := h9
    rw [h9]
    have K2 := tk_two K1 hZ1 (by omega) (by rw [List.length_append, hll]; simp; omega) (tw_a hll (by omega) (by omega)) (tw_b hll (by omega) (by omega))
    have L2 : (l0 ++ [120] ++ [48 + Z / 100 / 10] ++ [48 + Z / 100 % 10]).length = 15 + 5 * i + 3 := by simp [hll]
    generalize (upd (upd t1 n1.toNatClampNeg (48 + (((r1 - r1 / 9999 * 9999) + 1) / 100) / 10)) (n1 + 1).toNatClampNeg (48 + ((((r1 - r1 / 9999 * 9999) + 1) / 100) - (((r1 - r1 / 9999 * 9999) + 1) / 100) / 10 * 10))) = t2 at J1 J2 K2
    generalize ((n1 + 1) + 1) = n2 at J1 J2 K2
    refine lv_if_eq (tgt := 356) hx hb dL_told_326 (by decide) (fun c9 => absurd c9 (by decide)) (fun c9 => ?_)
    refine lv_aload_n hx hb dL_told_329 rfl (lv_at hl 8 rfl) ?_
    refine lv_aload_n hx hb dL_told_330 rfl (lv_at hl 9 rfl) ?_
    refine lv_iload hx hb dL_told_331 (lv_at hl 0 rfl) ?_
    refine lv_bipush (v := 100) hx hb dL_told_333 (by decide) ?_
    refine lv_irem hx hb dL_told_335 (by decide) ?_
    refine kc2 (n := 3) (As := [.ref d1.1, .ref d2.1, .int (((r1 - r1 / 9999 * 9999) + 1) - ((r1 - r1 / 9999 * 9999) + 1) / 100 * 100)]) cx cl (c_L_two l hlt G b L xs d1 d2 HQ1 HQ2 n2 t2 pg1 pg2 hs1 hs2 a0 a1 b0 b1 (((r1 - r1 / 9999 * 9999) + 1) - ((r1 - r1 / 9999 * 9999) + 1) / 100 * 100) ⟨by rw [hZ2]; omega, by rw [hZ2]; omega⟩ (by have := tk_n K2; omega)) ⟨J1, J2⟩ hP hD hS gL_told_L_two rfl rfl rfl (by decide +kernel) ⟨Nat.le_of_ble_eq_true rfl, Nat.le_of_ble_eq_true rfl⟩ rfl rfl hl (Nat.le_of_ble_eq_true rfl) dL_told_336 ⟨Nat.le_trans (m := 120) (by omega) (Nat.le_refl _), Nat.le_trans (m := 720) (by omega) (Nat.le_refl _)⟩ (fun r9 x1 x2 H locs h9 hP hD hS => ?_)
    obtain ⟨h9, J1, J2⟩ : r9 = 1 ∧ JNV x1 ((n2 + 1) + 1) (upd (upd t2 n2.toNatClampNeg (48 + (((r1 - r1 / 9999 * 9999) + 1) - ((r1 - r1 / 9999 * 9999) + 1) / 100 * 100) / 10)) (n2 + 1).toNatClampNeg (48 + ((((r1 - r1 / 9999 * 9999) + 1) - ((r1 - r1 / 9999 * 9999) + 1) / 100 * 100) - (((r1 - r1 / 9999 * 9999) + 1) - ((r1 - r1 / 9999 * 9999) + 1) / 100 * 100) / 10 * 10))) pg1 hs1 a0 a1 ∧ JNV x2 ((n2 + 1) + 1) (upd (upd t2 n2.toNatClampNeg (48 + (((r1 - r1 / 9999 * 9999) + 1) - ((r1 - r1 / 9999 * 9999) + 1) / 100 * 100) / 10)) (n2 + 1).toNatClampNeg (48 + ((((r1 - r1 / 9999 * 9999) + 1) - ((r1 - r1 / 9999 * 9999) + 1) / 100 * 100) - (((r1 - r1 / 9999 * 9999) + 1) - ((r1 - r1 / 9999 * 9999) + 1) / 100 * 100) / 10 * 10))) pg2 hs2 b0 b1 := h9
    rw [h9]
    have K3 := tk_two K2 hZ2 (by omega) (by omega) (ok_dg (by omega) (by omega) (by omega) (by omega)) (tw_c hll (by omega) (by omega))
    have L3 : (l0 ++ [120] ++ [48 + Z / 100 / 10] ++ [48 + Z / 100 % 10] ++ [48 + Z % 100 / 10] ++ [48 + Z % 100 % 10]).length = 15 + 5 * (i + 1) := by simp [hll]; omega
    generalize (upd (upd t2 n2.toNatClampNeg (48 + (((r1 - r1 / 9999 * 9999) + 1) - ((r1 - r1 / 9999 * 9999) + 1) / 100 * 100) / 10)) (n2 + 1).toNatClampNeg (48 + ((((r1 - r1 / 9999 * 9999) + 1) - ((r1 - r1 / 9999 * 9999) + 1) / 100 * 100) - (((r1 - r1 / 9999 * 9999) + 1) - ((r1 - r1 / 9999 * 9999) + 1) / 100 * 100) / 10 * 10))) = t3 at J1 J2 K3
    generalize ((n2 + 1) + 1) = n3 at J1 J2 K3
    refine lv_if_eq (tgt := 356) hx hb dL_told_339 (by decide) (fun c9 => absurd c9 (by decide)) (fun c9 => ?_)
    refine lv_aload_n hx hb dL_told_342 rfl (lv_at hl 8 rfl) ?_
    refine o_errorPosition hlt cx cl HQ1 J1  (r0 := (-9999)) (fe_ok K3 ⟨by omega, by omega⟩) hP hD hS gL_told_X3_errorPosition ⟨Nat.le_of_ble_eq_true rfl, Nat.le_of_ble_eq_true rfl⟩ hl (Nat.le_of_ble_eq_true rfl) dL_told_343 ⟨Nat.le_trans (m := 120) (by omega) (Nat.le_refl _), Nat.le_trans (m := 720) (by omega) (Nat.le_refl _)⟩ (fun H locs hP hD hS => ?_)
    refine lv_sipush (v := (-9999)) hx hb dL_told_346 (by decide) ?_
    refine lv_icmp_ne (tgt := 356) hx hb dL_told_349 (by decide) (fun c9 => absurd (by decide) c9) (fun c9 => ?_)
    refine lv_iconst (v := 1) hx hb dL_told_352 (by decide) ?_
    refine lv_goto (tgt := 357) hx hb dL_told_353 (by decide) ?_
    refine lv_istore (lv' := [(10, .int 1), (12, .int ((r1 - r1 / 9999 * 9999) + 1)), (11, .int (nI i)), (6, .int many), (7, .int box), (8, .int bat), (9, .int st), (5, .int y), (0, .ref d1.1), (1, .ref d2.1), (2, .ref b), (3, .int ax)]) hx hb dL_told_357 hl (by decide) rfl (fun ls hl => ?_)
    refine lv_iinc (v := (nI (i + 1))) (lv' := [(11, .int (nI (i + 1))), (10, .int 1), (12, .int ((r1 - r1 / 9999 * 9999) + 1)), (6, .int many), (7, .int box), (8, .int bat), (9, .int st), (5, .int y), (0, .ref d1.1), (1, .ref d2.1), (2, .ref b), (3, .int ax)]) hx hb dL_told_359 hl (k := 2) rfl (nI_1 i) (by decide) rfl (fun ls hl => ?_)
    refine lv_goto (tgt := 262) hx hb dL_told_362 (by decide) ?_
    refine W.eqcs (k := 30 + 10 * (i + 1)) (n := 180 + 60 * (i + 1)) (by omega) (by omega) ?_
    exact ih (i + 1) (by omega) (z12 := .int 0) J1 J2 K3 L3 (v15_ap (v15_ap (v15_ap (v15_ap (v15_ap V _) _) _) _) _) hP hD hS (lv_sub hl [0, 1, 3, 4, 5, 6, 7, 8, 9, 10, 11] rfl)

end WTD
set_option maxRecDepth 100000 in
set_option maxHeartbeats 16000000 in
theorem c_L_told (l : Launch) (hlt : l.stackTraces = false) (G : gG) (b L : Nat) (xs : Nat → Int32) (hL : L ≤ 260) (d1 d2 : AD) (HQ1 : PQd d1) (HQ2 : PQd d2) (n : Int32) (tt pg1 pg2 : Pg) (hs1 hs2 : List Pg) (a0 a1 b0 b1 : Option Pg) (ax : Int32) (hax : 0 ≤ ax.toInt ∧ ax.toInt ≤ 1000) : kG l G yL_told wsL_told rmL_told [.ref d1.1, .ref d2.1, .ref b, .int ax] b L xs (fun x : XT × XT => wB G d1 x.1 (wB G d2 x.2 [])) (fun x => JNV x.1 n tt pg1 hs1 a0 a1 ∧ JNV x.2 n tt pg2 hs2 b0 b1) (fun r x => r = 1 ∧ ∃ (n' : Int32) (tt' pg' : Pg), OKP pg' ∧ JNV x.1 n' tt' pg' [] none none ∧ JNV x.2 n' tt' pg' [] none none) 120 720 := by
  refine k_bodyG (cc := cL_told) (nL := 13) (ret := some .boolean) (by decide) rfl (Nat.le_of_ble_eq_true rfl) ?_
  rintro ⟨x1, x2⟩ hI
  intro p e s m args below meth c A cx cl H locs hP hD hS ls hl
  obtain ⟨hx, hb, hml, hown, hts, hr, hlocks, hK, hA⟩ := id cx
  have hl : lv_has ls 13 [(0, .ref d1.1), (1, .ref d2.1), (2, .ref b), (3, .int ax)] := hl
  have hP : va_P G.1 vwCl (wB G d1 x1 (wB G d2 x2 [])) H := hP
  have hD : va_D A (wB G d1 x1 (wB G d2 x2 [])) := hD
  obtain ⟨J1, J2⟩ : JNV x1 n tt pg1 hs1 a0 a1 ∧ JNV x2 n tt pg2 hs2 b0 b1 := hI
  refine lv_aload_n hx hb dL_told_0 rfl (lv_at hl 2 rfl) ?_
  refine lv_iload_n hx hb dL_told_1 rfl (lv_at hl 3 rfl) ?_
  refine kc0 (n := 2) (As := [.ref b, .int ax]) cx cl (c_L_number l G b L xs hL ax (by omega)) trivial hP hD hS gL_told_L_number rfl rfl rfl (by decide +kernel) ⟨Nat.le_of_ble_eq_true rfl, Nat.le_of_ble_eq_true rfl⟩ rfl rfl hl (Nat.le_of_ble_eq_true rfl) dL_told_2 ⟨Nat.le_of_ble_eq_true rfl, Nat.le_of_ble_eq_true rfl⟩ (fun r1 H locs hr1 hP hD hS => ?_)
  have hr1 : 0 ≤ r1.toInt := hr1
  refine lv_istore (lv' := [(4, .int r1), (0, .ref d1.1), (1, .ref d2.1), (2, .ref b), (3, .int ax)]) hx hb dL_told_5 hl (by decide) rfl (fun ls hl => ?_)
  refine lv_aload_n hx hb dL_told_7 rfl (lv_at hl 3 rfl) ?_
  refine lv_iload_n hx hb dL_told_8 rfl (lv_at hl 4 rfl) ?_
  refine lv_iconst (v := 1) hx hb dL_told_9 (by decide) ?_
  refine lv_iadd hx hb dL_told_10 ?_
  refine kc0 (n := 2) (As := [.ref b, .int (ax + 1)]) cx cl (c_L_number l G b L xs hL (ax + 1) (ax_1 hax)) trivial hP hD hS gL_told_L_number rfl rfl rfl (by decide +kernel) ⟨Nat.le_of_ble_eq_true rfl, Nat.le_of_ble_eq_true rfl⟩ rfl rfl hl (Nat.le_of_ble_eq_true rfl) dL_told_11 ⟨Nat.le_of_ble_eq_true rfl, Nat.le_of_ble_eq_true rfl⟩ (fun r2 H locs hr2 hP hD hS => ?_)
  have hr2 : 0 ≤ r2.toInt := hr2
  refine lv_istore (lv' := [(5, .int r2), (4, .int r1), (0, .ref d1.1), (1, .ref d2.1), (2, .ref b), (3, .int ax)]) hx hb dL_told_14 hl (by decide) rfl (fun ls hl => ?_)
  refine lv_iconst (v := 1) hx hb dL_told_16 (by decide) ?_
  refine lv_iload hx hb dL_told_17 (lv_at hl 1 rfl) ?_
  refine lv_bipush (v := 6) hx hb dL_told_19 (by decide) ?_
  refine lv_irem hx hb dL_told_21 (by decide) ?_
  refine lv_iadd hx hb dL_told_22 ?_
  refine lv_istore (lv' := [(6, .int (1 + (r1 - r1 / 6 * 6))), (5, .int r2), (4, .int r1), (0, .ref d1.1), (1, .ref d2.1), (2, .ref b), (3, .int ax)]) hx hb dL_told_23 hl (by decide) rfl (fun ls hl => ?_)
  refine lv_iload hx hb dL_told_25 (lv_at hl 1 rfl) ?_
  refine lv_sipush (v := 10000) hx hb dL_told_27 (by decide) ?_
  refine lv_irem hx hb dL_told_30 (by decide) ?_
  refine lv_istore (lv' := [(7, .int (r2 - r2 / 10000 * 10000)), (6, .int (1 + (r1 - r1 / 6 * 6))), (5, .int r2), (4, .int r1), (0, .ref d1.1), (1, .ref d2.1), (2, .ref b), (3, .int ax)]) hx hb dL_told_31 hl (by decide) rfl (fun ls hl => ?_)
  refine lv_iconst (v := 1) hx hb dL_told_33 (by decide) ?_
  refine lv_iload hx hb dL_told_34 (lv_at hl 3 rfl) ?_
  refine lv_bipush (v := 8) hx hb dL_told_36 (by decide) ?_
  refine lv_idiv hx hb dL_told_38 (by decide) ?_
  refine lv_bipush (v := 99) hx hb dL_told_39 (by decide) ?_
  refine lv_irem hx hb dL_told_41 (by decide) ?_
  refine lv_iadd hx hb dL_told_42 ?_
  refine lv_istore (lv' := [(8, .int (1 + ((r1 / 8) - (r1 / 8) / 99 * 99))), (7, .int (r2 - r2 / 10000 * 10000)), (6, .int (1 + (r1 - r1 / 6 * 6))), (5, .int r2), (4, .int r1), (0, .ref d1.1), (1, .ref d2.1), (2, .ref b), (3, .int ax)]) hx hb dL_told_43 hl (by decide) rfl (fun ls hl => ?_)
  refine lv_iload hx hb dL_told_45 (lv_at hl 3 rfl) ?_
  refine lv_sipush (v := 16384) hx hb dL_told_47 (by decide) ?_
  refine lv_idiv hx hb dL_told_50 (by decide) ?_
  refine lv_bipush (v := 51) hx hb dL_told_51 (by decide) ?_
  refine lv_irem hx hb dL_told_53 (by decide) ?_
  refine lv_istore (lv' := [(9, .int ((r2 / 16384) - (r2 / 16384) / 51 * 51)), (8, .int (1 + ((r1 / 8) - (r1 / 8) / 99 * 99))), (7, .int (r2 - r2 / 10000 * 10000)), (6, .int (1 + (r1 - r1 / 6 * 6))), (5, .int r2), (4, .int r1), (0, .ref d1.1), (1, .ref d2.1), (2, .ref b), (3, .int ax)]) hx hb dL_told_54 hl (by decide) rfl (fun ls hl => ?_)
  have hbox := mdi (x := r2) (k := 10000) (K := 10000) hr2 (by decide) (by decide)
  have hm0 := mdi (x := r1) (k := 6) (K := 6) hr1 (by decide) (by decide)
  have hmany := adi (k := 1) (K := 1) (x := r1 - r1 / 6 * 6) (by decide) (by decide) (by rw [hm0]; omega)
  have h8 := dvi (x := r1) (k := 8) (K := 8) hr1 (by decide) (by decide)
  have hb0 := mdi (x := r1 / 8) (k := 99) (K := 99) (by rw [h8]; omega) (by decide) (by decide)
  have hbat := adi (k := 1) (K := 1) (x := (r1 / 8) - (r1 / 8) / 99 * 99) (by decide) (by decide) (by rw [hb0]; omega)
  have hs0 := dvi (x := r2) (k := 16384) (K := 16384) hr2 (by decide) (by decide)
  have hst := mdi (x := r2 / 16384) (k := 51) (K := 51) (by rw [hs0]; omega) (by decide) (by decide)
  have hd0 := dvi (x := r1) (k := 65536) (K := 65536) hr1 (by decide) (by decide)
  have hdr := mdi (x := r1 / 65536) (k := 21) (K := 21) (by rw [hd0]; omega) (by decide) (by decide)
  have e1 := d4i (x := r1) (k := 1024) (K := 1024) hr1 (by decide) (by decide)
  have e2 := d4i (x := r1) (k := 4096) (K := 4096) hr1 (by decide) (by decide)
  have e9 := d4i (x := r1) (k := 16384) (K := 16384) hr1 (by decide) (by decide)
  rw [hm0] at hmany
  rw [h8] at hb0
  rw [hb0] at hbat
  rw [hs0] at hst
  rw [hd0] at hdr
  obtain ⟨X, hX⟩ : ∃ X, r1.toInt = X := ⟨_, rfl⟩
  rw [hX] at hmany hbat hdr e1 e2 e9
  generalize (1 + (r1 - r1 / 6 * 6)) = many at hl hmany
  generalize (r2 - r2 / 10000 * 10000) = box at hl hbox
  generalize (1 + ((r1 / 8) - (r1 / 8) / 99 * 99)) = bat at hl hbat
  generalize ((r2 / 16384) - (r2 / 16384) / 51 * 51) = st at hl hst
  obtain ⟨B, hB⟩ : ∃ B, box.toInt = B := ⟨_, rfl⟩
  obtain ⟨E, hE⟩ : ∃ E, bat.toInt = E := ⟨_, rfl⟩
  obtain ⟨S, hS9⟩ : ∃ S, st.toInt = S := ⟨_, rfl⟩
  obtain ⟨D, hD9⟩ : ∃ D, ((r1 / 65536) - (r1 / 65536) / 21 * 21).toInt = D := ⟨_, rfl⟩
  have hBb : 0 ≤ B ∧ B ≤ 9999 := by omega
  have hEb : 1 ≤ E ∧ E ≤ 99 := by omega
  have hSb : 0 ≤ S ∧ S ≤ 50 := by omega
  have hDb : 0 ≤ D ∧ D ≤ 20 := by omega
  obtain ⟨M, hMM⟩ : ∃ M : Nat, (1 ≤ M ∧ M ≤ 6) ∧ many = nI M := ⟨many.toInt.toNat, by omega, Int32.toInt_inj.mp (by rw [nI_toInt (by omega)]; omega)⟩
  obtain ⟨hM, hmanyM⟩ := hMM
  obtain ⟨sg, hsg⟩ : ∃ sg : Int32, ((r2 - r2 / 2 * 2) = 0 ∧ sg = 43) ∨ (¬ (r2 - r2 / 2 * 2) = 0 ∧ sg = 45) := (Decidable.em ((r2 - r2 / 2 * 2) = 0)).elim (fun q => ⟨43, Or.inl ⟨q, rfl⟩⟩) (fun q => ⟨45, Or.inr ⟨q, rfl⟩⟩)
  have hsgi : sg.toInt = 43 ∨ sg.toInt = 45 := hsg.elim (fun q => Or.inl (by rw [q.2]; decide)) (fun q => Or.inr (by rw [q.2]; decide))
  have w1 := dvi (x := box) (k := 100) (K := 100) (by omega) (by decide) (by decide)
  have w2 := mdi (x := box) (k := 100) (K := 100) (by omega) (by decide) (by decide)
  rw [hB] at w1 w2
  have K0 := tk_0 tt
  refine lv_aload_n hx hb dL_told_56 rfl (lv_at hl 6 rfl) ?_
  refine o_clearText hlt cx cl HQ1 J1   (r0 := n) rfl hP hD hS gL_told_X3_clearText ⟨Nat.le_of_ble_eq_true rfl, Nat.le_of_ble_eq_true rfl⟩ hl (Nat.le_of_ble_eq_true rfl) dL_told_57 ⟨Nat.le_of_ble_eq_true rfl, Nat.le_of_ble_eq_true rfl⟩ (fun x1 H locs J1 hP hD hS => ?_)
  have J1 : JNV x1 (0 : Int32) tt pg1 hs1 a0 a1 := J1
  refine lv_aload_n hx hb dL_told_60 rfl (lv_at hl 7 rfl) ?_
  replace hP := kP_perm (wB_swap G d1 d2 x1 x2 []) hP
  replace hD := kD_perm (wB_swap G d1 d2 x1 x2 []) hD
  refine o_clearText hlt cx cl HQ2 J2   (r0 := n) rfl hP hD hS gL_told_X3_clearText ⟨Nat.le_of_ble_eq_true rfl, Nat.le_of_ble_eq_true rfl⟩ hl (Nat.le_of_ble_eq_true rfl) dL_told_61 ⟨Nat.le_of_ble_eq_true rfl, Nat.le_of_ble_eq_true rfl⟩ (fun x2 H locs J2 hP hD hS => ?_)
  have J2 : JNV x2 (0 : Int32) tt pg2 hs2 b0 b1 := J2
  replace hP := kP_perm (wB_swap G d2 d1 x2 x1 []) hP
  replace hD := kD_perm (wB_swap G d2 d1 x2 x1 []) hD
  refine lv_icmp_ne (tgt := 256) hx hb dL_told_64 (by decide) (fun c9 => absurd rfl c9) (fun c9 => ?_)
  refine lv_aload_n hx hb dL_told_67 rfl (lv_at hl 6 rfl) ?_
  refine lv_aload_n hx hb dL_told_68 rfl (lv_at hl 7 rfl) ?_
  refine lv_bipush (v := 71) hx hb dL_told_69 (by decide) ?_
  refine kc2 (n := 3) (As := [.ref d1.1, .ref d2.1, .int 71]) cx cl (c_L_put l hlt G b L xs d1 d2 HQ1 HQ2 (0 : Int32) tt pg1 pg2 hs1 hs2 a0 a1 b0 b1 71 (by decide) (by decide)) ⟨J1, J2⟩ hP hD hS gL_told_L_put rfl rfl rfl (by decide +kernel) ⟨Nat.le_of_ble_eq_true rfl, Nat.le_of_ble_eq_true rfl⟩ rfl rfl hl (Nat.le_of_ble_eq_true rfl) dL_told_71 ⟨Nat.le_of_ble_eq_true rfl, Nat.le_of_ble_eq_true rfl⟩ (fun r9 x1 x2 H locs h9 hP hD hS => ?_)
  obtain ⟨h9, J1, J2⟩ : r9 = 1 ∧ JNV x1 ((0 : Int32) + 1) (upd tt (0 : Int32).toNatClampNeg 71) pg1 hs1 a0 a1 ∧ JNV x2 ((0 : Int32) + 1) (upd tt (0 : Int32).toNatClampNeg 71) pg2 hs2 b0 b1 := h9
  rw [h9]
  have K1 : TK _ _ [71] := tk_ap K0 (c := 71) (ch := 71) (by decide) (Nat.le_of_ble_eq_true rfl) rfl
  generalize (upd tt (0 : Int32).toNatClampNeg 71) = t1 at J1 J2 K1
  generalize ((0 : Int32) + 1) = n1 at J1 J2 K1
  refine lv_if_eq (tgt := 256) hx hb dL_told_74 (by decide) (fun c9 => absurd c9 (by decide)) (fun c9 => ?_)
  refine lv_aload_n hx hb dL_told_77 rfl (lv_at hl 6 rfl) ?_
  refine lv_aload_n hx hb dL_told_78 rfl (lv_at hl 7 rfl) ?_
  refine lv_bipush (v := 48) hx hb dL_told_79 (by decide) ?_
  refine lv_iload hx hb dL_told_81 (lv_at hl 5 rfl) ?_
  refine lv_sipush (v := 1024) hx hb dL_told_83 (by decide) ?_
  refine lv_idiv hx hb dL_told_86 (by decide) ?_
  refine lv_iconst (v := 4) hx hb dL_told_87 (by decide) ?_
  refine lv_irem hx hb dL_told_88 (by decide) ?_
  refine lv_iadd hx hb dL_told_89 ?_
  refine kc2 (n := 3) (As := [.ref d1.1, .ref d2.1, .int (48 + ((r1 / 1024) - (r1 / 1024) / 4 * 4))]) cx cl (c_L_put l hlt G b L xs d1 d2 HQ1 HQ2 n1 t1 pg1 pg2 hs1 hs2 a0 a1 b0 b1 (48 + ((r1 / 1024) - (r1 / 1024) / 4 * 4)) (by rw [e1]; omega) (tk_lt K1 (k := 60) (Nat.le_of_ble_eq_true rfl))) ⟨J1, J2⟩ hP hD hS gL_told_L_put rfl rfl rfl (by decide +kernel) ⟨Nat.le_of_ble_eq_true rfl, Nat.le_of_ble_eq_true rfl⟩ rfl rfl hl (Nat.le_of_ble_eq_true rfl) dL_told_90 ⟨Nat.le_of_ble_eq_true rfl, Nat.le_of_ble_eq_true rfl⟩ (fun r9 x1 x2 H locs h9 hP hD hS => ?_)
  obtain ⟨h9, J1, J2⟩ : r9 = 1 ∧ JNV x1 (n1 + 1) (upd t1 n1.toNatClampNeg (48 + ((r1 / 1024) - (r1 / 1024) / 4 * 4))) pg1 hs1 a0 a1 ∧ JNV x2 (n1 + 1) (upd t1 n1.toNatClampNeg (48 + ((r1 / 1024) - (r1 / 1024) / 4 * 4))) pg2 hs2 b0 b1 := h9
  rw [h9]
  have K2 : TK _ _ [71, 48 + X / 1024 % 4] := tk_ap K1 (c := 48 + X / 1024 % 4) e1 (Nat.le_of_ble_eq_true rfl) (show 48 ≤ (48 + X / 1024 % 4 : Int) ∧ (48 + X / 1024 % 4 : Int) ≤ 51 by omega)
  generalize (upd t1 n1.toNatClampNeg (48 + ((r1 / 1024) - (r1 / 1024) / 4 * 4))) = t2 at J1 J2 K2
  generalize (n1 + 1) = n2 at J1 J2 K2
  refine lv_if_eq (tgt := 256) hx hb dL_told_93 (by decide) (fun c9 => absurd c9 (by decide)) (fun c9 => ?_)
  refine lv_aload_n hx hb dL_told_96 rfl (lv_at hl 6 rfl) ?_
  refine o_errorPosition hlt cx cl HQ1 J1  (r0 := 2) (fe_in K2 rfl (fun q => absurd q.1 (Nat.not_lt.mpr (Nat.le_of_ble_eq_true rfl)))) hP hD hS gL_told_X3_errorPosition ⟨Nat.le_of_ble_eq_true rfl, Nat.le_of_ble_eq_true rfl⟩ hl (Nat.le_of_ble_eq_true rfl) dL_told_97 ⟨Nat.le_of_ble_eq_true rfl, Nat.le_of_ble_eq_true rfl⟩ (fun H locs hP hD hS => ?_)
  refine lv_iconst (v := 2) hx hb dL_told_100 (by decide) ?_
  refine lv_icmp_ne (tgt := 256) hx hb dL_told_101 (by decide) (fun c9 => absurd (by decide) c9) (fun c9 => ?_)
  refine lv_aload_n hx hb dL_told_104 rfl (lv_at hl 6 rfl) ?_
  refine lv_aload_n hx hb dL_told_105 rfl (lv_at hl 7 rfl) ?_
  refine lv_bipush (v := 48) hx hb dL_told_106 (by decide) ?_
  refine lv_iload hx hb dL_told_108 (lv_at hl 5 rfl) ?_
  refine lv_sipush (v := 4096) hx hb dL_told_110 (by decide) ?_
  refine lv_idiv hx hb dL_told_113 (by decide) ?_
  refine lv_iconst (v := 4) hx hb dL_told_114 (by decide) ?_
  refine lv_irem hx hb dL_told_115 (by decide) ?_
  refine lv_iadd hx hb dL_told_116 ?_
  refine kc2 (n := 3) (As := [.ref d1.1, .ref d2.1, .int (48 + ((r1 / 4096) - (r1 / 4096) / 4 * 4))]) cx cl (c_L_put l hlt G b L xs d1 d2 HQ1 HQ2 n2 t2 pg1 pg2 hs1 hs2 a0 a1 b0 b1 (48 + ((r1 / 4096) - (r1 / 4096) / 4 * 4)) (by rw [e2]; omega) (tk_lt K2 (k := 60) (Nat.le_of_ble_eq_true rfl))) ⟨J1, J2⟩ hP hD hS gL_told_L_put rfl rfl rfl (by decide +kernel) ⟨Nat.le_of_ble_eq_true rfl, Nat.le_of_ble_eq_true rfl⟩ rfl rfl hl (Nat.le_of_ble_eq_true rfl) dL_told_117 ⟨Nat.le_of_ble_eq_true rfl, Nat.le_of_ble_eq_true rfl⟩ (fun r9 x1 x2 H locs h9 hP hD hS => ?_)
  obtain ⟨h9, J1, J2⟩ : r9 = 1 ∧ JNV x1 (n2 + 1) (upd t2 n2.toNatClampNeg (48 + ((r1 / 4096) - (r1 / 4096) / 4 * 4))) pg1 hs1 a0 a1 ∧ JNV x2 (n2 + 1) (upd t2 n2.toNatClampNeg (48 + ((r1 / 4096) - (r1 / 4096) / 4 * 4))) pg2 hs2 b0 b1 := h9
  rw [h9]
  have K3 : TK _ _ [71, 48 + X / 1024 % 4, 48 + X / 4096 % 4] := tk_ap K2 (c := 48 + X / 4096 % 4) e2 (Nat.le_of_ble_eq_true rfl) (show 48 ≤ (48 + X / 4096 % 4 : Int) ∧ (48 + X / 4096 % 4 : Int) ≤ 51 by omega)
  generalize (upd t2 n2.toNatClampNeg (48 + ((r1 / 4096) - (r1 / 4096) / 4 * 4))) = t3 at J1 J2 K3
  generalize (n2 + 1) = n3 at J1 J2 K3
  refine lv_if_eq (tgt := 256) hx hb dL_told_120 (by decide) (fun c9 => absurd c9 (by decide)) (fun c9 => ?_)
  refine lv_aload_n hx hb dL_told_123 rfl (lv_at hl 6 rfl) ?_
  refine lv_aload_n hx hb dL_told_124 rfl (lv_at hl 7 rfl) ?_
  refine lv_iload hx hb dL_told_125 (lv_at hl 2 rfl) ?_
  refine lv_bipush (v := 100) hx hb dL_told_127 (by decide) ?_
  refine lv_idiv hx hb dL_told_129 (by decide) ?_
  refine kc2 (n := 3) (As := [.ref d1.1, .ref d2.1, .int (box / 100)]) cx cl (c_L_two l hlt G b L xs d1 d2 HQ1 HQ2 n3 t3 pg1 pg2 hs1 hs2 a0 a1 b0 b1 (box / 100) (by rw [w1]; omega) (tk_lt K3 (k := 59) (Nat.le_of_ble_eq_true rfl))) ⟨J1, J2⟩ hP hD hS gL_told_L_two rfl rfl rfl (by decide +kernel) ⟨Nat.le_of_ble_eq_true rfl, Nat.le_of_ble_eq_true rfl⟩ rfl rfl hl (Nat.le_of_ble_eq_true rfl) dL_told_130 ⟨Nat.le_of_ble_eq_true rfl, Nat.le_of_ble_eq_true rfl⟩ (fun r9 x1 x2 H locs h9 hP hD hS => ?_)
  obtain ⟨h9, J1, J2⟩ : r9 = 1 ∧ JNV x1 ((n3 + 1) + 1) (upd (upd t3 n3.toNatClampNeg (48 + (box / 100) / 10)) (n3 + 1).toNatClampNeg (48 + ((box / 100) - (box / 100) / 10 * 10))) pg1 hs1 a0 a1 ∧ JNV x2 ((n3 + 1) + 1) (upd (upd t3 n3.toNatClampNeg (48 + (box / 100) / 10)) (n3 + 1).toNatClampNeg (48 + ((box / 100) - (box / 100) / 10 * 10))) pg2 hs2 b0 b1 := h9
  rw [h9]
  have K5 : TK _ _ [71, 48 + X / 1024 % 4, 48 + X / 4096 % 4, 48 + B / 100 / 10, 48 + B / 100 % 10] := tk_two K3 (V := B / 100) w1 (by omega) (Nat.le_of_ble_eq_true rfl) (show 48 ≤ (48 + B / 100 / 10 : Int) ∧ (48 + B / 100 / 10 : Int) ≤ 57 by omega) (show 48 ≤ (48 + B / 100 % 10 : Int) ∧ (48 + B / 100 % 10 : Int) ≤ 57 by omega)
  generalize (upd (upd t3 n3.toNatClampNeg (48 + (box / 100) / 10)) (n3 + 1).toNatClampNeg (48 + ((box / 100) - (box / 100) / 10 * 10))) = t5 at J1 J2 K5
  generalize ((n3 + 1) + 1) = n5 at J1 J2 K5
  refine lv_if_eq (tgt := 256) hx hb dL_told_133 (by decide) (fun c9 => absurd c9 (by decide)) (fun c9 => ?_)
  refine lv_aload_n hx hb dL_told_136 rfl (lv_at hl 6 rfl) ?_
  refine o_errorPosition hlt cx cl HQ1 J1  (r0 := 5) (fe_in K5 rfl (fun q => absurd q.1 (Nat.not_lt.mpr (Nat.le_of_ble_eq_true rfl)))) hP hD hS gL_told_X3_errorPosition ⟨Nat.le_of_ble_eq_true rfl, Nat.le_of_ble_eq_true rfl⟩ hl (Nat.le_of_ble_eq_true rfl) dL_told_137 ⟨Nat.le_of_ble_eq_true rfl, Nat.le_of_ble_eq_true rfl⟩ (fun H locs hP hD hS => ?_)
  refine lv_iconst (v := 5) hx hb dL_told_140 (by decide) ?_
  refine lv_icmp_ne (tgt := 256) hx hb dL_told_141 (by decide) (fun c9 => absurd (by decide) c9) (fun c9 => ?_)
  refine lv_aload_n hx hb dL_told_144 rfl (lv_at hl 6 rfl) ?_
  refine lv_aload_n hx hb dL_told_145 rfl (lv_at hl 7 rfl) ?_
  refine lv_iload hx hb dL_told_146 (lv_at hl 2 rfl) ?_
  refine lv_bipush (v := 100) hx hb dL_told_148 (by decide) ?_
  refine lv_irem hx hb dL_told_150 (by decide) ?_
  refine kc2 (n := 3) (As := [.ref d1.1, .ref d2.1, .int (box - box / 100 * 100)]) cx cl (c_L_two l hlt G b L xs d1 d2 HQ1 HQ2 n5 t5 pg1 pg2 hs1 hs2 a0 a1 b0 b1 (box - box / 100 * 100) (by rw [w2]; omega) (tk_lt K5 (k := 59) (Nat.le_of_ble_eq_true rfl))) ⟨J1, J2⟩ hP hD hS gL_told_L_two rfl rfl rfl (by decide +kernel) ⟨Nat.le_of_ble_eq_true rfl, Nat.le_of_ble_eq_true rfl⟩ rfl rfl hl (Nat.le_of_ble_eq_true rfl) dL_told_151 ⟨Nat.le_of_ble_eq_true rfl, Nat.le_of_ble_eq_true rfl⟩ (fun r9 x1 x2 H locs h9 hP hD hS => ?_)
  obtain ⟨h9, J1, J2⟩ : r9 = 1 ∧ JNV x1 ((n5 + 1) + 1) (upd (upd t5 n5.toNatClampNeg (48 + (box - box / 100 * 100) / 10)) (n5 + 1).toNatClampNeg (48 + ((box - box / 100 * 100) - (box - box / 100 * 100) / 10 * 10))) pg1 hs1 a0 a1 ∧ JNV x2 ((n5 + 1) + 1) (upd (upd t5 n5.toNatClampNeg (48 + (box - box / 100 * 100) / 10)) (n5 + 1).toNatClampNeg (48 + ((box - box / 100 * 100) - (box - box / 100 * 100) / 10 * 10))) pg2 hs2 b0 b1 := h9
  rw [h9]
  have K7 : TK _ _ [71, 48 + X / 1024 % 4, 48 + X / 4096 % 4, 48 + B / 100 / 10, 48 + B / 100 % 10, 48 + B % 100 / 10, 48 + B % 100 % 10] := tk_two K5 (V := B % 100) w2 (by omega) (Nat.le_of_ble_eq_true rfl) (show 48 ≤ (48 + B % 100 / 10 : Int) ∧ (48 + B % 100 / 10 : Int) ≤ 57 by omega) (show 48 ≤ (48 + B % 100 % 10 : Int) ∧ (48 + B % 100 % 10 : Int) ≤ 57 by omega)
  generalize (upd (upd t5 n5.toNatClampNeg (48 + (box - box / 100 * 100) / 10)) (n5 + 1).toNatClampNeg (48 + ((box - box / 100 * 100) - (box - box / 100 * 100) / 10 * 10))) = t7 at J1 J2 K7
  generalize ((n5 + 1) + 1) = n7 at J1 J2 K7
  refine lv_if_eq (tgt := 256) hx hb dL_told_154 (by decide) (fun c9 => absurd c9 (by decide)) (fun c9 => ?_)
  refine lv_aload_n hx hb dL_told_157 rfl (lv_at hl 6 rfl) ?_
  refine lv_aload_n hx hb dL_told_158 rfl (lv_at hl 7 rfl) ?_
  refine lv_iload hx hb dL_told_159 (lv_at hl 1 rfl) ?_
  refine kc2 (n := 3) (As := [.ref d1.1, .ref d2.1, .int bat]) cx cl (c_L_two l hlt G b L xs d1 d2 HQ1 HQ2 n7 t7 pg1 pg2 hs1 hs2 a0 a1 b0 b1 bat (by omega) (tk_lt K7 (k := 59) (Nat.le_of_ble_eq_true rfl))) ⟨J1, J2⟩ hP hD hS gL_told_L_two rfl rfl rfl (by decide +kernel) ⟨Nat.le_of_ble_eq_true rfl, Nat.le_of_ble_eq_true rfl⟩ rfl rfl hl (Nat.le_of_ble_eq_true rfl) dL_told_161 ⟨Nat.le_of_ble_eq_true rfl, Nat.le_of_ble_eq_true rfl⟩ (fun r9 x1 x2 H locs h9 hP hD hS => ?_)
  obtain ⟨h9, J1, J2⟩ : r9 = 1 ∧ JNV x1 ((n7 + 1) + 1) (upd (upd t7 n7.toNatClampNeg (48 + bat / 10)) (n7 + 1).toNatClampNeg (48 + (bat - bat / 10 * 10))) pg1 hs1 a0 a1 ∧ JNV x2 ((n7 + 1) + 1) (upd (upd t7 n7.toNatClampNeg (48 + bat / 10)) (n7 + 1).toNatClampNeg (48 + (bat - bat / 10 * 10))) pg2 hs2 b0 b1 := h9
  rw [h9]
  have K9 : TK _ _ [71, 48 + X / 1024 % 4, 48 + X / 4096 % 4, 48 + B / 100 / 10, 48 + B / 100 % 10, 48 + B % 100 / 10, 48 + B % 100 % 10, 48 + E / 10, 48 + E % 10] := tk_two K7 (V := E) hE (by omega) (Nat.le_of_ble_eq_true rfl) (show 48 ≤ (48 + E / 10 : Int) ∧ (48 + E / 10 : Int) ≤ 57 by omega) (show (48 ≤ (48 + E % 10 : Int) ∧ (48 + E % 10 : Int) ≤ 57) ∧ 0 < 10 * ((48 + E / 10 : Int) - 48) + ((48 + E % 10 : Int) - 48) by omega)
  generalize (upd (upd t7 n7.toNatClampNeg (48 + bat / 10)) (n7 + 1).toNatClampNeg (48 + (bat - bat / 10 * 10))) = t9 at J1 J2 K9
  generalize ((n7 + 1) + 1) = n9 at J1 J2 K9
  refine lv_if_eq (tgt := 256) hx hb dL_told_164 (by decide) (fun c9 => absurd c9 (by decide)) (fun c9 => ?_)
  refine lv_aload_n hx hb dL_told_167 rfl (lv_at hl 6 rfl) ?_
  refine o_errorPosition hlt cx cl HQ1 J1  (r0 := 9) (fe_in K9 rfl (fun q => absurd q.1 (Nat.not_lt.mpr (Nat.le_of_ble_eq_true rfl)))) hP hD hS gL_told_X3_errorPosition ⟨Nat.le_of_ble_eq_true rfl, Nat.le_of_ble_eq_true rfl⟩ hl (Nat.le_of_ble_eq_true rfl) dL_told_168 ⟨Nat.le_of_ble_eq_true rfl, Nat.le_of_ble_eq_true rfl⟩ (fun H locs hP hD hS => ?_)
  refine lv_bipush (v := 9) hx hb dL_told_171 (by decide) ?_
  refine lv_icmp_ne (tgt := 256) hx hb dL_told_173 (by decide) (fun c9 => absurd (by decide) c9) (fun c9 => ?_)
  refine lv_aload_n hx hb dL_told_176 rfl (lv_at hl 6 rfl) ?_
  refine lv_aload_n hx hb dL_told_177 rfl (lv_at hl 7 rfl) ?_
  refine lv_bipush (v := 48) hx hb dL_told_178 (by decide) ?_
  refine lv_iload hx hb dL_told_180 (lv_at hl 5 rfl) ?_
  refine lv_sipush (v := 16384) hx hb dL_told_182 (by decide) ?_
  refine lv_idiv hx hb dL_told_185 (by decide) ?_
  refine lv_iconst (v := 4) hx hb dL_told_186 (by decide) ?_
  refine lv_irem hx hb dL_told_187 (by decide) ?_
  refine lv_iadd hx hb dL_told_188 ?_
  refine kc2 (n := 3) (As := [.ref d1.1, .ref d2.1, .int (48 + ((r1 / 16384) - (r1 / 16384) / 4 * 4))]) cx cl (c_L_put l hlt G b L xs d1 d2 HQ1 HQ2 n9 t9 pg1 pg2 hs1 hs2 a0 a1 b0 b1 (48 + ((r1 / 16384) - (r1 / 16384) / 4 * 4)) (by rw [e9]; omega) (tk_lt K9 (k := 60) (Nat.le_of_ble_eq_true rfl))) ⟨J1, J2⟩ hP hD hS gL_told_L_put rfl rfl rfl (by decide +kernel) ⟨Nat.le_of_ble_eq_true rfl, Nat.le_of_ble_eq_true rfl⟩ rfl rfl hl (Nat.le_of_ble_eq_true rfl) dL_told_189 ⟨Nat.le_of_ble_eq_true rfl, Nat.le_of_ble_eq_true rfl⟩ (fun r9 x1 x2 H locs h9 hP hD hS => ?_)
  obtain ⟨h9, J1, J2⟩ : r9 = 1 ∧ JNV x1 (n9 + 1) (upd t9 n9.toNatClampNeg (48 + ((r1 / 16384) - (r1 / 16384) / 4 * 4))) pg1 hs1 a0 a1 ∧ JNV x2 (n9 + 1) (upd t9 n9.toNatClampNeg (48 + ((r1 / 16384) - (r1 / 16384) / 4 * 4))) pg2 hs2 b0 b1 := h9
  rw [h9]
  have K10 : TK _ _ [71, 48 + X / 1024 % 4, 48 + X / 4096 % 4, 48 + B / 100 / 10, 48 + B / 100 % 10, 48 + B % 100 / 10, 48 + B % 100 % 10, 48 + E / 10, 48 + E % 10, 48 + X / 16384 % 4] := tk_ap K9 (c := 48 + X / 16384 % 4) e9 (Nat.le_of_ble_eq_true rfl) (show 48 ≤ (48 + X / 16384 % 4 : Int) ∧ (48 + X / 16384 % 4 : Int) ≤ 51 by omega)
  generalize (upd t9 n9.toNatClampNeg (48 + ((r1 / 16384) - (r1 / 16384) / 4 * 4))) = t10 at J1 J2 K10
  generalize (n9 + 1) = n10 at J1 J2 K10
  refine lv_if_eq (tgt := 256) hx hb dL_told_192 (by decide) (fun c9 => absurd c9 (by decide)) (fun c9 => ?_)
  refine lv_aload_n hx hb dL_told_195 rfl (lv_at hl 6 rfl) ?_
  refine lv_aload_n hx hb dL_told_196 rfl (lv_at hl 7 rfl) ?_
  refine lv_iload hx hb dL_told_197 (lv_at hl 4 rfl) ?_
  refine lv_iconst (v := 2) hx hb dL_told_199 (by decide) ?_
  refine lv_irem hx hb dL_told_200 (by decide) ?_
  have hj211 : W p l e rmL_told s m args below meth c H locs 20 120 (MQ below (qG G (fun x : XT × XT => wB G d1 x.1 (wB G d2 x.2 [])) (fun r x => r = 1 ∧ ∃ (n' : Int32) (tt' pg' : Pg), OKP pg' ∧ JNV x.1 n' tt' pg' [] none none ∧ JNV x.2 n' tt' pg' [] none none) A) args s 120 720 A) (F0 m 211 ls [.int sg, .ref d2.1, .ref d1.1]) := by
    refine kc2 (n := 3) (As := [.ref d1.1, .ref d2.1, .int sg]) cx cl (c_L_put l hlt G b L xs d1 d2 HQ1 HQ2 n10 t10 pg1 pg2 hs1 hs2 a0 a1 b0 b1 sg (by omega) (tk_lt K10 (k := 60) (Nat.le_of_ble_eq_true rfl))) ⟨J1, J2⟩ hP hD hS gL_told_L_put rfl rfl rfl (by decide +kernel) ⟨Nat.le_of_ble_eq_true rfl, Nat.le_of_ble_eq_true rfl⟩ rfl rfl hl (Nat.le_of_ble_eq_true rfl) dL_told_211 ⟨Nat.le_of_ble_eq_true rfl, Nat.le_of_ble_eq_true rfl⟩ (fun r9 x1 x2 H locs h9 hP hD hS => ?_)
    obtain ⟨h9, J1, J2⟩ : r9 = 1 ∧ JNV x1 (n10 + 1) (upd t10 n10.toNatClampNeg sg) pg1 hs1 a0 a1 ∧ JNV x2 (n10 + 1) (upd t10 n10.toNatClampNeg sg) pg2 hs2 b0 b1 := h9
    rw [h9]
    have K11 : TK _ _ [71, 48 + X / 1024 % 4, 48 + X / 4096 % 4, 48 + B / 100 / 10, 48 + B / 100 % 10, 48 + B % 100 / 10, 48 + B % 100 % 10, 48 + E / 10, 48 + E % 10, 48 + X / 16384 % 4, sg.toInt] := tk_ap K10 (c := sg.toInt) rfl (Nat.le_of_ble_eq_true rfl) (show sg.toInt = 43 ∨ sg.toInt = 45 by omega)
    generalize (upd t10 n10.toNatClampNeg sg) = t11 at J1 J2 K11
    generalize (n10 + 1) = n11 at J1 J2 K11
    refine lv_if_eq (tgt := 256) hx hb dL_told_214 (by decide) (fun c9 => absurd c9 (by decide)) (fun c9 => ?_)
    refine lv_aload_n hx hb dL_told_217 rfl (lv_at hl 6 rfl) ?_
    refine lv_aload_n hx hb dL_told_218 rfl (lv_at hl 7 rfl) ?_
    refine lv_iload hx hb dL_told_219 (lv_at hl 0 rfl) ?_
    refine kc2 (n := 3) (As := [.ref d1.1, .ref d2.1, .int st]) cx cl (c_L_two l hlt G b L xs d1 d2 HQ1 HQ2 n11 t11 pg1 pg2 hs1 hs2 a0 a1 b0 b1 st (by omega) (tk_lt K11 (k := 59) (Nat.le_of_ble_eq_true rfl))) ⟨J1, J2⟩ hP hD hS gL_told_L_two rfl rfl rfl (by decide +kernel) ⟨Nat.le_of_ble_eq_true rfl, Nat.le_of_ble_eq_true rfl⟩ rfl rfl hl (Nat.le_of_ble_eq_true rfl) dL_told_221 ⟨Nat.le_of_ble_eq_true rfl, Nat.le_of_ble_eq_true rfl⟩ (fun r9 x1 x2 H locs h9 hP hD hS => ?_)
    obtain ⟨h9, J1, J2⟩ : r9 = 1 ∧ JNV x1 ((n11 + 1) + 1) (upd (upd t11 n11.toNatClampNeg (48 + st / 10)) (n11 + 1).toNatClampNeg (48 + (st - st / 10 * 10))) pg1 hs1 a0 a1 ∧ JNV x2 ((n11 + 1) + 1) (upd (upd t11 n11.toNatClampNeg (48 + st / 10)) (n11 + 1).toNatClampNeg (48 + (st - st / 10 * 10))) pg2 hs2 b0 b1 := h9
    rw [h9]
    have K13 : TK _ _ [71, 48 + X / 1024 % 4, 48 + X / 4096 % 4, 48 + B / 100 / 10, 48 + B / 100 % 10, 48 + B % 100 / 10, 48 + B % 100 % 10, 48 + E / 10, 48 + E % 10, 48 + X / 16384 % 4, sg.toInt, 48 + S / 10, 48 + S % 10] := tk_two K11 (V := S) hS9 (by omega) (Nat.le_of_ble_eq_true rfl) (show 48 ≤ (48 + S / 10 : Int) ∧ (48 + S / 10 : Int) ≤ 53 by omega) (show (48 ≤ (48 + S % 10 : Int) ∧ (48 + S % 10 : Int) ≤ 57) ∧ 10 * ((48 + S / 10 : Int) - 48) + ((48 + S % 10 : Int) - 48) ≤ 50 by omega)
    generalize (upd (upd t11 n11.toNatClampNeg (48 + st / 10)) (n11 + 1).toNatClampNeg (48 + (st - st / 10 * 10))) = t13 at J1 J2 K13
    generalize ((n11 + 1) + 1) = n13 at J1 J2 K13
    refine lv_if_eq (tgt := 256) hx hb dL_told_224 (by decide) (fun c9 => absurd c9 (by decide)) (fun c9 => ?_)
    refine lv_aload_n hx hb dL_told_227 rfl (lv_at hl 6 rfl) ?_
    refine lv_aload_n hx hb dL_told_228 rfl (lv_at hl 7 rfl) ?_
    refine lv_iload hx hb dL_told_229 (lv_at hl 5 rfl) ?_
    refine k_ldc (v := 65536) cx (by decide +kernel) dL_told_231 ?_
    refine lv_idiv hx hb dL_told_233 (by decide) ?_
    refine lv_bipush (v := 21) hx hb dL_told_234 (by decide) ?_
    refine lv_irem hx hb dL_told_236 (by decide) ?_
    refine kc2 (n := 3) (As := [.ref d1.1, .ref d2.1, .int ((r1 / 65536) - (r1 / 65536) / 21 * 21)]) cx cl (c_L_two l hlt G b L xs d1 d2 HQ1 HQ2 n13 t13 pg1 pg2 hs1 hs2 a0 a1 b0 b1 ((r1 / 65536) - (r1 / 65536) / 21 * 21) (by rw [hD9]; omega) (tk_lt K13 (k := 59) (Nat.le_of_ble_eq_true rfl))) ⟨J1, J2⟩ hP hD hS gL_told_L_two rfl rfl rfl (by decide +kernel) ⟨Nat.le_of_ble_eq_true rfl, Nat.le_of_ble_eq_true rfl⟩ rfl rfl hl (Nat.le_of_ble_eq_true rfl) dL_told_237 ⟨Nat.le_of_ble_eq_true rfl, Nat.le_of_ble_eq_true rfl⟩ (fun r9 x1 x2 H locs h9 hP hD hS => ?_)
    obtain ⟨h9, J1, J2⟩ : r9 = 1 ∧ JNV x1 ((n13 + 1) + 1) (upd (upd t13 n13.toNatClampNeg (48 + ((r1 / 65536) - (r1 / 65536) / 21 * 21) / 10)) (n13 + 1).toNatClampNeg (48 + (((r1 / 65536) - (r1 / 65536) / 21 * 21) - ((r1 / 65536) - (r1 / 65536) / 21 * 21) / 10 * 10))) pg1 hs1 a0 a1 ∧ JNV x2 ((n13 + 1) + 1) (upd (upd t13 n13.toNatClampNeg (48 + ((r1 / 65536) - (r1 / 65536) / 21 * 21) / 10)) (n13 + 1).toNatClampNeg (48 + (((r1 / 65536) - (r1 / 65536) / 21 * 21) - ((r1 / 65536) - (r1 / 65536) / 21 * 21) / 10 * 10))) pg2 hs2 b0 b1 := h9
    rw [h9]
    have K15 : TK _ _ [71, 48 + X / 1024 % 4, 48 + X / 4096 % 4, 48 + B / 100 / 10, 48 + B / 100 % 10, 48 + B % 100 / 10, 48 + B % 100 % 10, 48 + E / 10, 48 + E % 10, 48 + X / 16384 % 4, sg.toInt, 48 + S / 10, 48 + S % 10, 48 + D / 10, 48 + D % 10] := tk_two K13 (V := D) hD9 (by omega) (Nat.le_of_ble_eq_true rfl) (show 48 ≤ (48 + D / 10 : Int) ∧ (48 + D / 10 : Int) ≤ 50 by omega) (show (48 ≤ (48 + D % 10 : Int) ∧ (48 + D % 10 : Int) ≤ 57) ∧ 10 * ((48 + D / 10 : Int) - 48) + ((48 + D % 10 : Int) - 48) ≤ 20 by omega)
    generalize (upd (upd t13 n13.toNatClampNeg (48 + ((r1 / 65536) - (r1 / 65536) / 21 * 21) / 10)) (n13 + 1).toNatClampNeg (48 + (((r1 / 65536) - (r1 / 65536) / 21 * 21) - ((r1 / 65536) - (r1 / 65536) / 21 * 21) / 10 * 10))) = t15 at J1 J2 K15
    generalize ((n13 + 1) + 1) = n15 at J1 J2 K15
    refine lv_if_eq (tgt := 256) hx hb dL_told_240 (by decide) (fun c9 => absurd c9 (by decide)) (fun c9 => ?_)
    refine lv_aload_n hx hb dL_told_243 rfl (lv_at hl 6 rfl) ?_
    refine o_errorPosition hlt cx cl HQ1 J1  (r0 := 15) (fe_in K15 rfl (fun q => absurd q.1 (Nat.not_lt.mpr (Nat.le_of_ble_eq_true rfl)))) hP hD hS gL_told_X3_errorPosition ⟨Nat.le_of_ble_eq_true rfl, Nat.le_of_ble_eq_true rfl⟩ hl (Nat.le_of_ble_eq_true rfl) dL_told_244 ⟨Nat.le_of_ble_eq_true rfl, Nat.le_of_ble_eq_true rfl⟩ (fun H locs hP hD hS => ?_)
    refine lv_bipush (v := 15) hx hb dL_told_247 (by decide) ?_
    refine lv_icmp_ne (tgt := 256) hx hb dL_told_249 (by decide) (fun c9 => absurd (by decide) c9) (fun c9 => ?_)
    refine lv_iconst (v := 1) hx hb dL_told_252 (by decide) ?_
    refine lv_goto (tgt := 257) hx hb dL_told_253 (by decide) ?_
    refine lv_istore (lv' := [(10, .int 1), (9, .int st), (8, .int bat), (7, .int box), (6, .int many), (5, .int r2), (4, .int r1), (0, .ref d1.1), (1, .ref d2.1), (2, .ref b), (3, .int ax)]) hx hb dL_told_257 hl (by decide) rfl (fun ls hl => ?_)
    refine lv_iconst (v := 0) hx hb dL_told_259 (by decide) ?_
    refine lv_istore (lv' := [(11, .int 0), (10, .int 1), (9, .int st), (8, .int bat), (7, .int box), (6, .int many), (5, .int r2), (4, .int r1), (0, .ref d1.1), (1, .ref d2.1), (2, .ref b), (3, .int ax)]) hx hb dL_told_260 hl (by decide) rfl (fun ls hl => ?_)
    exact td_2 hlt cx cl hL HQ1 HQ2 hM hmanyM hax M 0 (by omega) (z12 := .int 0) (y := r2) J1 J2 K15 rfl ⟨Nat.le_of_ble_eq_true rfl, (show 1000 * ((48 + B / 100 / 10 : Int) - 48) + 100 * ((48 + B / 100 % 10 : Int) - 48) + 10 * ((48 + B % 100 / 10 : Int) - 48) + ((48 + B % 100 % 10 : Int) - 48) = box.toInt by omega), (show 10 * ((48 + E / 10 : Int) - 48) + ((48 + E % 10 : Int) - 48) = bat.toInt by omega), (show 10 * ((48 + S / 10 : Int) - 48) + ((48 + S % 10 : Int) - 48) = st.toInt by omega), by omega, hsg.elim (fun q => Or.inl ⟨q.1, by rw [q.2]; rfl⟩) (fun q => Or.inr ⟨q.1, by rw [q.2]; rfl⟩)⟩ hP hD hS (lv_sub hl [0, 1, 5, 4, 3, 2, 6, 8, 9, 10, 11] rfl)
  refine lv_if_ne (tgt := 209) hx hb dL_told_201 (by decide) (fun c201 => ?_) (fun c201 => ?_)
  · refine lv_bipush (v := 45) hx hb dL_told_209 (by decide) ?_
    exact k_top (v' := sg) (hsg.resolve_left (fun q => c201 q.1)).2.symm hj211
  · refine lv_bipush (v := 43) hx hb dL_told_204 (by decide) ?_
    refine lv_goto (tgt := 211) hx hb dL_told_206 (by decide) ?_
    exact k_top (v' := sg) (hsg.resolve_right (fun q => q.1 c201)).2.symm hj211
