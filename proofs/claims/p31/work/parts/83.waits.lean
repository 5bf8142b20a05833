/-! the law's method waits -/
abbrev rmL_waits : Room := { frames := 9, cells := 130, slots := 780, locals := 240 }
section WWT
variable {p : Program} {l : Launch} {e : Env} {s : State} {m : MethodId} {args : Array Value} {below : List Frame} {meth : Method} {c : Code} {Qp : State → Prop} {G : gG} {A : Nat → Prop} {b L : Nat} {xs : Nat → Int32}
variable {n : Int32} {tt pg : Pg} {k1 : Option Pg}

set_option maxRecDepth 100000 in
set_option maxHeartbeats 4000000 in
theorem wt_5 (hlt : l.stackTraces = false) (cx : Cx p s m args meth c cL_waits 17 RL wsL_waits (some .boolean) G A) (cl : CL s A b L xs) {d : AD} (HQ : PQd d) {x : XT}  (J : JNV x n tt pg ([]) (some pg) k1)   {H : Heap} {locs : List Loc} {ls : Array Slot} (hP : va_P G.1 vwCl (wB G d x []) H) (hD : va_D A (wB G d x [])) (hS : va_S A s.heap H locs) (hl : lv_has ls 17 [(4, .int 1), (0, .ref d.1)])  : W p l e rmL_waits s m args below meth c H locs 122 732 (MQ below (qG G (fun x : XT => wB G d x []) (fun r x => r = 1 ∧ JNV x n tt pg [] (some pg) k1) A) args s 130 780 A) (F0 m 606 ls []) := by
  obtain ⟨hx, hb, hml, hown, hts, hr, hlocks, hK, hA⟩ := id cx
  refine lv_iload hx hb dL_waits_606 (lv_at hl 0 rfl) ?_
  refine lv_if_eq (tgt := 624) hx hb dL_waits_608 (by decide) (fun c9 => absurd c9 (by decide)) (fun c9 => ?_)
  refine lv_aload_n hx hb dL_waits_611 rfl (lv_at hl 1 rfl) ?_
  refine n_undo hlt cx cl HQ J  rfl hP hD hS gL_waits_L_tryUndo ⟨Nat.le_of_ble_eq_true rfl, Nat.le_of_ble_eq_true rfl⟩ hl (Nat.le_of_ble_eq_true rfl) dL_waits_612 ⟨Nat.le_of_ble_eq_true rfl, Nat.le_of_ble_eq_true rfl⟩ (fun H locs hP hD hS => ?_)
  refine k_ldc (v := (-999900003)) cx (by decide +kernel) dL_waits_615 ?_
  refine lv_icmp_ne (tgt := 624) hx hb dL_waits_617 (by decide) (fun c9 => absurd (by decide) c9) (fun c9 => ?_)
  refine lv_iconst (v := 1) hx hb dL_waits_620 (by decide) ?_
  refine lv_goto (tgt := 625) hx hb dL_waits_621 (by decide) ?_
  exact k_retG (u := x) cx (nz (Or.inr rfl)) ⟨rfl, J⟩ hP hS ⟨Nat.le_of_ble_eq_true rfl, Nat.le_of_ble_eq_true rfl⟩ dL_waits_625

set_option maxRecDepth 100000 in
set_option maxHeartbeats 4000000 in
theorem wt_4b (hlt : l.stackTraces = false) (cx : Cx p s m args meth c cL_waits 17 RL wsL_waits (some .boolean) G A) (cl : CL s A b L xs) {d : AD} (HQ : PQd d) {x : XT} {pgx : Pg} {hsx : List Pg} (J : JNV x n tt pgx hsx (some pg) k1)  (hc : pg 11 = 0) {H : Heap} {locs : List Loc} {ls : Array Slot} (hP : va_P G.1 vwCl (wB G d x []) H) (hD : va_D A (wB G d x [])) (hS : va_S A s.heap H locs) (hl : lv_has ls 17 [(4, .int 1), (2, .int (pg 8)), (0, .ref d.1)])  : W p l e rmL_waits s m args below meth c H locs 116 696 (MQ below (qG G (fun x : XT => wB G d x []) (fun r x => r = 1 ∧ JNV x n tt pg [] (some pg) k1) A) args s 130 780 A) (F0 m 565 ls [.int ((P_X4_pairOn pg).1)]) := by
  obtain ⟨hx, hb, hml, hown, hts, hr, hlocks, hK, hA⟩ := id cx
  refine lv_istore (lv' := [(16, .int ((P_X4_pairOn pg).1)), (4, .int 1), (2, .int (pg 8)), (0, .ref d.1)]) hx hb dL_waits_565 hl (by decide) rfl (fun ls hl => ?_)
  refine lv_iload hx hb dL_waits_567 (lv_at hl 1 rfl) ?_
  refine lv_if_eq (tgt := 603) hx hb dL_waits_569 (by decide) (fun c9 => absurd c9 (by decide)) (fun c9 => ?_)
  refine lv_aload_n hx hb dL_waits_572 rfl (lv_at hl 3 rfl) ?_
  refine lv_iconst (v := 0) hx hb dL_waits_573 (by decide) ?_
  refine o_restore0 hlt cx cl HQ J  (q := pg) rfl (r0 := (pg 8)) rfl hP hD hS gL_waits_L_tryRestore ⟨Nat.le_of_ble_eq_true rfl, Nat.le_of_ble_eq_true rfl⟩ hl (Nat.le_of_ble_eq_true rfl) dL_waits_574 ⟨Nat.le_of_ble_eq_true rfl, Nat.le_of_ble_eq_true rfl⟩ (fun x H locs J hP hD hS => ?_)
  have J : JNV x n tt pg ([]) (some pg) k1 := J
  refine lv_iload_n hx hb dL_waits_577 rfl (lv_at hl 2 rfl) ?_
  refine lv_icmp_ne (tgt := 603) hx hb dL_waits_578 (by decide) (fun c9 => absurd rfl c9) (fun c9 => ?_)
  refine lv_aload_n hx hb dL_waits_581 rfl (lv_at hl 3 rfl) ?_
  refine o_pair hlt cx cl HQ J  hc (r0 := (P_X4_pairOn pg).1) rfl hP hD hS gL_waits_L_tryPair ⟨Nat.le_of_ble_eq_true rfl, Nat.le_of_ble_eq_true rfl⟩ hl (Nat.le_of_ble_eq_true rfl) dL_waits_582 ⟨Nat.le_of_ble_eq_true rfl, Nat.le_of_ble_eq_true rfl⟩ (fun x H locs J hP hD hS => ?_)
  have J : JNV x n tt ((P_X4_pairOn pg).2) (push ([]) pg) (some pg) k1 := J
  refine lv_iload hx hb dL_waits_585 (lv_at hl 0 rfl) ?_
  refine lv_icmp_ne (tgt := 603) hx hb dL_waits_587 (by decide) (fun c9 => absurd rfl c9) (fun c9 => ?_)
  refine lv_aload_n hx hb dL_waits_590 rfl (lv_at hl 3 rfl) ?_
  refine lv_iconst (v := 0) hx hb dL_waits_591 (by decide) ?_
  refine o_restore0 hlt cx cl HQ J  (q := pg) rfl (r0 := (pg 8)) rfl hP hD hS gL_waits_L_tryRestore ⟨Nat.le_of_ble_eq_true rfl, Nat.le_of_ble_eq_true rfl⟩ hl (Nat.le_of_ble_eq_true rfl) dL_waits_592 ⟨Nat.le_of_ble_eq_true rfl, Nat.le_of_ble_eq_true rfl⟩ (fun x H locs J hP hD hS => ?_)
  have J : JNV x n tt pg ([]) (some pg) k1 := J
  refine lv_iload_n hx hb dL_waits_595 rfl (lv_at hl 2 rfl) ?_
  refine lv_icmp_ne (tgt := 603) hx hb dL_waits_596 (by decide) (fun c9 => absurd rfl c9) (fun c9 => ?_)
  refine lv_iconst (v := 1) hx hb dL_waits_599 (by decide) ?_
  refine lv_goto (tgt := 604) hx hb dL_waits_600 (by decide) ?_
  refine lv_istore (lv' := [(4, .int 1), (16, .int ((P_X4_pairOn pg).1)), (2, .int (pg 8)), (0, .ref d.1)]) hx hb dL_waits_604 hl (by decide) rfl (fun ls hl => ?_)
  refine W.widen (k := 122) (n := 732) (Nat.le_of_ble_eq_true rfl) (Nat.le_of_ble_eq_true rfl) ?_
  exact wt_5 hlt cx cl HQ J hP hD hS (lv_sub hl [0, 3] rfl)

set_option maxRecDepth 100000 in
set_option maxHeartbeats 4000000 in
theorem wt_4a (hlt : l.stackTraces = false) (cx : Cx p s m args meth c cL_waits 17 RL wsL_waits (some .boolean) G A) (cl : CL s A b L xs) {d : AD} (HQ : PQd d) {x : XT}  (J : JNV x n tt pg ([]) (some pg) k1)  (hc : pg 11 = 0) {H : Heap} {locs : List Loc} {ls : Array Slot} (hP : va_P G.1 vwCl (wB G d x []) H) (hD : va_D A (wB G d x [])) (hS : va_S A s.heap H locs) (hl : lv_has ls 17 [(4, .int 1), (9, .int (pg 11)), (2, .int (pg 8)), (0, .ref d.1)])  : W p l e rmL_waits s m args below meth c H locs 28 168 (MQ below (qG G (fun x : XT => wB G d x []) (fun r x => r = 1 ∧ JNV x n tt pg [] (some pg) k1) A) args s 130 780 A) (F0 m 344 ls []) := by
  obtain ⟨hx, hb, hml, hown, hts, hr, hlocks, hK, hA⟩ := id cx
  have J0 := J
  have hpv1 := pv_press (pg := pg) (rv := 0) rfl J.pv
  refine lv_aload_n hx hb dL_waits_344 rfl (lv_at hl 3 rfl) ?_
  refine lv_iconst (v := 0) hx hb dL_waits_345 (by decide) ?_
  refine o_balanced hlt cx cl HQ J 0 (r0 := ((P_X4_balanceOn pg) 2)) (bl_0 J.sr hc) hP hD hS gL_waits_L_tryBalanced ⟨Nat.le_of_ble_eq_true rfl, Nat.le_of_ble_eq_true rfl⟩ hl (Nat.le_of_ble_eq_true rfl) dL_waits_346 ⟨Nat.le_of_ble_eq_true rfl, Nat.le_of_ble_eq_true rfl⟩ (fun x H locs J hP hD hS => ?_)
  have J : JNV x n tt pg ([]) (some pg) k1 := J
  refine lv_istore (lv' := [(10, .int ((P_X4_balanceOn pg) 2)), (4, .int 1), (9, .int (pg 11)), (2, .int (pg 8)), (0, .ref d.1)]) hx hb dL_waits_349 hl (by decide) rfl (fun ls hl => ?_)
  refine lv_aload_n hx hb dL_waits_351 rfl (lv_at hl 4 rfl) ?_
  refine lv_iconst (v := 1) hx hb dL_waits_352 (by decide) ?_
  refine o_balanced hlt cx cl HQ J 1 (r0 := (((P_X4_balanceOn pg) 13) - (pg 13))) (bl_1 J.sr hc) hP hD hS gL_waits_L_tryBalanced ⟨Nat.le_of_ble_eq_true rfl, Nat.le_of_ble_eq_true rfl⟩ hl (Nat.le_of_ble_eq_true rfl) dL_waits_353 ⟨Nat.le_of_ble_eq_true rfl, Nat.le_of_ble_eq_true rfl⟩ (fun x H locs J hP hD hS => ?_)
  have J : JNV x n tt pg ([]) (some pg) k1 := J
  refine lv_istore (lv' := [(11, .int (((P_X4_balanceOn pg) 13) - (pg 13))), (10, .int ((P_X4_balanceOn pg) 2)), (4, .int 1), (9, .int (pg 11)), (2, .int (pg 8)), (0, .ref d.1)]) hx hb dL_waits_356 hl (by decide) rfl (fun ls hl => ?_)
  refine lv_aload_n hx hb dL_waits_358 rfl (lv_at hl 5 rfl) ?_
  refine lv_iconst (v := 2) hx hb dL_waits_359 (by decide) ?_
  refine o_balanced hlt cx cl HQ J 2 (r0 := ((P_X4_balanceOn pg) 7)) (bl_2 J.sr hc) hP hD hS gL_waits_L_tryBalanced ⟨Nat.le_of_ble_eq_true rfl, Nat.le_of_ble_eq_true rfl⟩ hl (Nat.le_of_ble_eq_true rfl) dL_waits_360 ⟨Nat.le_of_ble_eq_true rfl, Nat.le_of_ble_eq_true rfl⟩ (fun x H locs J hP hD hS => ?_)
  have J : JNV x n tt pg ([]) (some pg) k1 := J
  refine lv_istore (lv' := [(12, .int ((P_X4_balanceOn pg) 7)), (11, .int (((P_X4_balanceOn pg) 13) - (pg 13))), (10, .int ((P_X4_balanceOn pg) 2)), (4, .int 1), (9, .int (pg 11)), (2, .int (pg 8)), (0, .ref d.1)]) hx hb dL_waits_363 hl (by decide) rfl (fun ls hl => ?_)
  refine lv_aload_n hx hb dL_waits_365 rfl (lv_at hl 6 rfl) ?_
  refine lv_iconst (v := 3) hx hb dL_waits_366 (by decide) ?_
  refine o_balanced hlt cx cl HQ J 3 (r0 := ((P_X4_balanceOn pg) 11)) (bl_3 J.sr hc) hP hD hS gL_waits_L_tryBalanced ⟨Nat.le_of_ble_eq_true rfl, Nat.le_of_ble_eq_true rfl⟩ hl (Nat.le_of_ble_eq_true rfl) dL_waits_367 ⟨Nat.le_of_ble_eq_true rfl, Nat.le_of_ble_eq_true rfl⟩ (fun x H locs J hP hD hS => ?_)
  have J : JNV x n tt pg ([]) (some pg) k1 := J
  refine lv_istore (lv' := [(13, .int ((P_X4_balanceOn pg) 11)), (12, .int ((P_X4_balanceOn pg) 7)), (11, .int (((P_X4_balanceOn pg) 13) - (pg 13))), (10, .int ((P_X4_balanceOn pg) 2)), (4, .int 1), (9, .int (pg 11)), (2, .int (pg 8)), (0, .ref d.1)]) hx hb dL_waits_370 hl (by decide) rfl (fun ls hl => ?_)
  refine lv_aload_n hx hb dL_waits_372 rfl (lv_at hl 7 rfl) ?_
  refine lv_bipush (v := 14) hx hb dL_waits_373 (by decide) ?_
  refine o_about hlt cx cl HQ J 14 (r0 := (pg 13)) (ab_hi (j := 13) (by decide) (by decide) (by decide) (by decide)) hP hD hS gL_waits_L_tryAbout ⟨Nat.le_of_ble_eq_true rfl, Nat.le_of_ble_eq_true rfl⟩ hl (Nat.le_of_ble_eq_true rfl) dL_waits_375 ⟨Nat.le_of_ble_eq_true rfl, Nat.le_of_ble_eq_true rfl⟩ (fun H locs hP hD hS => ?_)
  refine lv_istore (lv' := [(14, .int (pg 13)), (13, .int ((P_X4_balanceOn pg) 11)), (12, .int ((P_X4_balanceOn pg) 7)), (11, .int (((P_X4_balanceOn pg) 13) - (pg 13))), (10, .int ((P_X4_balanceOn pg) 2)), (4, .int 1), (9, .int (pg 11)), (2, .int (pg 8)), (0, .ref d.1)]) hx hb dL_waits_378 hl (by decide) rfl (fun ls hl => ?_)
  refine lv_iload hx hb dL_waits_380 (lv_at hl 6 rfl) ?_
  refine lv_if_ne (tgt := 606) hx hb dL_waits_382 (by decide) (fun c9 => absurd hc c9) (fun c9 => ?_)
  refine lv_iload hx hb dL_waits_385 (lv_at hl 5 rfl) ?_
  refine lv_if_eq (tgt := 606) hx hb dL_waits_387 (by decide) (fun c9 => absurd c9 (by decide)) (fun c9 => ?_)
  refine lv_aload_n hx hb dL_waits_390 rfl (lv_at hl 8 rfl) ?_
  refine o_balance hlt cx cl HQ J  hc (r0 := (P_X4_balanceOn pg 2)) rfl hP hD hS gL_waits_L_tryBalance ⟨Nat.le_of_ble_eq_true rfl, Nat.le_of_ble_eq_true rfl⟩ hl (Nat.le_of_ble_eq_true rfl) dL_waits_391 ⟨Nat.le_of_ble_eq_true rfl, Nat.le_of_ble_eq_true rfl⟩ (fun x H locs J hP hD hS => ?_)
  have J : JNV x n tt (P_X4_balanceOn pg) (push ([]) pg) (some pg) k1 := J
  refine lv_iload hx hb dL_waits_394 (lv_at hl 4 rfl) ?_
  refine lv_icmp_ne (tgt := 502) hx hb dL_waits_396 (by decide) (fun c9 => absurd rfl c9) (fun c9 => ?_)
  refine lv_aload_n hx hb dL_waits_399 rfl (lv_at hl 8 rfl) ?_
  refine lv_iconst (v := 2) hx hb dL_waits_400 (by decide) ?_
  refine o_about hlt cx cl HQ J 2 (r0 := ((P_X4_balanceOn pg) 2)) (ab_lo (j := 2) (by decide) (by decide) (by decide)) hP hD hS gL_waits_L_tryAbout ⟨Nat.le_of_ble_eq_true rfl, Nat.le_of_ble_eq_true rfl⟩ hl (Nat.le_of_ble_eq_true rfl) dL_waits_401 ⟨Nat.le_of_ble_eq_true rfl, Nat.le_of_ble_eq_true rfl⟩ (fun H locs hP hD hS => ?_)
  refine lv_iload hx hb dL_waits_404 (lv_at hl 4 rfl) ?_
  refine lv_icmp_ne (tgt := 502) hx hb dL_waits_406 (by decide) (fun c9 => absurd rfl c9) (fun c9 => ?_)
  refine lv_aload_n hx hb dL_waits_409 rfl (lv_at hl 8 rfl) ?_
  refine lv_bipush (v := 14) hx hb dL_waits_410 (by decide) ?_
  refine o_about hlt cx cl HQ J 14 (r0 := ((P_X4_balanceOn pg) 13)) (ab_hi (j := 13) (by decide) (by decide) (by decide) (by decide)) hP hD hS gL_waits_L_tryAbout ⟨Nat.le_of_ble_eq_true rfl, Nat.le_of_ble_eq_true rfl⟩ hl (Nat.le_of_ble_eq_true rfl) dL_waits_412 ⟨Nat.le_of_ble_eq_true rfl, Nat.le_of_ble_eq_true rfl⟩ (fun H locs hP hD hS => ?_)
  refine lv_iload hx hb dL_waits_415 (lv_at hl 0 rfl) ?_
  refine lv_iload hx hb dL_waits_417 (lv_at hl 3 rfl) ?_
  refine lv_iadd hx hb dL_waits_419 ?_
  refine lv_icmp_ne (tgt := 502) hx hb dL_waits_420 (by decide) (fun c9 => absurd (rg2 _ _) c9) (fun c9 => ?_)
  refine lv_aload_n hx hb dL_waits_423 rfl (lv_at hl 8 rfl) ?_
  refine lv_bipush (v := 7) hx hb dL_waits_424 (by decide) ?_
  refine o_about hlt cx cl HQ J 7 (r0 := ((P_X4_balanceOn pg) 7)) (ab_lo (j := 7) (by decide) (by decide) (by decide)) hP hD hS gL_waits_L_tryAbout ⟨Nat.le_of_ble_eq_true rfl, Nat.le_of_ble_eq_true rfl⟩ hl (Nat.le_of_ble_eq_true rfl) dL_waits_426 ⟨Nat.le_of_ble_eq_true rfl, Nat.le_of_ble_eq_true rfl⟩ (fun H locs hP hD hS => ?_)
  refine lv_iload hx hb dL_waits_429 (lv_at hl 2 rfl) ?_
  refine lv_icmp_ne (tgt := 502) hx hb dL_waits_431 (by decide) (fun c9 => absurd rfl c9) (fun c9 => ?_)
  refine lv_aload_n hx hb dL_waits_434 rfl (lv_at hl 8 rfl) ?_
  refine lv_bipush (v := 12) hx hb dL_waits_435 (by decide) ?_
  refine o_about hlt cx cl HQ J 12 (r0 := ((P_X4_balanceOn pg) 11)) (ab_hi (j := 11) (by decide) (by decide) (by decide) (by decide)) hP hD hS gL_waits_L_tryAbout ⟨Nat.le_of_ble_eq_true rfl, Nat.le_of_ble_eq_true rfl⟩ hl (Nat.le_of_ble_eq_true rfl) dL_waits_437 ⟨Nat.le_of_ble_eq_true rfl, Nat.le_of_ble_eq_true rfl⟩ (fun H locs hP hD hS => ?_)
  refine lv_iload hx hb dL_waits_440 (lv_at hl 1 rfl) ?_
  refine lv_icmp_ne (tgt := 502) hx hb dL_waits_442 (by decide) (fun c9 => absurd rfl c9) (fun c9 => ?_)
  refine lv_aload_n hx hb dL_waits_445 rfl (lv_at hl 8 rfl) ?_
  refine lv_bipush (v := 9) hx hb dL_waits_446 (by decide) ?_
  refine o_about hlt cx cl HQ J 9 (r0 := ((P_X4_balanceOn pg) 8)) (ab_hi (j := 8) (by decide) (by decide) (by decide) (by decide)) hP hD hS gL_waits_L_tryAbout ⟨Nat.le_of_ble_eq_true rfl, Nat.le_of_ble_eq_true rfl⟩ hl (Nat.le_of_ble_eq_true rfl) dL_waits_448 ⟨Nat.le_of_ble_eq_true rfl, Nat.le_of_ble_eq_true rfl⟩ (fun H locs hP hD hS => ?_)
  refine lv_iload_n hx hb dL_waits_451 rfl (lv_at hl 7 rfl) ?_
  refine lv_iload hx hb dL_waits_452 (lv_at hl 3 rfl) ?_
  refine lv_iadd hx hb dL_waits_454 ?_
  refine lv_icmp_ne (tgt := 502) hx hb dL_waits_455 (by decide) (fun c9 => absurd (bk_9 J0.pv hc) c9) (fun c9 => ?_)
  refine lv_iload hx hb dL_waits_458 (lv_at hl 1 rfl) ?_
  refine lv_iconst (v := 1) hx hb dL_waits_460 (by decide) ?_
  refine lv_icmp_eq (tgt := 471) hx hb dL_waits_461 (by decide) (fun c461 => ?_) (fun c461 => ?_)
  · refine lv_aload_n hx hb dL_waits_471 rfl (lv_at hl 8 rfl) ?_
    refine o_undo hlt cx cl HQ J  (hs0 := []) (q := pg) rfl (r0 := 0) rfl hP hD hS gL_waits_L_tryUndo ⟨Nat.le_of_ble_eq_true rfl, Nat.le_of_ble_eq_true rfl⟩ hl (Nat.le_of_ble_eq_true rfl) dL_waits_472 ⟨Nat.le_of_ble_eq_true rfl, Nat.le_of_ble_eq_true rfl⟩ (fun x H locs J hP hD hS => ?_)
    have J : JNV x n tt pg ([]) (some pg) k1 := J
    refine lv_if_ne (tgt := 502) hx hb dL_waits_475 (by decide) (fun c9 => absurd (by decide) c9) (fun c9 => ?_)
    refine lv_aload_n hx hb dL_waits_478 rfl (lv_at hl 8 rfl) ?_
    refine lv_bipush (v := 14) hx hb dL_waits_479 (by decide) ?_
    refine o_about hlt cx cl HQ J 14 (r0 := (pg 13)) (ab_hi (j := 13) (by decide) (by decide) (by decide) (by decide)) hP hD hS gL_waits_L_tryAbout ⟨Nat.le_of_ble_eq_true rfl, Nat.le_of_ble_eq_true rfl⟩ hl (Nat.le_of_ble_eq_true rfl) dL_waits_481 ⟨Nat.le_of_ble_eq_true rfl, Nat.le_of_ble_eq_true rfl⟩ (fun H locs hP hD hS => ?_)
    refine lv_iload hx hb dL_waits_484 (lv_at hl 0 rfl) ?_
    refine lv_icmp_ne (tgt := 502) hx hb dL_waits_486 (by decide) (fun c9 => absurd rfl c9) (fun c9 => ?_)
    refine lv_aload_n hx hb dL_waits_489 rfl (lv_at hl 8 rfl) ?_
    refine lv_iconst (v := 0) hx hb dL_waits_490 (by decide) ?_
    refine o_restore0 hlt cx cl HQ J  (q := pg) rfl (r0 := (pg 8)) rfl hP hD hS gL_waits_L_tryRestore ⟨Nat.le_of_ble_eq_true rfl, Nat.le_of_ble_eq_true rfl⟩ hl (Nat.le_of_ble_eq_true rfl) dL_waits_491 ⟨Nat.le_of_ble_eq_true rfl, Nat.le_of_ble_eq_true rfl⟩ (fun x H locs J hP hD hS => ?_)
    have J : JNV x n tt pg ([]) (some pg) k1 := J
    refine lv_iload_n hx hb dL_waits_494 rfl (lv_at hl 7 rfl) ?_
    refine lv_icmp_ne (tgt := 502) hx hb dL_waits_495 (by decide) (fun c9 => absurd rfl c9) (fun c9 => ?_)
    refine lv_iconst (v := 1) hx hb dL_waits_498 (by decide) ?_
    refine lv_goto (tgt := 503) hx hb dL_waits_499 (by decide) ?_
    refine lv_istore (lv' := [(4, .int 1), (14, .int (pg 13)), (13, .int ((P_X4_balanceOn pg) 11)), (12, .int ((P_X4_balanceOn pg) 7)), (11, .int (((P_X4_balanceOn pg) 13) - (pg 13))), (10, .int ((P_X4_balanceOn pg) 2)), (9, .int (pg 11)), (2, .int (pg 8)), (0, .ref d.1)]) hx hb dL_waits_503 hl (by decide) rfl (fun ls hl => ?_)
    refine lv_aload_n hx hb dL_waits_505 rfl (lv_at hl 8 rfl) ?_
    refine lv_iconst (v := 0) hx hb dL_waits_506 (by decide) ?_
    refine kc1 (n := 2) (As := [.ref d.1, .int 0]) cx cl (c_L_presses_f l hlt G b L xs d HQ n tt pg ([]) (some pg) k1 hc) J hP hD hS gL_waits_L_presses rfl rfl rfl (by decide +kernel) ⟨Nat.le_of_ble_eq_true rfl, Nat.le_of_ble_eq_true rfl⟩ rfl rfl hl (Nat.le_of_ble_eq_true rfl) dL_waits_507 ⟨Nat.le_of_ble_eq_true rfl, Nat.le_of_ble_eq_true rfl⟩ (fun r9 x H locs h9 hP hD hS => ?_)
    obtain ⟨h9, J⟩ : r9 = 1 ∧ JNV x n tt ((P_X4_pressOn pg 0).2) (push ([]) pg) (some pg) k1 := h9
    rw [h9]
    refine lv_if_eq (tgt := 522) hx hb dL_waits_510 (by decide) (fun c9 => absurd c9 (by decide)) (fun c9 => ?_)
    refine lv_aload_n hx hb dL_waits_513 rfl (lv_at hl 8 rfl) ?_
    refine lv_iconst (v := 0) hx hb dL_waits_514 (by decide) ?_
    refine lv_iconst (v := 0) hx hb dL_waits_515 (by decide) ?_
    refine o_told hlt cx cl HQ J 0 0 (r0 := (rd500 (P_X4_rawOf pg 0 (pg 4)))) (pk_t (j := 21) J0.pv (by decide) (by decide) pk_21) hP hD hS gL_waits_L_tryTold ⟨Nat.le_of_ble_eq_true rfl, Nat.le_of_ble_eq_true rfl⟩ hl (Nat.le_of_ble_eq_true rfl) dL_waits_516 ⟨Nat.le_of_ble_eq_true rfl, Nat.le_of_ble_eq_true rfl⟩ (fun H locs hP hD hS => ?_)
    refine lv_goto (tgt := 525) hx hb dL_waits_519 (by decide) ?_
    refine lv_istore (lv' := [(15, .int (rd500 (P_X4_rawOf pg 0 (pg 4)))), (4, .int 1), (14, .int (pg 13)), (13, .int ((P_X4_balanceOn pg) 11)), (12, .int ((P_X4_balanceOn pg) 7)), (11, .int (((P_X4_balanceOn pg) 13) - (pg 13))), (10, .int ((P_X4_balanceOn pg) 2)), (9, .int (pg 11)), (2, .int (pg 8)), (0, .ref d.1)]) hx hb dL_waits_525 hl (by decide) rfl (fun ls hl => ?_)
    refine lv_aload_n hx hb dL_waits_527 rfl (lv_at hl 9 rfl) ?_
    refine lv_bipush (v := 12) hx hb dL_waits_528 (by decide) ?_
    refine o_about hlt cx cl HQ J 12 (r0 := (ovr (P_X4_rawOf pg 0 (pg 4)))) ((ab_hi (j := 11) (by decide) (by decide) (by decide) (by decide)).trans (pk_11 hc)) hP hD hS gL_waits_L_tryAbout ⟨Nat.le_of_ble_eq_true rfl, Nat.le_of_ble_eq_true rfl⟩ hl (Nat.le_of_ble_eq_true rfl) dL_waits_530 ⟨Nat.le_of_ble_eq_true rfl, Nat.le_of_ble_eq_true rfl⟩ (fun H locs hP hD hS => ?_)
    refine lv_iconst (v := 1) hx hb dL_waits_533 (by decide) ?_
    refine lv_icmp_ne (tgt := 542) hx hb dL_waits_534 (by decide) (fun c534 => ?_) (fun c534 => ?_)
    · refine lv_iload hx hb dL_waits_542 (lv_at hl 0 rfl) ?_
      refine lv_aload_n hx hb dL_waits_544 rfl (lv_at hl 9 rfl) ?_
      refine lv_iconst (v := 1) hx hb dL_waits_545 (by decide) ?_
      refine kc1 (n := 2) (As := [.ref d.1, .int 1]) cx cl (c_L_presses_t l hlt G b L xs d HQ n tt ((P_X4_pressOn pg 0).2) (push ([]) pg) (some pg) k1 (pp_0 hc c534)) J hP hD hS gL_waits_L_presses rfl rfl rfl (by decide +kernel) ⟨Nat.le_of_ble_eq_true rfl, Nat.le_of_ble_eq_true rfl⟩ rfl rfl hl (Nat.le_of_ble_eq_true rfl) dL_waits_546 ⟨Nat.le_of_ble_eq_true rfl, Nat.le_of_ble_eq_true rfl⟩ (fun r9 x H locs h9 hP hD hS => ?_)
      obtain ⟨h9, J⟩ : r9 = 1 ∧ JNV x n tt ((P_X4_pressOn ((P_X4_pressOn pg 0).2) 1).2) (push (push ([]) pg) ((P_X4_pressOn pg 0).2)) (some pg) k1 := h9
      rw [h9]
      refine lv_if_eq (tgt := 561) hx hb dL_waits_549 (by decide) (fun c9 => absurd c9 (by decide)) (fun c9 => ?_)
      refine lv_aload_n hx hb dL_waits_552 rfl (lv_at hl 9 rfl) ?_
      refine lv_iconst (v := 0) hx hb dL_waits_553 (by decide) ?_
      refine lv_iconst (v := 0) hx hb dL_waits_554 (by decide) ?_
      refine o_told hlt cx cl HQ J 0 0 (r0 := (rd500 (P_X4_rawOf ((P_X4_pressOn pg 0).2) 1 (((P_X4_pressOn pg 0).2) 4)))) (pk_t (j := 21) hpv1 (by decide) (by decide) pk_21) hP hD hS gL_waits_L_tryTold ⟨Nat.le_of_ble_eq_true rfl, Nat.le_of_ble_eq_true rfl⟩ hl (Nat.le_of_ble_eq_true rfl) dL_waits_555 ⟨Nat.le_of_ble_eq_true rfl, Nat.le_of_ble_eq_true rfl⟩ (fun H locs hP hD hS => ?_)
      refine lv_goto (tgt := 564) hx hb dL_waits_558 (by decide) ?_
      refine lv_isub hx hb dL_waits_564 ?_
      refine k_top (v' := ((P_X4_pairOn pg).1)) (pp_2 hc c534) ?_
      refine W.widen (k := 116) (n := 696) (Nat.le_of_ble_eq_true rfl) (Nat.le_of_ble_eq_true rfl) ?_
      exact wt_4b hlt cx cl HQ J hc hP hD hS (lv_sub hl [1, 8, 9] rfl)
    · refine lv_iload hx hb dL_waits_537 (lv_at hl 0 rfl) ?_
      refine lv_goto (tgt := 565) hx hb dL_waits_539 (by decide) ?_
      refine k_top (v' := ((P_X4_pairOn pg).1)) (pp_1 hc c534) ?_
      refine W.widen (k := 116) (n := 696) (Nat.le_of_ble_eq_true rfl) (Nat.le_of_ble_eq_true rfl) ?_
      exact wt_4b hlt cx cl HQ J hc hP hD hS (lv_sub hl [1, 8, 9] rfl)
  · refine lv_iload hx hb dL_waits_464 (lv_at hl 3 rfl) ?_
    refine lv_iconst (v := 2) hx hb dL_waits_466 (by decide) ?_
    refine lv_irem hx hb dL_waits_467 (by decide) ?_
    refine lv_if_ne (tgt := 502) hx hb dL_waits_468 (by decide) (fun c9 => absurd (bk_2 J0.pv hc (bst_0 J0 hc c461)) c9) (fun c9 => ?_)
    refine lv_aload_n hx hb dL_waits_471 rfl (lv_at hl 8 rfl) ?_
    refine o_undo hlt cx cl HQ J  (hs0 := []) (q := pg) rfl (r0 := 0) rfl hP hD hS gL_waits_L_tryUndo ⟨Nat.le_of_ble_eq_true rfl, Nat.le_of_ble_eq_true rfl⟩ hl (Nat.le_of_ble_eq_true rfl) dL_waits_472 ⟨Nat.le_of_ble_eq_true rfl, Nat.le_of_ble_eq_true rfl⟩ (fun x H locs J hP hD hS => ?_)
    have J : JNV x n tt pg ([]) (some pg) k1 := J
    refine lv_if_ne (tgt := 502) hx hb dL_waits_475 (by decide) (fun c9 => absurd (by decide) c9) (fun c9 => ?_)
    refine lv_aload_n hx hb dL_waits_478 rfl (lv_at hl 8 rfl) ?_
    refine lv_bipush (v := 14) hx hb dL_waits_479 (by decide) ?_
    refine o_about hlt cx cl HQ J 14 (r0 := (pg 13)) (ab_hi (j := 13) (by decide) (by decide) (by decide) (by decide)) hP hD hS gL_waits_L_tryAbout ⟨Nat.le_of_ble_eq_true rfl, Nat.le_of_ble_eq_true rfl⟩ hl (Nat.le_of_ble_eq_true rfl) dL_waits_481 ⟨Nat.le_of_ble_eq_true rfl, Nat.le_of_ble_eq_true rfl⟩ (fun H locs hP hD hS => ?_)
    refine lv_iload hx hb dL_waits_484 (lv_at hl 0 rfl) ?_
    refine lv_icmp_ne (tgt := 502) hx hb dL_waits_486 (by decide) (fun c9 => absurd rfl c9) (fun c9 => ?_)
    refine lv_aload_n hx hb dL_waits_489 rfl (lv_at hl 8 rfl) ?_
    refine lv_iconst (v := 0) hx hb dL_waits_490 (by decide) ?_
    refine o_restore0 hlt cx cl HQ J  (q := pg) rfl (r0 := (pg 8)) rfl hP hD hS gL_waits_L_tryRestore ⟨Nat.le_of_ble_eq_true rfl, Nat.le_of_ble_eq_true rfl⟩ hl (Nat.le_of_ble_eq_true rfl) dL_waits_491 ⟨Nat.le_of_ble_eq_true rfl, Nat.le_of_ble_eq_true rfl⟩ (fun x H locs J hP hD hS => ?_)
    have J : JNV x n tt pg ([]) (some pg) k1 := J
    refine lv_iload_n hx hb dL_waits_494 rfl (lv_at hl 7 rfl) ?_
    refine lv_icmp_ne (tgt := 502) hx hb dL_waits_495 (by decide) (fun c9 => absurd rfl c9) (fun c9 => ?_)
    refine lv_iconst (v := 1) hx hb dL_waits_498 (by decide) ?_
    refine lv_goto (tgt := 503) hx hb dL_waits_499 (by decide) ?_
    refine lv_istore (lv' := [(4, .int 1), (14, .int (pg 13)), (13, .int ((P_X4_balanceOn pg) 11)), (12, .int ((P_X4_balanceOn pg) 7)), (11, .int (((P_X4_balanceOn pg) 13) - (pg 13))), (10, .int ((P_X4_balanceOn pg) 2)), (9, .int (pg 11)), (2, .int (pg 8)), (0, .ref d.1)]) hx hb dL_waits_503 hl (by decide) rfl (fun ls hl => ?_)
    refine lv_aload_n hx hb dL_waits_505 rfl (lv_at hl 8 rfl) ?_
    refine lv_iconst (v := 0) hx hb dL_waits_506 (by decide) ?_
    refine kc1 (n := 2) (As := [.ref d.1, .int 0]) cx cl (c_L_presses_f l hlt G b L xs d HQ n tt pg ([]) (some pg) k1 hc) J hP hD hS gL_waits_L_presses rfl rfl rfl (by decide +kernel) ⟨Nat.le_of_ble_eq_true rfl, Nat.le_of_ble_eq_true rfl⟩ rfl rfl hl (Nat.le_of_ble_eq_true rfl) dL_waits_507 ⟨Nat.le_of_ble_eq_true rfl, Nat.le_of_ble_eq_true rfl⟩ (fun r9 x H locs h9 hP hD hS => ?_)
    obtain ⟨h9, J⟩ : r9 = 1 ∧ JNV x n tt ((P_X4_pressOn pg 0).2) (push ([]) pg) (some pg) k1 := h9
    rw [h9]
    refine lv_if_eq (tgt := 522) hx hb dL_waits_510 (by decide) (fun c9 => absurd c9 (by decide)) (fun c9 => ?_)
    refine lv_aload_n hx hb dL_waits_513 rfl (lv_at hl 8 rfl) ?_
    refine lv_iconst (v := 0) hx hb dL_waits_514 (by decide) ?_
    refine lv_iconst (v := 0) hx hb dL_waits_515 (by decide) ?_
    refine o_told hlt cx cl HQ J 0 0 (r0 := (rd500 (P_X4_rawOf pg 0 (pg 4)))) (pk_t (j := 21) J0.pv (by decide) (by decide) pk_21) hP hD hS gL_waits_L_tryTold ⟨Nat.le_of_ble_eq_true rfl, Nat.le_of_ble_eq_true rfl⟩ hl (Nat.le_of_ble_eq_true rfl) dL_waits_516 ⟨Nat.le_of_ble_eq_true rfl, Nat.le_of_ble_eq_true rfl⟩ (fun H locs hP hD hS => ?_)
    refine lv_goto (tgt := 525) hx hb dL_waits_519 (by decide) ?_
    refine lv_istore (lv' := [(15, .int (rd500 (P_X4_rawOf pg 0 (pg 4)))), (4, .int 1), (14, .int (pg 13)), (13, .int ((P_X4_balanceOn pg) 11)), (12, .int ((P_X4_balanceOn pg) 7)), (11, .int (((P_X4_balanceOn pg) 13) - (pg 13))), (10, .int ((P_X4_balanceOn pg) 2)), (9, .int (pg 11)), (2, .int (pg 8)), (0, .ref d.1)]) hx hb dL_waits_525 hl (by decide) rfl (fun ls hl => ?_)
    refine lv_aload_n hx hb dL_waits_527 rfl (lv_at hl 9 rfl) ?_
    refine lv_bipush (v := 12) hx hb dL_waits_528 (by decide) ?_
    refine o_about hlt cx cl HQ J 12 (r0 := (ovr (P_X4_rawOf pg 0 (pg 4)))) ((ab_hi (j := 11) (by decide) (by decide) (by decide) (by decide)).trans (pk_11 hc)) hP hD hS gL_waits_L_tryAbout ⟨Nat.le_of_ble_eq_true rfl, Nat.le_of_ble_eq_true rfl⟩ hl (Nat.le_of_ble_eq_true rfl) dL_waits_530 ⟨Nat.le_of_ble_eq_true rfl, Nat.le_of_ble_eq_true rfl⟩ (fun H locs hP hD hS => ?_)
    refine lv_iconst (v := 1) hx hb dL_waits_533 (by decide) ?_
    refine lv_icmp_ne (tgt := 542) hx hb dL_waits_534 (by decide) (fun c534 => ?_) (fun c534 => ?_)
    · refine lv_iload hx hb dL_waits_542 (lv_at hl 0 rfl) ?_
      refine lv_aload_n hx hb dL_waits_544 rfl (lv_at hl 9 rfl) ?_
      refine lv_iconst (v := 1) hx hb dL_waits_545 (by decide) ?_
      refine kc1 (n := 2) (As := [.ref d.1, .int 1]) cx cl (c_L_presses_t l hlt G b L xs d HQ n tt ((P_X4_pressOn pg 0).2) (push ([]) pg) (some pg) k1 (pp_0 hc c534)) J hP hD hS gL_waits_L_presses rfl rfl rfl (by decide +kernel) ⟨Nat.le_of_ble_eq_true rfl, Nat.le_of_ble_eq_true rfl⟩ rfl rfl hl (Nat.le_of_ble_eq_true rfl) dL_waits_546 ⟨Nat.le_of_ble_eq_true rfl, Nat.le_of_ble_eq_true rfl⟩ (fun r9 x H locs h9 hP hD hS => ?_)
      obtain ⟨h9, J⟩ : r9 = 1 ∧ JNV x n tt ((P_X4_pressOn ((P_X4_pressOn pg 0).2) 1).2) (push (push ([]) pg) ((P_X4_pressOn pg 0).2)) (some pg) k1 := h9
      rw [h9]
      refine lv_if_eq (tgt := 561) hx hb dL_waits_549 (by decide) (fun c9 => absurd c9 (by decide)) (fun c9 => ?_)
      refine lv_aload_n hx hb dL_waits_552 rfl (lv_at hl 9 rfl) ?_
      refine lv_iconst (v := 0) hx hb dL_waits_553 (by decide) ?_
      refine lv_iconst (v := 0) hx hb dL_waits_554 (by decide) ?_
      refine o_told hlt cx cl HQ J 0 0 (r0 := (rd500 (P_X4_rawOf ((P_X4_pressOn pg 0).2) 1 (((P_X4_pressOn pg 0).2) 4)))) (pk_t (j := 21) hpv1 (by decide) (by decide) pk_21) hP hD hS gL_waits_L_tryTold ⟨Nat.le_of_ble_eq_true rfl, Nat.le_of_ble_eq_true rfl⟩ hl (Nat.le_of_ble_eq_true rfl) dL_waits_555 ⟨Nat.le_of_ble_eq_true rfl, Nat.le_of_ble_eq_true rfl⟩ (fun H locs hP hD hS => ?_)
      refine lv_goto (tgt := 564) hx hb dL_waits_558 (by decide) ?_
      refine lv_isub hx hb dL_waits_564 ?_
      refine k_top (v' := ((P_X4_pairOn pg).1)) (pp_2 hc c534) ?_
      refine W.widen (k := 116) (n := 696) (Nat.le_of_ble_eq_true rfl) (Nat.le_of_ble_eq_true rfl) ?_
      exact wt_4b hlt cx cl HQ J hc hP hD hS (lv_sub hl [1, 8, 9] rfl)
    · refine lv_iload hx hb dL_waits_537 (lv_at hl 0 rfl) ?_
      refine lv_goto (tgt := 565) hx hb dL_waits_539 (by decide) ?_
      refine k_top (v' := ((P_X4_pairOn pg).1)) (pp_1 hc c534) ?_
      refine W.widen (k := 116) (n := 696) (Nat.le_of_ble_eq_true rfl) (Nat.le_of_ble_eq_true rfl) ?_
      exact wt_4b hlt cx cl HQ J hc hP hD hS (lv_sub hl [1, 8, 9] rfl)

set_option maxRecDepth 100000 in
set_option maxHeartbeats 4000000 in
theorem wt_4s (hlt : l.stackTraces = false) (cx : Cx p s m args meth c cL_waits 17 RL wsL_waits (some .boolean) G A) (cl : CL s A b L xs) {d : AD} (HQ : PQd d) {x : XT}  (J : JNV x n tt pg ([]) (some pg) k1)  (hc : pg 11 = 1) {H : Heap} {locs : List Loc} {ls : Array Slot} (hP : va_P G.1 vwCl (wB G d x []) H) (hD : va_D A (wB G d x [])) (hS : va_S A s.heap H locs) (hl : lv_has ls 17 [(4, .int 1), (9, .int (pg 11)), (2, .int (pg 8)), (0, .ref d.1)])  : W p l e rmL_waits s m args below meth c H locs 28 168 (MQ below (qG G (fun x : XT => wB G d x []) (fun r x => r = 1 ∧ JNV x n tt pg [] (some pg) k1) A) args s 130 780 A) (F0 m 344 ls []) := by
  obtain ⟨hx, hb, hml, hown, hts, hr, hlocks, hK, hA⟩ := id cx
  refine lv_aload_n hx hb dL_waits_344 rfl (lv_at hl 3 rfl) ?_
  refine lv_iconst (v := 0) hx hb dL_waits_345 (by decide) ?_
  refine o_balanced hlt cx cl HQ J 0 (r0 := (aQ 1 ((P_X4_balanced z0 pg z0 0).1, (P_X4_balanced z0 pg z0 0).2.1))) rfl hP hD hS gL_waits_L_tryBalanced ⟨Nat.le_of_ble_eq_true rfl, Nat.le_of_ble_eq_true rfl⟩ hl (Nat.le_of_ble_eq_true rfl) dL_waits_346 ⟨Nat.le_of_ble_eq_true rfl, Nat.le_of_ble_eq_true rfl⟩ (fun x H locs J hP hD hS => ?_)
  have J : JNV x n tt pg ([]) (some pg) k1 := J
  refine lv_istore (lv' := [(10, .int (aQ 1 ((P_X4_balanced z0 pg z0 0).1, (P_X4_balanced z0 pg z0 0).2.1))), (4, .int 1), (9, .int (pg 11)), (2, .int (pg 8)), (0, .ref d.1)]) hx hb dL_waits_349 hl (by decide) rfl (fun ls hl => ?_)
  refine lv_aload_n hx hb dL_waits_351 rfl (lv_at hl 4 rfl) ?_
  refine lv_iconst (v := 1) hx hb dL_waits_352 (by decide) ?_
  refine o_balanced hlt cx cl HQ J 1 (r0 := (aQ 1 ((P_X4_balanced z0 pg z0 1).1, (P_X4_balanced z0 pg z0 1).2.1))) rfl hP hD hS gL_waits_L_tryBalanced ⟨Nat.le_of_ble_eq_true rfl, Nat.le_of_ble_eq_true rfl⟩ hl (Nat.le_of_ble_eq_true rfl) dL_waits_353 ⟨Nat.le_of_ble_eq_true rfl, Nat.le_of_ble_eq_true rfl⟩ (fun x H locs J hP hD hS => ?_)
  have J : JNV x n tt pg ([]) (some pg) k1 := J
  refine lv_istore (lv' := [(11, .int (aQ 1 ((P_X4_balanced z0 pg z0 1).1, (P_X4_balanced z0 pg z0 1).2.1))), (10, .int (aQ 1 ((P_X4_balanced z0 pg z0 0).1, (P_X4_balanced z0 pg z0 0).2.1))), (4, .int 1), (9, .int (pg 11)), (2, .int (pg 8)), (0, .ref d.1)]) hx hb dL_waits_356 hl (by decide) rfl (fun ls hl => ?_)
  refine lv_aload_n hx hb dL_waits_358 rfl (lv_at hl 5 rfl) ?_
  refine lv_iconst (v := 2) hx hb dL_waits_359 (by decide) ?_
  refine o_balanced hlt cx cl HQ J 2 (r0 := (aQ 1 ((P_X4_balanced z0 pg z0 2).1, (P_X4_balanced z0 pg z0 2).2.1))) rfl hP hD hS gL_waits_L_tryBalanced ⟨Nat.le_of_ble_eq_true rfl, Nat.le_of_ble_eq_true rfl⟩ hl (Nat.le_of_ble_eq_true rfl) dL_waits_360 ⟨Nat.le_of_ble_eq_true rfl, Nat.le_of_ble_eq_true rfl⟩ (fun x H locs J hP hD hS => ?_)
  have J : JNV x n tt pg ([]) (some pg) k1 := J
  refine lv_istore (lv' := [(12, .int (aQ 1 ((P_X4_balanced z0 pg z0 2).1, (P_X4_balanced z0 pg z0 2).2.1))), (11, .int (aQ 1 ((P_X4_balanced z0 pg z0 1).1, (P_X4_balanced z0 pg z0 1).2.1))), (10, .int (aQ 1 ((P_X4_balanced z0 pg z0 0).1, (P_X4_balanced z0 pg z0 0).2.1))), (4, .int 1), (9, .int (pg 11)), (2, .int (pg 8)), (0, .ref d.1)]) hx hb dL_waits_363 hl (by decide) rfl (fun ls hl => ?_)
  refine lv_aload_n hx hb dL_waits_365 rfl (lv_at hl 6 rfl) ?_
  refine lv_iconst (v := 3) hx hb dL_waits_366 (by decide) ?_
  refine o_balanced hlt cx cl HQ J 3 (r0 := (aQ 1 ((P_X4_balanced z0 pg z0 3).1, (P_X4_balanced z0 pg z0 3).2.1))) rfl hP hD hS gL_waits_L_tryBalanced ⟨Nat.le_of_ble_eq_true rfl, Nat.le_of_ble_eq_true rfl⟩ hl (Nat.le_of_ble_eq_true rfl) dL_waits_367 ⟨Nat.le_of_ble_eq_true rfl, Nat.le_of_ble_eq_true rfl⟩ (fun x H locs J hP hD hS => ?_)
  have J : JNV x n tt pg ([]) (some pg) k1 := J
  refine lv_istore (lv' := [(13, .int (aQ 1 ((P_X4_balanced z0 pg z0 3).1, (P_X4_balanced z0 pg z0 3).2.1))), (12, .int (aQ 1 ((P_X4_balanced z0 pg z0 2).1, (P_X4_balanced z0 pg z0 2).2.1))), (11, .int (aQ 1 ((P_X4_balanced z0 pg z0 1).1, (P_X4_balanced z0 pg z0 1).2.1))), (10, .int (aQ 1 ((P_X4_balanced z0 pg z0 0).1, (P_X4_balanced z0 pg z0 0).2.1))), (4, .int 1), (9, .int (pg 11)), (2, .int (pg 8)), (0, .ref d.1)]) hx hb dL_waits_370 hl (by decide) rfl (fun ls hl => ?_)
  refine lv_aload_n hx hb dL_waits_372 rfl (lv_at hl 7 rfl) ?_
  refine lv_bipush (v := 14) hx hb dL_waits_373 (by decide) ?_
  refine o_about hlt cx cl HQ J 14 (r0 := (pg 13)) (ab_hi (j := 13) (by decide) (by decide) (by decide) (by decide)) hP hD hS gL_waits_L_tryAbout ⟨Nat.le_of_ble_eq_true rfl, Nat.le_of_ble_eq_true rfl⟩ hl (Nat.le_of_ble_eq_true rfl) dL_waits_375 ⟨Nat.le_of_ble_eq_true rfl, Nat.le_of_ble_eq_true rfl⟩ (fun H locs hP hD hS => ?_)
  refine lv_istore (lv' := [(14, .int (pg 13)), (13, .int (aQ 1 ((P_X4_balanced z0 pg z0 3).1, (P_X4_balanced z0 pg z0 3).2.1))), (12, .int (aQ 1 ((P_X4_balanced z0 pg z0 2).1, (P_X4_balanced z0 pg z0 2).2.1))), (11, .int (aQ 1 ((P_X4_balanced z0 pg z0 1).1, (P_X4_balanced z0 pg z0 1).2.1))), (10, .int (aQ 1 ((P_X4_balanced z0 pg z0 0).1, (P_X4_balanced z0 pg z0 0).2.1))), (4, .int 1), (9, .int (pg 11)), (2, .int (pg 8)), (0, .ref d.1)]) hx hb dL_waits_378 hl (by decide) rfl (fun ls hl => ?_)
  refine lv_iload hx hb dL_waits_380 (lv_at hl 6 rfl) ?_
  refine lv_if_ne (tgt := 606) hx hb dL_waits_382 (by decide) (fun c9 => ?_) (fun c9 => absurd c9 (by rw [hc]; decide))
  refine W.widen (k := 122) (n := 732) (Nat.le_of_ble_eq_true rfl) (Nat.le_of_ble_eq_true rfl) ?_
  exact wt_5 hlt cx cl HQ J hP hD hS (lv_sub hl [5, 8] rfl)

set_option maxRecDepth 100000 in
set_option maxHeartbeats 4000000 in
theorem wt_3 (hlt : l.stackTraces = false) (cx : Cx p s m args meth c cL_waits 17 RL wsL_waits (some .boolean) G A) (cl : CL s A b L xs) {d : AD} (HQ : PQd d) {x : XT}  (J : JNV x n tt pg ([]) (some pg) k1)   {H : Heap} {locs : List Loc} {ls : Array Slot} (hP : va_P G.1 vwCl (wB G d x []) H) (hD : va_D A (wB G d x [])) (hS : va_S A s.heap H locs) (hl : lv_has ls 17 [(4, .int 1), (2, .int (pg 8)), (0, .ref d.1)])  : W p l e rmL_waits s m args below meth c H locs 22 132 (MQ below (qG G (fun x : XT => wB G d x []) (fun r x => r = 1 ∧ JNV x n tt pg [] (some pg) k1) A) args s 130 780 A) (F0 m 285 ls []) := by
  obtain ⟨hx, hb, hml, hown, hts, hr, hlocks, hK, hA⟩ := id cx
  refine lv_aload_n hx hb dL_waits_285 rfl (lv_at hl 2 rfl) ?_
  refine lv_bipush (v := 12) hx hb dL_waits_286 (by decide) ?_
  refine o_about hlt cx cl HQ J 12 (r0 := (pg 11)) (ab_hi (j := 11) (by decide) (by decide) (by decide) (by decide)) hP hD hS gL_waits_L_tryAbout ⟨Nat.le_of_ble_eq_true rfl, Nat.le_of_ble_eq_true rfl⟩ hl (Nat.le_of_ble_eq_true rfl) dL_waits_288 ⟨Nat.le_of_ble_eq_true rfl, Nat.le_of_ble_eq_true rfl⟩ (fun H locs hP hD hS => ?_)
  refine lv_istore (lv' := [(9, .int (pg 11)), (4, .int 1), (2, .int (pg 8)), (0, .ref d.1)]) hx hb dL_waits_291 hl (by decide) rfl (fun ls hl => ?_)
  refine lv_iload hx hb dL_waits_293 (lv_at hl 1 rfl) ?_
  refine lv_if_eq (tgt := 341) hx hb dL_waits_295 (by decide) (fun c9 => absurd c9 (by decide)) (fun c9 => ?_)
  refine lv_aload_n hx hb dL_waits_298 rfl (lv_at hl 3 rfl) ?_
  refine o_free hlt cx cl HQ J   (r0 := (pg 11)) rfl hP hD hS gL_waits_X3_free ⟨Nat.le_of_ble_eq_true rfl, Nat.le_of_ble_eq_true rfl⟩ hl (Nat.le_of_ble_eq_true rfl) dL_waits_299 ⟨Nat.le_of_ble_eq_true rfl, Nat.le_of_ble_eq_true rfl⟩ (fun x H locs J hP hD hS => ?_)
  have J : JNV x n tt (P_X4_freeOn pg) (push ([]) pg) (some pg) k1 := J
  refine lv_iload hx hb dL_waits_302 (lv_at hl 0 rfl) ?_
  refine lv_icmp_ne (tgt := 341) hx hb dL_waits_304 (by decide) (fun c9 => absurd rfl c9) (fun c9 => ?_)
  refine lv_aload_n hx hb dL_waits_307 rfl (lv_at hl 3 rfl) ?_
  refine lv_bipush (v := 12) hx hb dL_waits_308 (by decide) ?_
  refine o_about hlt cx cl HQ J 12 (r0 := 0) ((ab_hi (j := 11) (by decide) (by decide) (by decide) (by decide)).trans fr_11) hP hD hS gL_waits_L_tryAbout ⟨Nat.le_of_ble_eq_true rfl, Nat.le_of_ble_eq_true rfl⟩ hl (Nat.le_of_ble_eq_true rfl) dL_waits_310 ⟨Nat.le_of_ble_eq_true rfl, Nat.le_of_ble_eq_true rfl⟩ (fun H locs hP hD hS => ?_)
  refine lv_if_ne (tgt := 341) hx hb dL_waits_313 (by decide) (fun c9 => absurd (by decide) c9) (fun c9 => ?_)
  refine lv_aload_n hx hb dL_waits_316 rfl (lv_at hl 3 rfl) ?_
  refine lv_bipush (v := 9) hx hb dL_waits_317 (by decide) ?_
  refine o_about hlt cx cl HQ J 9 (r0 := ((pg 8) + 5)) ((ab_hi (j := 8) (by decide) (by decide) (by decide) (by decide)).trans fr_8) hP hD hS gL_waits_L_tryAbout ⟨Nat.le_of_ble_eq_true rfl, Nat.le_of_ble_eq_true rfl⟩ hl (Nat.le_of_ble_eq_true rfl) dL_waits_319 ⟨Nat.le_of_ble_eq_true rfl, Nat.le_of_ble_eq_true rfl⟩ (fun H locs hP hD hS => ?_)
  refine lv_iload_n hx hb dL_waits_322 rfl (lv_at hl 2 rfl) ?_
  refine lv_iconst (v := 5) hx hb dL_waits_323 (by decide) ?_
  refine lv_iadd hx hb dL_waits_324 ?_
  refine lv_icmp_ne (tgt := 341) hx hb dL_waits_325 (by decide) (fun c9 => absurd rfl c9) (fun c9 => ?_)
  refine lv_aload_n hx hb dL_waits_328 rfl (lv_at hl 3 rfl) ?_
  refine lv_iconst (v := 0) hx hb dL_waits_329 (by decide) ?_
  refine o_restore0 hlt cx cl HQ J  (q := pg) rfl (r0 := (pg 8)) rfl hP hD hS gL_waits_L_tryRestore ⟨Nat.le_of_ble_eq_true rfl, Nat.le_of_ble_eq_true rfl⟩ hl (Nat.le_of_ble_eq_true rfl) dL_waits_330 ⟨Nat.le_of_ble_eq_true rfl, Nat.le_of_ble_eq_true rfl⟩ (fun x H locs J hP hD hS => ?_)
  have J : JNV x n tt pg ([]) (some pg) k1 := J
  refine lv_iload_n hx hb dL_waits_333 rfl (lv_at hl 2 rfl) ?_
  refine lv_icmp_ne (tgt := 341) hx hb dL_waits_334 (by decide) (fun c9 => absurd rfl c9) (fun c9 => ?_)
  refine lv_iconst (v := 1) hx hb dL_waits_337 (by decide) ?_
  refine lv_goto (tgt := 342) hx hb dL_waits_338 (by decide) ?_
  refine lv_istore (lv' := [(4, .int 1), (9, .int (pg 11)), (2, .int (pg 8)), (0, .ref d.1)]) hx hb dL_waits_342 hl (by decide) rfl (fun ls hl => ?_)
  refine W.widen (k := 28) (n := 168) (Nat.le_of_ble_eq_true rfl) (Nat.le_of_ble_eq_true rfl) ?_
  rcases J.st with hc | hc
  · exact wt_4a hlt cx cl HQ J hc hP hD hS (lv_sub hl [0, 1, 2, 3] rfl)
  · exact wt_4s hlt cx cl HQ J hc hP hD hS (lv_sub hl [0, 1, 2, 3] rfl)

set_option maxRecDepth 100000 in
set_option maxHeartbeats 4000000 in
theorem wt_2a (hlt : l.stackTraces = false) (cx : Cx p s m args meth c cL_waits 17 RL wsL_waits (some .boolean) G A) (cl : CL s A b L xs) {d : AD} (HQ : PQd d) {x : XT} {wish : Int32} (J : JNV x n tt pg ([]) (some pg) k1)  (h0 : ∀ k : Nat, k ≤ 200 → ¬ oV pg (clN k (pg 7)) ≤ wish) {H : Heap} {locs : List Loc} {ls : Array Slot} (hP : va_P G.1 vwCl (wB G d x []) H) (hD : va_D A (wB G d x [])) (hS : va_S A s.heap H locs) (hl : lv_has ls 17 [(8, .int (-9999)), (7, .int wish), (4, .int 1), (2, .int (pg 8)), (0, .ref d.1)])  : W p l e rmL_waits s m args below meth c H locs 15 90 (MQ below (qG G (fun x : XT => wB G d x []) (fun r x => r = 1 ∧ JNV x n tt pg [] (some pg) k1) A) args s 130 780 A) (F0 m 183 ls []) := by
  obtain ⟨hx, hb, hml, hown, hts, hr, hlocks, hK, hA⟩ := id cx
  refine lv_iload hx hb dL_waits_183 (lv_at hl 2 rfl) ?_
  refine lv_if_eq (tgt := 282) hx hb dL_waits_185 (by decide) (fun c9 => absurd c9 (by decide)) (fun c9 => ?_)
  refine lv_iload hx hb dL_waits_188 (lv_at hl 0 rfl) ?_
  refine lv_if_ne (tgt := 197) hx hb dL_waits_190 (by decide) (fun c9 => ?_) (fun c9 => absurd c9 (by decide))
  refine lv_iconst (v := 0) hx hb dL_waits_197 (by decide) ?_
  refine lv_aload_n hx hb dL_waits_198 rfl (lv_at hl 4 rfl) ?_
  refine lv_bipush (v := 8) hx hb dL_waits_199 (by decide) ?_
  refine o_about hlt cx cl HQ J 8 (r0 := (P_X4_offsetOf pg)) ab_8 hP hD hS gL_waits_L_tryAbout ⟨Nat.le_of_ble_eq_true rfl, Nat.le_of_ble_eq_true rfl⟩ hl (Nat.le_of_ble_eq_true rfl) dL_waits_201 ⟨Nat.le_of_ble_eq_true rfl, Nat.le_of_ble_eq_true rfl⟩ (fun H locs hP hD hS => ?_)
  refine lv_iload hx hb dL_waits_204 (lv_at hl 1 rfl) ?_
  refine lv_icmp_gt (tgt := 213) hx hb dL_waits_206 (by decide) (fun c9 => ?_) (fun c9 => absurd (nle (h0 0 (by decide))) c9)
  refine lv_iconst (v := 0) hx hb dL_waits_213 (by decide) ?_
  refine lv_icmp_ne (tgt := 282) hx hb dL_waits_214 (by decide) (fun c9 => absurd (by decide) c9) (fun c9 => ?_)
  refine lv_iload hx hb dL_waits_217 (lv_at hl 0 rfl) ?_
  refine lv_sipush (v := (-9999)) hx hb dL_waits_219 (by decide) ?_
  refine lv_icmp_eq (tgt := 237) hx hb dL_waits_222 (by decide) (fun c9 => ?_) (fun c9 => absurd (by decide) c9)
  refine lv_iload hx hb dL_waits_237 (lv_at hl 0 rfl) ?_
  refine lv_iconst (v := 1) hx hb dL_waits_239 (by decide) ?_
  refine lv_icmp_lt (tgt := 257) hx hb dL_waits_240 (by decide) (fun c9 => ?_) (fun c9 => absurd (by decide) c9)
  refine lv_iload hx hb dL_waits_257 (lv_at hl 0 rfl) ?_
  refine lv_sipush (v := (-9999)) hx hb dL_waits_259 (by decide) ?_
  refine lv_icmp_ne (tgt := 278) hx hb dL_waits_262 (by decide) (fun c9 => absurd (by decide) c9) (fun c9 => ?_)
  refine lv_aload_n hx hb dL_waits_265 rfl (lv_at hl 4 rfl) ?_
  refine lv_iconst (v := 0) hx hb dL_waits_266 (by decide) ?_
  refine lv_sipush (v := 200) hx hb dL_waits_267 (by decide) ?_
  refine o_offsetAfter hlt cx cl HQ J 0 200 (r0 := (P_X4_offsetOf (P_X4_waitOn pg 200))) (oA_w (by decide)) hP hD hS gL_waits_L_tryOffsetAfter ⟨Nat.le_of_ble_eq_true rfl, Nat.le_of_ble_eq_true rfl⟩ hl (Nat.le_of_ble_eq_true rfl) dL_waits_270 ⟨Nat.le_of_ble_eq_true rfl, Nat.le_of_ble_eq_true rfl⟩ (fun H locs hP hD hS => ?_)
  refine lv_iload hx hb dL_waits_273 (lv_at hl 1 rfl) ?_
  refine lv_icmp_le (tgt := 282) hx hb dL_waits_275 (by decide) (fun c9 => absurd c9 (fun q => h0 200 (Nat.le_refl _) (by rw [oV_w (by decide)] at q; exact q))) (fun c9 => ?_)
  refine lv_iconst (v := 1) hx hb dL_waits_278 (by decide) ?_
  refine lv_goto (tgt := 283) hx hb dL_waits_279 (by decide) ?_
  refine lv_istore (lv' := [(4, .int 1), (8, .int (-9999)), (7, .int wish), (2, .int (pg 8)), (0, .ref d.1)]) hx hb dL_waits_283 hl (by decide) rfl (fun ls hl => ?_)
  refine W.widen (k := 22) (n := 132) (Nat.le_of_ble_eq_true rfl) (Nat.le_of_ble_eq_true rfl) ?_
  exact wt_3 hlt cx cl HQ J hP hD hS (lv_sub hl [0, 3, 4] rfl)

set_option maxRecDepth 100000 in
set_option maxHeartbeats 4000000 in
theorem wt_2b (hlt : l.stackTraces = false) (cx : Cx p s m args meth c cL_waits 17 RL wsL_waits (some .boolean) G A) (cl : CL s A b L xs) {d : AD} (HQ : PQd d) {x : XT} {wish : Int32} (J : JNV x n tt pg ([]) (some pg) k1)  (h0 : oV pg (clN 0 (pg 7)) ≤ wish) {H : Heap} {locs : List Loc} {ls : Array Slot} (hP : va_P G.1 vwCl (wB G d x []) H) (hD : va_D A (wB G d x [])) (hS : va_S A s.heap H locs) (hl : lv_has ls 17 [(8, .int 0), (7, .int wish), (4, .int 1), (2, .int (pg 8)), (0, .ref d.1)])  : W p l e rmL_waits s m args below meth c H locs 15 90 (MQ below (qG G (fun x : XT => wB G d x []) (fun r x => r = 1 ∧ JNV x n tt pg [] (some pg) k1) A) args s 130 780 A) (F0 m 183 ls []) := by
  obtain ⟨hx, hb, hml, hown, hts, hr, hlocks, hK, hA⟩ := id cx
  refine lv_iload hx hb dL_waits_183 (lv_at hl 2 rfl) ?_
  refine lv_if_eq (tgt := 282) hx hb dL_waits_185 (by decide) (fun c9 => absurd c9 (by decide)) (fun c9 => ?_)
  refine lv_iload hx hb dL_waits_188 (lv_at hl 0 rfl) ?_
  refine lv_if_ne (tgt := 197) hx hb dL_waits_190 (by decide) (fun c9 => absurd (by decide) c9) (fun c9 => ?_)
  refine lv_iconst (v := 1) hx hb dL_waits_193 (by decide) ?_
  refine lv_goto (tgt := 198) hx hb dL_waits_194 (by decide) ?_
  refine lv_aload_n hx hb dL_waits_198 rfl (lv_at hl 4 rfl) ?_
  refine lv_bipush (v := 8) hx hb dL_waits_199 (by decide) ?_
  refine o_about hlt cx cl HQ J 8 (r0 := (P_X4_offsetOf pg)) ab_8 hP hD hS gL_waits_L_tryAbout ⟨Nat.le_of_ble_eq_true rfl, Nat.le_of_ble_eq_true rfl⟩ hl (Nat.le_of_ble_eq_true rfl) dL_waits_201 ⟨Nat.le_of_ble_eq_true rfl, Nat.le_of_ble_eq_true rfl⟩ (fun H locs hP hD hS => ?_)
  refine lv_iload hx hb dL_waits_204 (lv_at hl 1 rfl) ?_
  refine lv_icmp_gt (tgt := 213) hx hb dL_waits_206 (by decide) (fun c9 => absurd c9 (nlt h0)) (fun c9 => ?_)
  refine lv_iconst (v := 1) hx hb dL_waits_209 (by decide) ?_
  refine lv_goto (tgt := 214) hx hb dL_waits_210 (by decide) ?_
  refine lv_icmp_ne (tgt := 282) hx hb dL_waits_214 (by decide) (fun c9 => absurd (by decide) c9) (fun c9 => ?_)
  refine lv_iload hx hb dL_waits_217 (lv_at hl 0 rfl) ?_
  refine lv_sipush (v := (-9999)) hx hb dL_waits_219 (by decide) ?_
  refine lv_icmp_eq (tgt := 237) hx hb dL_waits_222 (by decide) (fun c9 => absurd c9 (by decide)) (fun c9 => ?_)
  refine lv_aload_n hx hb dL_waits_225 rfl (lv_at hl 4 rfl) ?_
  refine lv_iconst (v := 0) hx hb dL_waits_226 (by decide) ?_
  refine lv_iload hx hb dL_waits_227 (lv_at hl 0 rfl) ?_
  refine o_offsetAfter hlt cx cl HQ J 0 0 (r0 := (P_X4_offsetOf pg)) oA_0 hP hD hS gL_waits_L_tryOffsetAfter ⟨Nat.le_of_ble_eq_true rfl, Nat.le_of_ble_eq_true rfl⟩ hl (Nat.le_of_ble_eq_true rfl) dL_waits_229 ⟨Nat.le_of_ble_eq_true rfl, Nat.le_of_ble_eq_true rfl⟩ (fun H locs hP hD hS => ?_)
  refine lv_iload hx hb dL_waits_232 (lv_at hl 1 rfl) ?_
  refine lv_icmp_gt (tgt := 282) hx hb dL_waits_234 (by decide) (fun c9 => absurd c9 (nlt h0)) (fun c9 => ?_)
  refine lv_iload hx hb dL_waits_237 (lv_at hl 0 rfl) ?_
  refine lv_iconst (v := 1) hx hb dL_waits_239 (by decide) ?_
  refine lv_icmp_lt (tgt := 257) hx hb dL_waits_240 (by decide) (fun c9 => ?_) (fun c9 => absurd (by decide) c9)
  refine lv_iload hx hb dL_waits_257 (lv_at hl 0 rfl) ?_
  refine lv_sipush (v := (-9999)) hx hb dL_waits_259 (by decide) ?_
  refine lv_icmp_ne (tgt := 278) hx hb dL_waits_262 (by decide) (fun c9 => ?_) (fun c9 => absurd c9 (by decide))
  refine lv_iconst (v := 1) hx hb dL_waits_278 (by decide) ?_
  refine lv_goto (tgt := 283) hx hb dL_waits_279 (by decide) ?_
  refine lv_istore (lv' := [(4, .int 1), (8, .int 0), (7, .int wish), (2, .int (pg 8)), (0, .ref d.1)]) hx hb dL_waits_283 hl (by decide) rfl (fun ls hl => ?_)
  refine W.widen (k := 22) (n := 132) (Nat.le_of_ble_eq_true rfl) (Nat.le_of_ble_eq_true rfl) ?_
  exact wt_3 hlt cx cl HQ J hP hD hS (lv_sub hl [0, 3, 4] rfl)

set_option maxRecDepth 100000 in
set_option maxHeartbeats 4000000 in
theorem wt_2c (hlt : l.stackTraces = false) (cx : Cx p s m args meth c cL_waits 17 RL wsL_waits (some .boolean) G A) (cl : CL s A b L xs) {d : AD} (HQ : PQd d) {x : XT} {wish : Int32} {k : Nat} (J : JNV x n tt pg ([]) (some pg) k1)  (hk : 1 ≤ k ∧ k ≤ 200) (h1 : oV pg (clN k (pg 7)) ≤ wish) (h0 : ∀ j : Nat, j < k → ¬ oV pg (clN j (pg 7)) ≤ wish) {H : Heap} {locs : List Loc} {ls : Array Slot} (hP : va_P G.1 vwCl (wB G d x []) H) (hD : va_D A (wB G d x [])) (hS : va_S A s.heap H locs) (hl : lv_has ls 17 [(8, .int (nI k)), (7, .int wish), (4, .int 1), (2, .int (pg 8)), (0, .ref d.1)])  : W p l e rmL_waits s m args below meth c H locs 15 90 (MQ below (qG G (fun x : XT => wB G d x []) (fun r x => r = 1 ∧ JNV x n tt pg [] (some pg) k1) A) args s 130 780 A) (F0 m 183 ls []) := by
  obtain ⟨hx, hb, hml, hown, hts, hr, hlocks, hK, hA⟩ := id cx
  refine lv_iload hx hb dL_waits_183 (lv_at hl 2 rfl) ?_
  refine lv_if_eq (tgt := 282) hx hb dL_waits_185 (by decide) (fun c9 => absurd c9 (by decide)) (fun c9 => ?_)
  refine lv_iload hx hb dL_waits_188 (lv_at hl 0 rfl) ?_
  refine lv_if_ne (tgt := 197) hx hb dL_waits_190 (by decide) (fun c9 => ?_) (fun c9 => absurd c9 (nI_ne0 (by omega) (by omega)))
  refine lv_iconst (v := 0) hx hb dL_waits_197 (by decide) ?_
  refine lv_aload_n hx hb dL_waits_198 rfl (lv_at hl 4 rfl) ?_
  refine lv_bipush (v := 8) hx hb dL_waits_199 (by decide) ?_
  refine o_about hlt cx cl HQ J 8 (r0 := (P_X4_offsetOf pg)) ab_8 hP hD hS gL_waits_L_tryAbout ⟨Nat.le_of_ble_eq_true rfl, Nat.le_of_ble_eq_true rfl⟩ hl (Nat.le_of_ble_eq_true rfl) dL_waits_201 ⟨Nat.le_of_ble_eq_true rfl, Nat.le_of_ble_eq_true rfl⟩ (fun H locs hP hD hS => ?_)
  refine lv_iload hx hb dL_waits_204 (lv_at hl 1 rfl) ?_
  refine lv_icmp_gt (tgt := 213) hx hb dL_waits_206 (by decide) (fun c9 => ?_) (fun c9 => absurd (nle (h0 0 (by omega))) c9)
  refine lv_iconst (v := 0) hx hb dL_waits_213 (by decide) ?_
  refine lv_icmp_ne (tgt := 282) hx hb dL_waits_214 (by decide) (fun c9 => absurd (by decide) c9) (fun c9 => ?_)
  refine lv_iload hx hb dL_waits_217 (lv_at hl 0 rfl) ?_
  refine lv_sipush (v := (-9999)) hx hb dL_waits_219 (by decide) ?_
  refine lv_icmp_eq (tgt := 237) hx hb dL_waits_222 (by decide) (fun c9 => absurd c9 (ne9 (by rw [nI_toInt (by omega)]; omega))) (fun c9 => ?_)
  refine lv_aload_n hx hb dL_waits_225 rfl (lv_at hl 4 rfl) ?_
  refine lv_iconst (v := 0) hx hb dL_waits_226 (by decide) ?_
  refine lv_iload hx hb dL_waits_227 (lv_at hl 0 rfl) ?_
  refine o_offsetAfter hlt cx cl HQ J 0 (nI k) (r0 := (P_X4_offsetOf (P_X4_waitOn pg (nI k)))) (oA_w (by rw [nI_toInt (by omega)]; omega)) hP hD hS gL_waits_L_tryOffsetAfter ⟨Nat.le_of_ble_eq_true rfl, Nat.le_of_ble_eq_true rfl⟩ hl (Nat.le_of_ble_eq_true rfl) dL_waits_229 ⟨Nat.le_of_ble_eq_true rfl, Nat.le_of_ble_eq_true rfl⟩ (fun H locs hP hD hS => ?_)
  refine lv_iload hx hb dL_waits_232 (lv_at hl 1 rfl) ?_
  refine lv_icmp_gt (tgt := 282) hx hb dL_waits_234 (by decide) (fun c9 => absurd c9 (nlt (by rw [oV_k (by omega)]; exact h1))) (fun c9 => ?_)
  refine lv_iload hx hb dL_waits_237 (lv_at hl 0 rfl) ?_
  refine lv_iconst (v := 1) hx hb dL_waits_239 (by decide) ?_
  refine lv_icmp_lt (tgt := 257) hx hb dL_waits_240 (by decide) (fun c9 => absurd c9 (nlt1 (by omega))) (fun c9 => ?_)
  refine lv_aload_n hx hb dL_waits_243 rfl (lv_at hl 4 rfl) ?_
  refine lv_iconst (v := 0) hx hb dL_waits_244 (by decide) ?_
  refine lv_iload hx hb dL_waits_245 (lv_at hl 0 rfl) ?_
  refine lv_iconst (v := 1) hx hb dL_waits_247 (by decide) ?_
  refine lv_isub hx hb dL_waits_248 ?_
  refine o_offsetAfter hlt cx cl HQ J 0 ((nI k) - 1) (r0 := (P_X4_offsetOf (P_X4_waitOn pg (nI (k - 1))))) (by rw [nI_pr hk.1]; exact oA_w (by rw [nI_toInt (by omega)]; omega)) hP hD hS gL_waits_L_tryOffsetAfter ⟨Nat.le_of_ble_eq_true rfl, Nat.le_of_ble_eq_true rfl⟩ hl (Nat.le_of_ble_eq_true rfl) dL_waits_249 ⟨Nat.le_of_ble_eq_true rfl, Nat.le_of_ble_eq_true rfl⟩ (fun H locs hP hD hS => ?_)
  refine lv_iload hx hb dL_waits_252 (lv_at hl 1 rfl) ?_
  refine lv_icmp_le (tgt := 282) hx hb dL_waits_254 (by decide) (fun c9 => absurd c9 (fun q => h0 (k - 1) (by omega) (by rw [oV_k (by omega)] at q; exact q))) (fun c9 => ?_)
  refine lv_iload hx hb dL_waits_257 (lv_at hl 0 rfl) ?_
  refine lv_sipush (v := (-9999)) hx hb dL_waits_259 (by decide) ?_
  refine lv_icmp_ne (tgt := 278) hx hb dL_waits_262 (by decide) (fun c9 => ?_) (fun c9 => absurd c9 (ne9 (by rw [nI_toInt (by omega)]; omega)))
  refine lv_iconst (v := 1) hx hb dL_waits_278 (by decide) ?_
  refine lv_goto (tgt := 283) hx hb dL_waits_279 (by decide) ?_
  refine lv_istore (lv' := [(4, .int 1), (8, .int (nI k)), (7, .int wish), (2, .int (pg 8)), (0, .ref d.1)]) hx hb dL_waits_283 hl (by decide) rfl (fun ls hl => ?_)
  refine W.widen (k := 22) (n := 132) (Nat.le_of_ble_eq_true rfl) (Nat.le_of_ble_eq_true rfl) ?_
  exact wt_3 hlt cx cl HQ J hP hD hS (lv_sub hl [0, 3, 4] rfl)

end WWT
set_option maxRecDepth 100000 in
set_option maxHeartbeats 4000000 in
theorem c_L_waits (l : Launch) (hlt : l.stackTraces = false) (G : gG) (b L : Nat) (xs : Nat → Int32) (d : AD) (HQ : PQd d) (n : Int32) (tt pg : Pg) (hs : List Pg) (k0 k1 : Option Pg) (x9 : Int32) (hx9 : 0 ≤ x9.toInt) : kG l G yL_waits wsL_waits rmL_waits [.ref d.1, .int x9] b L xs (fun x : XT => wB G d x []) (fun x => JNV x n tt pg hs k0 k1) (fun r x => r = 1 ∧ JNV x n tt pg [] (some pg) k1) 130 780 := by
  refine k_bodyG (cc := cL_waits) (nL := 17) (ret := some .boolean) (by decide) rfl (Nat.le_of_ble_eq_true rfl) ?_
  intro x hI
  intro p e s m args below meth c A cx cl H locs hP hD hS ls hl
  obtain ⟨hx, hb, hml, hown, hts, hr, hlocks, hK, hA⟩ := id cx
  have hl : lv_has ls 17 [(0, .ref d.1), (1, .int x9)] := hl
  have hP : va_P G.1 vwCl (wB G d x []) H := hP
  have hD : va_D A (wB G d x []) := hD
  have J : JNV x n tt pg hs k0 k1 := hI
  refine lv_aload_n hx hb dL_waits_0 rfl (lv_at hl 0 rfl) ?_
  refine lv_bipush (v := 9) hx hb dL_waits_1 (by decide) ?_
  refine o_about hlt cx cl HQ J 9 (r0 := (pg 8)) (ab_hi (j := 8) (by decide) (by decide) (by decide) (by decide)) hP hD hS gL_waits_L_tryAbout ⟨Nat.le_of_ble_eq_true rfl, Nat.le_of_ble_eq_true rfl⟩ hl (Nat.le_of_ble_eq_true rfl) dL_waits_3 ⟨Nat.le_of_ble_eq_true rfl, Nat.le_of_ble_eq_true rfl⟩ (fun H locs hP hD hS => ?_)
  refine lv_istore_n (lv' := [(2, .int (pg 8)), (0, .ref d.1), (1, .int x9)]) hx hb dL_waits_6 rfl hl (by decide) rfl (fun ls hl => ?_)
  refine lv_aload_n hx hb dL_waits_7 rfl (lv_at hl 1 rfl) ?_
  refine lv_bipush (v := 7) hx hb dL_waits_8 (by decide) ?_
  refine o_about hlt cx cl HQ J 7 (r0 := (pg 7)) (ab_lo (j := 7) (by decide) (by decide) (by decide)) hP hD hS gL_waits_L_tryAbout ⟨Nat.le_of_ble_eq_true rfl, Nat.le_of_ble_eq_true rfl⟩ hl (Nat.le_of_ble_eq_true rfl) dL_waits_10 ⟨Nat.le_of_ble_eq_true rfl, Nat.le_of_ble_eq_true rfl⟩ (fun H locs hP hD hS => ?_)
  refine lv_istore_n (lv' := [(3, .int (pg 7)), (2, .int (pg 8)), (0, .ref d.1), (1, .int x9)]) hx hb dL_waits_13 rfl hl (by decide) rfl (fun ls hl => ?_)
  refine lv_aload_n hx hb dL_waits_14 rfl (lv_at hl 2 rfl) ?_
  refine lv_iconst (v := 0) hx hb dL_waits_15 (by decide) ?_
  refine o_save0 hlt cx cl HQ J   (r0 := (pg 8)) rfl hP hD hS gL_waits_L_trySave ⟨Nat.le_of_ble_eq_true rfl, Nat.le_of_ble_eq_true rfl⟩ hl (Nat.le_of_ble_eq_true rfl) dL_waits_16 ⟨Nat.le_of_ble_eq_true rfl, Nat.le_of_ble_eq_true rfl⟩ (fun x H locs J hP hD hS => ?_)
  have J : JNV x n tt pg hs (some pg) k1 := J
  refine lv_iload_n hx hb dL_waits_19 rfl (lv_at hl 1 rfl) ?_
  refine lv_icmp_ne (tgt := 27) hx hb dL_waits_20 (by decide) (fun c9 => absurd rfl c9) (fun c9 => ?_)
  refine lv_iconst (v := 1) hx hb dL_waits_23 (by decide) ?_
  refine lv_goto (tgt := 28) hx hb dL_waits_24 (by decide) ?_
  refine lv_istore (lv' := [(4, .int 1), (3, .int (pg 7)), (2, .int (pg 8)), (0, .ref d.1), (1, .int x9)]) hx hb dL_waits_28 hl (by decide) rfl (fun ls hl => ?_)
  refine lv_iconst (v := 1) hx hb dL_waits_30 (by decide) ?_
  refine lv_iload_n hx hb dL_waits_31 rfl (lv_at hl 4 rfl) ?_
  refine lv_bipush (v := 60) hx hb dL_waits_32 (by decide) ?_
  refine lv_irem hx hb dL_waits_34 (by decide) ?_
  refine lv_iadd hx hb dL_waits_35 ?_
  refine lv_istore (lv' := [(5, .int (1 + (x9 - x9 / 60 * 60))), (4, .int 1), (3, .int (pg 7)), (2, .int (pg 8)), (0, .ref d.1), (1, .int x9)]) hx hb dL_waits_36 hl (by decide) rfl (fun ls hl => ?_)
  have hm0 := mdi (x := x9) (k := 60) (K := 60) hx9 (by decide) (by decide)
  have hm1 := adi (k := 1) (K := 1) (x := x9 - x9 / 60 * 60) (by decide) (by decide) (by rw [hm0]; omega)
  have hmb : 1 ≤ (1 + (x9 - x9 / 60 * 60)).toInt ∧ (1 + (x9 - x9 / 60 * 60)).toInt ≤ 60 := by omega
  generalize (1 + (x9 - x9 / 60 * 60)) = mm at hl hmb
  refine lv_aload_n hx hb dL_waits_38 rfl (lv_at hl 4 rfl) ?_
  refine lv_iconst (v := 0) hx hb dL_waits_39 (by decide) ?_
  refine lv_iload hx hb dL_waits_40 (lv_at hl 0 rfl) ?_
  refine o_offsetAfter hlt cx cl HQ J 0 mm (r0 := (P_X4_offsetOf (P_X4_waitOn pg mm))) (oA_w ⟨by omega, by omega⟩) hP hD hS gL_waits_L_tryOffsetAfter ⟨Nat.le_of_ble_eq_true rfl, Nat.le_of_ble_eq_true rfl⟩ hl (Nat.le_of_ble_eq_true rfl) dL_waits_42 ⟨Nat.le_of_ble_eq_true rfl, Nat.le_of_ble_eq_true rfl⟩ (fun H locs hP hD hS => ?_)
  refine lv_istore (lv' := [(6, .int (P_X4_offsetOf (P_X4_waitOn pg mm))), (5, .int mm), (4, .int 1), (3, .int (pg 7)), (2, .int (pg 8)), (0, .ref d.1), (1, .int x9)]) hx hb dL_waits_45 hl (by decide) rfl (fun ls hl => ?_)
  refine lv_iload hx hb dL_waits_47 (lv_at hl 2 rfl) ?_
  refine lv_if_eq (tgt := 159) hx hb dL_waits_49 (by decide) (fun c9 => absurd c9 (by decide)) (fun c9 => ?_)
  refine lv_aload_n hx hb dL_waits_52 rfl (lv_at hl 5 rfl) ?_
  refine lv_iconst (v := 0) hx hb dL_waits_53 (by decide) ?_
  refine lv_iconst (v := 0) hx hb dL_waits_54 (by decide) ?_
  refine o_offsetAfter hlt cx cl HQ J 0 0 (r0 := (P_X4_offsetOf pg)) oA_0 hP hD hS gL_waits_L_tryOffsetAfter ⟨Nat.le_of_ble_eq_true rfl, Nat.le_of_ble_eq_true rfl⟩ hl (Nat.le_of_ble_eq_true rfl) dL_waits_55 ⟨Nat.le_of_ble_eq_true rfl, Nat.le_of_ble_eq_true rfl⟩ (fun H locs hP hD hS => ?_)
  refine lv_aload_n hx hb dL_waits_58 rfl (lv_at hl 5 rfl) ?_
  refine lv_bipush (v := 8) hx hb dL_waits_59 (by decide) ?_
  refine o_about hlt cx cl HQ J 8 (r0 := (P_X4_offsetOf pg)) ab_8 hP hD hS gL_waits_L_tryAbout ⟨Nat.le_of_ble_eq_true rfl, Nat.le_of_ble_eq_true rfl⟩ hl (Nat.le_of_ble_eq_true rfl) dL_waits_61 ⟨Nat.le_of_ble_eq_true rfl, Nat.le_of_ble_eq_true rfl⟩ (fun H locs hP hD hS => ?_)
  refine lv_icmp_ne (tgt := 159) hx hb dL_waits_64 (by decide) (fun c9 => absurd rfl c9) (fun c9 => ?_)
  refine lv_aload_n hx hb dL_waits_67 rfl (lv_at hl 5 rfl) ?_
  refine lv_iconst (v := 1) hx hb dL_waits_68 (by decide) ?_
  refine o_pause hlt cx cl HQ J 1 (by decide) (r0 := (P_X4_offsetOf (P_X4_waitOn pg 1))) rfl hP hD hS gL_waits_L_tryPause ⟨Nat.le_of_ble_eq_true rfl, Nat.le_of_ble_eq_true rfl⟩ hl (Nat.le_of_ble_eq_true rfl) dL_waits_69 ⟨Nat.le_of_ble_eq_true rfl, Nat.le_of_ble_eq_true rfl⟩ (fun x H locs J hP hD hS => ?_)
  have J : JNV x n tt (P_X4_waitOn pg 1) (push hs pg) (some pg) k1 := J
  refine lv_aload_n hx hb dL_waits_72 rfl (lv_at hl 5 rfl) ?_
  refine lv_bipush (v := 8) hx hb dL_waits_73 (by decide) ?_
  refine o_about hlt cx cl HQ J 8 (r0 := (P_X4_offsetOf (P_X4_waitOn pg 1))) ab_8 hP hD hS gL_waits_L_tryAbout ⟨Nat.le_of_ble_eq_true rfl, Nat.le_of_ble_eq_true rfl⟩ hl (Nat.le_of_ble_eq_true rfl) dL_waits_75 ⟨Nat.le_of_ble_eq_true rfl, Nat.le_of_ble_eq_true rfl⟩ (fun H locs hP hD hS => ?_)
  refine lv_icmp_ne (tgt := 159) hx hb dL_waits_78 (by decide) (fun c9 => absurd rfl c9) (fun c9 => ?_)
  refine lv_aload_n hx hb dL_waits_81 rfl (lv_at hl 5 rfl) ?_
  refine lv_bipush (v := 7) hx hb dL_waits_82 (by decide) ?_
  refine o_about hlt cx cl HQ J 7 (r0 := (P_X1_cooled (pg 7))) ((ab_lo (j := 7) (by decide) (by decide) (by decide)).trans w1_7) hP hD hS gL_waits_L_tryAbout ⟨Nat.le_of_ble_eq_true rfl, Nat.le_of_ble_eq_true rfl⟩ hl (Nat.le_of_ble_eq_true rfl) dL_waits_84 ⟨Nat.le_of_ble_eq_true rfl, Nat.le_of_ble_eq_true rfl⟩ (fun H locs hP hD hS => ?_)
  refine lv_iload_n hx hb dL_waits_87 rfl (lv_at hl 3 rfl) ?_
  refine lv_iload_n hx hb dL_waits_88 rfl (lv_at hl 3 rfl) ?_
  refine lv_bipush (v := 10) hx hb dL_waits_89 (by decide) ?_
  refine lv_idiv hx hb dL_waits_91 (by decide) ?_
  refine lv_isub hx hb dL_waits_92 ?_
  refine lv_iconst (v := 1) hx hb dL_waits_93 (by decide) ?_
  refine lv_isub hx hb dL_waits_94 ?_
  have hj110 : W p l e rmL_waits s m args below meth c H locs 9 54 (MQ below (qG G (fun x : XT => wB G d x []) (fun r x => r = 1 ∧ JNV x n tt pg [] (some pg) k1) A) args s 130 780 A) (F0 m 110 ls [.int (P_X1_cooled (pg 7)), .int (P_X1_cooled (pg 7))]) := by
    refine lv_icmp_ne (tgt := 159) hx hb dL_waits_110 (by decide) (fun c9 => absurd rfl c9) (fun c9 => ?_)
    refine lv_aload_n hx hb dL_waits_113 rfl (lv_at hl 5 rfl) ?_
    refine lv_iconst (v := 0) hx hb dL_waits_114 (by decide) ?_
    refine o_restore0 hlt cx cl HQ J  (q := pg) rfl (r0 := (pg 8)) rfl hP hD hS gL_waits_L_tryRestore ⟨Nat.le_of_ble_eq_true rfl, Nat.le_of_ble_eq_true rfl⟩ hl (Nat.le_of_ble_eq_true rfl) dL_waits_115 ⟨Nat.le_of_ble_eq_true rfl, Nat.le_of_ble_eq_true rfl⟩ (fun x H locs J hP hD hS => ?_)
    have J : JNV x n tt pg ([]) (some pg) k1 := J
    refine lv_iload_n hx hb dL_waits_118 rfl (lv_at hl 4 rfl) ?_
    refine lv_icmp_ne (tgt := 159) hx hb dL_waits_119 (by decide) (fun c9 => absurd rfl c9) (fun c9 => ?_)
    refine lv_aload_n hx hb dL_waits_122 rfl (lv_at hl 5 rfl) ?_
    refine lv_iload hx hb dL_waits_123 (lv_at hl 1 rfl) ?_
    refine o_pause hlt cx cl HQ J mm (in_yes32 (by rw [show (1 : Int64).toInt = 1 by decide]; omega) (by rw [show (200 : Int64).toInt = 200 by decide]; omega)) (r0 := (P_X4_offsetOf (P_X4_waitOn pg mm))) rfl hP hD hS gL_waits_L_tryPause ⟨Nat.le_of_ble_eq_true rfl, Nat.le_of_ble_eq_true rfl⟩ hl (Nat.le_of_ble_eq_true rfl) dL_waits_125 ⟨Nat.le_of_ble_eq_true rfl, Nat.le_of_ble_eq_true rfl⟩ (fun x H locs J hP hD hS => ?_)
    have J : JNV x n tt (P_X4_waitOn pg mm) (push ([]) pg) (some pg) k1 := J
    refine lv_iload hx hb dL_waits_128 (lv_at hl 0 rfl) ?_
    refine lv_icmp_ne (tgt := 159) hx hb dL_waits_130 (by decide) (fun c9 => absurd rfl c9) (fun c9 => ?_)
    refine lv_aload_n hx hb dL_waits_133 rfl (lv_at hl 5 rfl) ?_
    refine lv_bipush (v := 9) hx hb dL_waits_134 (by decide) ?_
    refine o_about hlt cx cl HQ J 9 (r0 := ((pg 8) + mm)) ((ab_hi (j := 8) (by decide) (by decide) (by decide) (by decide)).trans (wt_8 (by omega))) hP hD hS gL_waits_L_tryAbout ⟨Nat.le_of_ble_eq_true rfl, Nat.le_of_ble_eq_true rfl⟩ hl (Nat.le_of_ble_eq_true rfl) dL_waits_136 ⟨Nat.le_of_ble_eq_true rfl, Nat.le_of_ble_eq_true rfl⟩ (fun H locs hP hD hS => ?_)
    refine lv_iload_n hx hb dL_waits_139 rfl (lv_at hl 4 rfl) ?_
    refine lv_iload hx hb dL_waits_140 (lv_at hl 1 rfl) ?_
    refine lv_iadd hx hb dL_waits_142 ?_
    refine lv_icmp_ne (tgt := 159) hx hb dL_waits_143 (by decide) (fun c9 => absurd rfl c9) (fun c9 => ?_)
    refine lv_aload_n hx hb dL_waits_146 rfl (lv_at hl 5 rfl) ?_
    refine lv_iconst (v := 0) hx hb dL_waits_147 (by decide) ?_
    refine o_restore0 hlt cx cl HQ J  (q := pg) rfl (r0 := (pg 8)) rfl hP hD hS gL_waits_L_tryRestore ⟨Nat.le_of_ble_eq_true rfl, Nat.le_of_ble_eq_true rfl⟩ hl (Nat.le_of_ble_eq_true rfl) dL_waits_148 ⟨Nat.le_of_ble_eq_true rfl, Nat.le_of_ble_eq_true rfl⟩ (fun x H locs J hP hD hS => ?_)
    have J : JNV x n tt pg ([]) (some pg) k1 := J
    refine lv_iload_n hx hb dL_waits_151 rfl (lv_at hl 4 rfl) ?_
    refine lv_icmp_ne (tgt := 159) hx hb dL_waits_152 (by decide) (fun c9 => absurd rfl c9) (fun c9 => ?_)
    refine lv_iconst (v := 1) hx hb dL_waits_155 (by decide) ?_
    refine lv_goto (tgt := 160) hx hb dL_waits_156 (by decide) ?_
    refine lv_istore (lv' := [(4, .int 1), (6, .int (P_X4_offsetOf (P_X4_waitOn pg mm))), (5, .int mm), (3, .int (pg 7)), (2, .int (pg 8)), (0, .ref d.1), (1, .int x9)]) hx hb dL_waits_160 hl (by decide) rfl (fun ls hl => ?_)
    refine lv_iload_n hx hb dL_waits_162 rfl (lv_at hl 6 rfl) ?_
    refine lv_bipush (v := 64) hx hb dL_waits_163 (by decide) ?_
    refine lv_idiv hx hb dL_waits_165 (by decide) ?_
    refine lv_sipush (v := 351) hx hb dL_waits_166 (by decide) ?_
    refine lv_irem hx hb dL_waits_169 (by decide) ?_
    refine lv_bipush (v := 50) hx hb dL_waits_170 (by decide) ?_
    refine lv_isub hx hb dL_waits_172 ?_
    refine lv_istore (lv' := [(7, .int (((x9 / 64) - (x9 / 64) / 351 * 351) - 50)), (4, .int 1), (6, .int (P_X4_offsetOf (P_X4_waitOn pg mm))), (5, .int mm), (3, .int (pg 7)), (2, .int (pg 8)), (0, .ref d.1), (1, .int x9)]) hx hb dL_waits_173 hl (by decide) rfl (fun ls hl => ?_)
    have hw0 := dvi (x := x9) (k := 64) (K := 64) hx9 (by decide) (by decide)
    have hw1 := mdi (x := x9 / 64) (k := 351) (K := 351) (by rw [hw0]; omega) (by decide) (by decide)
    have z50 : (50 : Int32).toInt = 50 := by decide
    have hw2 := toI_sub (a := (x9 / 64) - (x9 / 64) / 351 * 351) (b := 50) (by omega) (by omega)
    have hwb : -50 ≤ (((x9 / 64) - (x9 / 64) / 351 * 351) - 50).toInt ∧ (((x9 / 64) - (x9 / 64) / 351 * 351) - 50).toInt ≤ 300 := by omega
    generalize (((x9 / 64) - (x9 / 64) / 351 * 351) - 50) = wish at hl hwb
    obtain ⟨tk, htk, hwf⟩ := wF_r (pg := pg) hwb
    refine lv_aload_n hx hb dL_waits_175 rfl (lv_at hl 6 rfl) ?_
    refine lv_iload hx hb dL_waits_176 (lv_at hl 0 rfl) ?_
    refine o_waitFor hlt cx cl HQ J wish (r0 := tk) htk hP hD hS gL_waits_L_tryWaitFor ⟨Nat.le_of_ble_eq_true rfl, Nat.le_of_ble_eq_true rfl⟩ hl (Nat.le_of_ble_eq_true rfl) dL_waits_178 ⟨Nat.le_of_ble_eq_true rfl, Nat.le_of_ble_eq_true rfl⟩ (fun H locs hP hD hS => ?_)
    refine lv_istore (lv' := [(8, .int tk), (7, .int wish), (4, .int 1), (6, .int (P_X4_offsetOf (P_X4_waitOn pg mm))), (5, .int mm), (3, .int (pg 7)), (2, .int (pg 8)), (0, .ref d.1), (1, .int x9)]) hx hb dL_waits_181 hl (by decide) rfl (fun ls hl => ?_)
    refine W.widen (k := 15) (n := 90) (Nat.le_of_ble_eq_true rfl) (Nat.le_of_ble_eq_true rfl) ?_
    have hl := lv_sub hl [0, 1, 2, 6, 7] (l' := [(8, .int tk), (7, .int wish), (4, .int 1), (2, .int (pg 8)), (0, .ref d.1)]) rfl
    rcases hwf with ⟨rfl, h0⟩ | ⟨k, hk, rfl, h1, h0⟩
    · exact wt_2a hlt cx cl HQ J h0 hP hD hS hl
    · by_cases hk0 : k = 0
      · subst hk0
        exact wt_2b hlt cx cl HQ J h1 hP hD hS (by rw [nI_0] at hl; exact hl)
      · exact wt_2c hlt cx cl HQ J ⟨by omega, hk⟩ h1 h0 hP hD hS hl
  refine lv_if_ge (tgt := 102) hx hb dL_waits_95 (by decide) (fun c95 => ?_) (fun c95 => ?_)
  · refine lv_iload_n hx hb dL_waits_102 rfl (lv_at hl 3 rfl) ?_
    refine lv_iload_n hx hb dL_waits_103 rfl (lv_at hl 3 rfl) ?_
    refine lv_bipush (v := 10) hx hb dL_waits_104 (by decide) ?_
    refine lv_idiv hx hb dL_waits_106 (by decide) ?_
    refine lv_isub hx hb dL_waits_107 ?_
    refine lv_iconst (v := 1) hx hb dL_waits_108 (by decide) ?_
    refine lv_isub hx hb dL_waits_109 ?_
    exact k_top (v' := (P_X1_cooled (pg 7))) (by rw [← co_eq, if_pos c95]) hj110
  · refine lv_iconst (v := 0) hx hb dL_waits_98 (by decide) ?_
    refine lv_goto (tgt := 110) hx hb dL_waits_99 (by decide) ?_
    exact k_top (v' := (P_X1_cooled (pg 7))) (by rw [← co_eq, if_neg c95]) hj110
