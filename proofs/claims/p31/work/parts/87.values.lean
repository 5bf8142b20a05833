/-! the law's method values -/
abbrev rmL_values : Room := { frames := 9, cells := 80, slots := 480, locals := 240 }
theorem set_4 {k : Nat} (hk : k < 4) : ¬ P_X4_isSetting 4 (nI k) = 0 := by
  match k, hk with
  | 0, _ => decide
  | 1, _ => decide
  | 2, _ => decide
  | 3, _ => decide
theorem bA_u {pg : Pg} (h : PV pg) {w : Int32} (h2 : PV (upd pg 4 w)) : ∃ A : Int32, aQ 3 ((P_X4_bestArms z0 (upd pg 4 w) (pg 10)).1, (P_X4_bestArms z0 (upd pg 4 w) (pg 10)).2) = A ∧ ((A = 0 ∧ (P_X4_unknown pg).toInt ≤ 9999) ∨ (A = 1 ∧ (P_X4_unknown pg).toInt ≤ 999) ∨ (A = 2 ∧ (P_X4_unknown pg).toInt ≤ 99) ∨ (A = 3 ∧ (P_X4_unknown pg).toInt ≤ 9)) := by
  obtain ⟨q, hq, e, f0, f1, f2, f3⟩ := bA_r h2
  rw [unk_u h (by decide)] at f0 f1 f2 f3
  refine ⟨nI q, e, ?_⟩
  rcases hq with hq | hq | hq | hq
  · subst hq; exact Or.inl ⟨by decide, f0 rfl⟩
  · subst hq; exact Or.inr (Or.inl ⟨by decide, f1 rfl⟩)
  · subst hq; exact Or.inr (Or.inr (Or.inl ⟨by decide, f2 rfl⟩))
  · subst hq; exact Or.inr (Or.inr (Or.inr ⟨by decide, f3 rfl⟩))
theorem bv_2 {pg : Pg} {a b : Int32} (h : PV pg) (h2 : PV (upd (upd pg 0 a) 1 b)) (ha : P_X4_ten a = 1) (hb : (P_X4_ten b).toInt * (P_X4_unknown pg).toInt ≤ 9999) : ∃ bst : Int32, aQ 3 ((P_X4_bestR z0 (upd (upd pg 0 a) 1 b) (pg 10)).1, (P_X4_bestR z0 (upd (upd pg 0 a) 1 b) (pg 10)).2) = bst ∧ RB bst ∧ aQ 1 ((P_X4_bridge z0 (upd (upd (upd pg 0 a) 1 b) 2 bst) 0).1, (P_X4_bridge z0 (upd (upd (upd pg 0 a) 1 b) 2 bst) 0).2) = 0 :=
  bv_r h2 ha (by rw [unk_2 h]; exact hb)

section WVL
variable {p : Program} {l : Launch} {e : Env} {s : State} {m : MethodId} {args : Array Value} {below : List Frame} {meth : Method} {c : Code} {Qp : State → Prop} {G : gG} {A : Nat → Prop} {b L : Nat} {xs : Nat → Int32}
variable {n : Int32} {tt pg : Pg} {k1 : Option Pg}

set_option maxRecDepth 100000 in
set_option maxHeartbeats 4000000 in
theorem vl_13_0 (hlt : l.stackTraces = false) (cx : Cx p s m args meth c cL_values 15 RL wsL_values (some .boolean) G A) (cl : CL s A b L xs) {d : AD} (HQ : PQd d) {x : XT} {x9 : Int32} {hs : List Pg} {w : Int32} (J : JNV x n tt (upd pg 4 w) hs (some pg) k1)  (hpv : PV pg) (HO : OKP pg) (hx9 : 0 ≤ x9.toInt) (hA0 : aQ 3 ((P_X4_bestArms z0 (upd pg 4 w) (pg 10)).1, (P_X4_bestArms z0 (upd pg 4 w) (pg 10)).2) = 0) (hu : (P_X4_unknown pg).toInt ≤ 9999) {H : Heap} {locs : List Loc} {ls : Array Slot} (hP : va_P G.1 vwCl (wB G d x []) H) (hD : va_D A (wB G d x [])) (hS : va_S A s.heap H locs) (hl : lv_has ls 15 [(5, .int (pg 10)), (4, .int 1), (3, .int (pg 2)), (2, .int (pg 8)), (1, .int x9), (0, .ref d.1)])  : W p l e rmL_values s m args below meth c H locs 58 348 (MQ below (qG G (fun x : XT => wB G d x []) (fun r x => r = 1 ∧ JNV x n tt pg [] (some pg) k1) A) args s 80 480 A) (F0 m 579 ls []) := by
  obtain ⟨hx, hb, hml, hown, hts, hr, hlocks, hK, hA⟩ := id cx
  refine lv_aload_n hx hb dL_values_579 rfl (lv_at hl 5 rfl) ?_
  refine lv_iload hx hb dL_values_580 (lv_at hl 0 rfl) ?_
  refine o_bestArms hlt cx cl HQ J (pg 10) (r0 := 0) hA0 hP hD hS gL_values_L_tryBestArms ⟨Nat.le_of_ble_eq_true rfl, Nat.le_of_ble_eq_true rfl⟩ hl (Nat.le_of_ble_eq_true rfl) dL_values_582 ⟨Nat.le_of_ble_eq_true rfl, Nat.le_of_ble_eq_true rfl⟩ (fun H locs hP hD hS => ?_)
  refine lv_istore (lv' := [(13, .int 0), (5, .int (pg 10)), (4, .int 1), (3, .int (pg 2)), (2, .int (pg 8)), (1, .int x9), (0, .ref d.1)]) hx hb dL_values_585 hl (by decide) rfl (fun ls hl => ?_)
  refine lv_iload hx hb dL_values_587 (lv_at hl 2 rfl) ?_
  refine lv_if_eq (tgt := 631) hx hb dL_values_589 (by decide) (fun c9 => absurd c9 (by decide)) (fun c9 => ?_)
  refine lv_aload_n hx hb dL_values_592 rfl (lv_at hl 6 rfl) ?_
  refine lv_iconst (v := 0) hx hb dL_values_593 (by decide) ?_
  refine o_restore0 hlt cx cl HQ J  (q := pg) rfl (r0 := (pg 8)) rfl hP hD hS gL_values_L_tryRestore ⟨Nat.le_of_ble_eq_true rfl, Nat.le_of_ble_eq_true rfl⟩ hl (Nat.le_of_ble_eq_true rfl) dL_values_594 ⟨Nat.le_of_ble_eq_true rfl, Nat.le_of_ble_eq_true rfl⟩ (fun x H locs J hP hD hS => ?_)
  have J : JNV x n tt pg ([]) (some pg) k1 := J
  refine lv_iload_n hx hb dL_values_597 rfl (lv_at hl 4 rfl) ?_
  refine lv_icmp_ne (tgt := 631) hx hb dL_values_598 (by decide) (fun c9 => absurd rfl c9) (fun c9 => ?_)
  refine lv_aload_n hx hb dL_values_601 rfl (lv_at hl 6 rfl) ?_
  refine lv_iconst (v := 0) hx hb dL_values_602 (by decide) ?_
  refine lv_iload hx hb dL_values_603 (lv_at hl 0 rfl) ?_
  refine lv_bipush (v := 10) hx hb dL_values_605 (by decide) ?_
  refine lv_idiv hx hb dL_values_607 (by decide) ?_
  refine o_set hlt cx cl HQ J 0 (0 / 10) (by decide) (r0 := (pg 0)) rfl hP hD hS gL_values_L_trySet ⟨Nat.le_of_ble_eq_true rfl, Nat.le_of_ble_eq_true rfl⟩ hl (Nat.le_of_ble_eq_true rfl) dL_values_608 ⟨Nat.le_of_ble_eq_true rfl, Nat.le_of_ble_eq_true rfl⟩ (fun x H locs J hP hD hS => ?_)
  have J : JNV x n tt (upd pg 0 (0 / 10)) (push ([]) pg) (some pg) k1 := J
  refine lv_if_lt (tgt := 631) hx hb dL_values_611 (by decide) (fun c9 => absurd c9 (ng0 HO.2.1)) (fun c9 => ?_)
  refine lv_aload_n hx hb dL_values_614 rfl (lv_at hl 6 rfl) ?_
  refine lv_iconst (v := 1) hx hb dL_values_615 (by decide) ?_
  refine lv_iload hx hb dL_values_616 (lv_at hl 0 rfl) ?_
  refine lv_bipush (v := 10) hx hb dL_values_618 (by decide) ?_
  refine lv_irem hx hb dL_values_620 (by decide) ?_
  refine o_set hlt cx cl HQ J 1 (0 - 0 / 10 * 10) (by decide) (r0 := (pg 1)) rfl hP hD hS gL_values_L_trySet ⟨Nat.le_of_ble_eq_true rfl, Nat.le_of_ble_eq_true rfl⟩ hl (Nat.le_of_ble_eq_true rfl) dL_values_621 ⟨Nat.le_of_ble_eq_true rfl, Nat.le_of_ble_eq_true rfl⟩ (fun x H locs J hP hD hS => ?_)
  have J : JNV x n tt (upd (upd pg 0 (0 / 10)) 1 (0 - 0 / 10 * 10)) (push (push ([]) pg) (upd pg 0 (0 / 10))) (some pg) k1 := J
  refine lv_if_lt (tgt := 631) hx hb dL_values_624 (by decide) (fun c9 => absurd c9 (ng0 HO.2.2.1)) (fun c9 => ?_)
  refine lv_iconst (v := 1) hx hb dL_values_627 (by decide) ?_
  refine lv_goto (tgt := 632) hx hb dL_values_628 (by decide) ?_
  refine lv_istore (lv' := [(4, .int 1), (13, .int 0), (5, .int (pg 10)), (3, .int (pg 2)), (2, .int (pg 8)), (1, .int x9), (0, .ref d.1)]) hx hb dL_values_632 hl (by decide) rfl (fun ls hl => ?_)
  refine lv_iload hx hb dL_values_634 (lv_at hl 1 rfl) ?_
  refine lv_bipush (v := 10) hx hb dL_values_636 (by decide) ?_
  refine lv_idiv hx hb dL_values_638 (by decide) ?_
  refine lv_if_ne (tgt := 646) hx hb dL_values_639 (by decide) (fun c9 => absurd (by decide) c9) (fun c9 => ?_)
  refine lv_iconst (v := 1) hx hb dL_values_642 (by decide) ?_
  refine lv_goto (tgt := 677) hx hb dL_values_643 (by decide) ?_
  refine lv_istore (lv' := [(14, .int 1), (4, .int 1), (13, .int 0), (5, .int (pg 10)), (3, .int (pg 2)), (2, .int (pg 8)), (1, .int x9), (0, .ref d.1)]) hx hb dL_values_677 hl (by decide) rfl (fun ls hl => ?_)
  refine lv_iload hx hb dL_values_679 (lv_at hl 1 rfl) ?_
  refine lv_if_eq (tgt := 736) hx hb dL_values_681 (by decide) (fun c9 => absurd c9 (by decide)) (fun c9 => ?_)
  obtain ⟨bst, hb1, hb2, hb3⟩ := bv_2 hpv J.pv (by decide) (by have e : (P_X4_ten (0 - 0 / 10 * 10)).toInt = 1 := by decide
                                                               rw [e]; omega)
  refine lv_aload_n hx hb dL_values_684 rfl (lv_at hl 7 rfl) ?_
  refine lv_iconst (v := 2) hx hb dL_values_685 (by decide) ?_
  refine lv_aload_n hx hb dL_values_686 rfl (lv_at hl 7 rfl) ?_
  refine lv_iload hx hb dL_values_687 (lv_at hl 3 rfl) ?_
  refine o_bestR hlt cx cl HQ J (pg 10) (r0 := bst) hb1 hP hD hS gL_values_L_tryBestR ⟨Nat.le_of_ble_eq_true rfl, Nat.le_of_ble_eq_true rfl⟩ hl (Nat.le_of_ble_eq_true rfl) dL_values_689 ⟨Nat.le_of_ble_eq_true rfl, Nat.le_of_ble_eq_true rfl⟩ (fun H locs hP hD hS => ?_)
  refine o_set hlt cx cl HQ J 2 bst (set_2 hb2) (r0 := (pg 2)) rfl hP hD hS gL_values_L_trySet ⟨Nat.le_of_ble_eq_true rfl, Nat.le_of_ble_eq_true rfl⟩ hl (Nat.le_of_ble_eq_true rfl) dL_values_692 ⟨Nat.le_of_ble_eq_true rfl, Nat.le_of_ble_eq_true rfl⟩ (fun x H locs J hP hD hS => ?_)
  have J : JNV x n tt (upd (upd (upd pg 0 (0 / 10)) 1 (0 - 0 / 10 * 10)) 2 bst) (push (push (push ([]) pg) (upd pg 0 (0 / 10))) (upd (upd pg 0 (0 / 10)) 1 (0 - 0 / 10 * 10))) (some pg) k1 := J
  refine lv_iload_n hx hb dL_values_695 rfl (lv_at hl 4 rfl) ?_
  refine lv_icmp_ne (tgt := 736) hx hb dL_values_696 (by decide) (fun c9 => absurd rfl c9) (fun c9 => ?_)
  refine lv_iconst (v := 2) hx hb dL_values_699 (by decide) ?_
  refine lv_aload_n hx hb dL_values_700 rfl (lv_at hl 7 rfl) ?_
  refine lv_iconst (v := 0) hx hb dL_values_701 (by decide) ?_
  refine o_bridge hlt cx cl HQ J 0 (r0 := 0) hb3 hP hD hS gL_values_L_tryBridge ⟨Nat.le_of_ble_eq_true rfl, Nat.le_of_ble_eq_true rfl⟩ hl (Nat.le_of_ble_eq_true rfl) dL_values_702 ⟨Nat.le_of_ble_eq_true rfl, Nat.le_of_ble_eq_true rfl⟩ (fun H locs hP hD hS => ?_)
  refine kc0 (n := 1) (As := [.int 0]) cx cl (c_L_size l hlt G b L xs 0) trivial hP hD hS gL_values_L_size rfl rfl rfl (by decide +kernel) ⟨Nat.le_of_ble_eq_true rfl, Nat.le_of_ble_eq_true rfl⟩ rfl rfl hl (Nat.le_of_ble_eq_true rfl) dL_values_705 ⟨Nat.le_of_ble_eq_true rfl, Nat.le_of_ble_eq_true rfl⟩ (fun r9 H locs h9 hP hD hS => ?_)
  rw [h9]
  refine lv_imul hx hb dL_values_708 ?_
  refine lv_iload hx hb dL_values_709 (lv_at hl 0 rfl) ?_
  refine lv_icmp_gt (tgt := 736) hx hb dL_values_711 (by decide) (fun c9 => absurd c9 (by decide)) (fun c9 => ?_)
  refine lv_aload_n hx hb dL_values_714 rfl (lv_at hl 7 rfl) ?_
  refine lv_iconst (v := 0) hx hb dL_values_715 (by decide) ?_
  refine o_restore0 hlt cx cl HQ J  (q := pg) rfl (r0 := (pg 8)) rfl hP hD hS gL_values_L_tryRestore ⟨Nat.le_of_ble_eq_true rfl, Nat.le_of_ble_eq_true rfl⟩ hl (Nat.le_of_ble_eq_true rfl) dL_values_716 ⟨Nat.le_of_ble_eq_true rfl, Nat.le_of_ble_eq_true rfl⟩ (fun x H locs J hP hD hS => ?_)
  have J : JNV x n tt pg ([]) (some pg) k1 := J
  refine lv_iload_n hx hb dL_values_719 rfl (lv_at hl 5 rfl) ?_
  refine lv_icmp_ne (tgt := 736) hx hb dL_values_720 (by decide) (fun c9 => absurd rfl c9) (fun c9 => ?_)
  refine lv_aload_n hx hb dL_values_723 rfl (lv_at hl 7 rfl) ?_
  refine n_undo hlt cx cl HQ J  rfl hP hD hS gL_values_L_tryUndo ⟨Nat.le_of_ble_eq_true rfl, Nat.le_of_ble_eq_true rfl⟩ hl (Nat.le_of_ble_eq_true rfl) dL_values_724 ⟨Nat.le_of_ble_eq_true rfl, Nat.le_of_ble_eq_true rfl⟩ (fun H locs hP hD hS => ?_)
  refine k_ldc (v := (-999900003)) cx (by decide +kernel) dL_values_727 ?_
  refine lv_icmp_ne (tgt := 736) hx hb dL_values_729 (by decide) (fun c9 => absurd (by decide) c9) (fun c9 => ?_)
  refine lv_iconst (v := 1) hx hb dL_values_732 (by decide) ?_
  refine lv_goto (tgt := 737) hx hb dL_values_733 (by decide) ?_
  exact k_retG (u := x) cx (nz (Or.inr rfl)) ⟨rfl, J⟩ hP hS ⟨Nat.le_of_ble_eq_true rfl, Nat.le_of_ble_eq_true rfl⟩ dL_values_737

set_option maxRecDepth 100000 in
set_option maxHeartbeats 4000000 in
theorem vl_13_1 (hlt : l.stackTraces = false) (cx : Cx p s m args meth c cL_values 15 RL wsL_values (some .boolean) G A) (cl : CL s A b L xs) {d : AD} (HQ : PQd d) {x : XT} {x9 : Int32} {hs : List Pg} {w : Int32} (J : JNV x n tt (upd pg 4 w) hs (some pg) k1)  (hpv : PV pg) (HO : OKP pg) (hx9 : 0 ≤ x9.toInt) (hA0 : aQ 3 ((P_X4_bestArms z0 (upd pg 4 w) (pg 10)).1, (P_X4_bestArms z0 (upd pg 4 w) (pg 10)).2) = 1) (hu : (P_X4_unknown pg).toInt ≤ 999) {H : Heap} {locs : List Loc} {ls : Array Slot} (hP : va_P G.1 vwCl (wB G d x []) H) (hD : va_D A (wB G d x [])) (hS : va_S A s.heap H locs) (hl : lv_has ls 15 [(5, .int (pg 10)), (4, .int 1), (3, .int (pg 2)), (2, .int (pg 8)), (1, .int x9), (0, .ref d.1)])  : W p l e rmL_values s m args below meth c H locs 58 348 (MQ below (qG G (fun x : XT => wB G d x []) (fun r x => r = 1 ∧ JNV x n tt pg [] (some pg) k1) A) args s 80 480 A) (F0 m 579 ls []) := by
  obtain ⟨hx, hb, hml, hown, hts, hr, hlocks, hK, hA⟩ := id cx
  refine lv_aload_n hx hb dL_values_579 rfl (lv_at hl 5 rfl) ?_
  refine lv_iload hx hb dL_values_580 (lv_at hl 0 rfl) ?_
  refine o_bestArms hlt cx cl HQ J (pg 10) (r0 := 1) hA0 hP hD hS gL_values_L_tryBestArms ⟨Nat.le_of_ble_eq_true rfl, Nat.le_of_ble_eq_true rfl⟩ hl (Nat.le_of_ble_eq_true rfl) dL_values_582 ⟨Nat.le_of_ble_eq_true rfl, Nat.le_of_ble_eq_true rfl⟩ (fun H locs hP hD hS => ?_)
  refine lv_istore (lv' := [(13, .int 1), (5, .int (pg 10)), (4, .int 1), (3, .int (pg 2)), (2, .int (pg 8)), (1, .int x9), (0, .ref d.1)]) hx hb dL_values_585 hl (by decide) rfl (fun ls hl => ?_)
  refine lv_iload hx hb dL_values_587 (lv_at hl 2 rfl) ?_
  refine lv_if_eq (tgt := 631) hx hb dL_values_589 (by decide) (fun c9 => absurd c9 (by decide)) (fun c9 => ?_)
  refine lv_aload_n hx hb dL_values_592 rfl (lv_at hl 6 rfl) ?_
  refine lv_iconst (v := 0) hx hb dL_values_593 (by decide) ?_
  refine o_restore0 hlt cx cl HQ J  (q := pg) rfl (r0 := (pg 8)) rfl hP hD hS gL_values_L_tryRestore ⟨Nat.le_of_ble_eq_true rfl, Nat.le_of_ble_eq_true rfl⟩ hl (Nat.le_of_ble_eq_true rfl) dL_values_594 ⟨Nat.le_of_ble_eq_true rfl, Nat.le_of_ble_eq_true rfl⟩ (fun x H locs J hP hD hS => ?_)
  have J : JNV x n tt pg ([]) (some pg) k1 := J
  refine lv_iload_n hx hb dL_values_597 rfl (lv_at hl 4 rfl) ?_
  refine lv_icmp_ne (tgt := 631) hx hb dL_values_598 (by decide) (fun c9 => absurd rfl c9) (fun c9 => ?_)
  refine lv_aload_n hx hb dL_values_601 rfl (lv_at hl 6 rfl) ?_
  refine lv_iconst (v := 0) hx hb dL_values_602 (by decide) ?_
  refine lv_iload hx hb dL_values_603 (lv_at hl 0 rfl) ?_
  refine lv_bipush (v := 10) hx hb dL_values_605 (by decide) ?_
  refine lv_idiv hx hb dL_values_607 (by decide) ?_
  refine o_set hlt cx cl HQ J 0 (1 / 10) (by decide) (r0 := (pg 0)) rfl hP hD hS gL_values_L_trySet ⟨Nat.le_of_ble_eq_true rfl, Nat.le_of_ble_eq_true rfl⟩ hl (Nat.le_of_ble_eq_true rfl) dL_values_608 ⟨Nat.le_of_ble_eq_true rfl, Nat.le_of_ble_eq_true rfl⟩ (fun x H locs J hP hD hS => ?_)
  have J : JNV x n tt (upd pg 0 (1 / 10)) (push ([]) pg) (some pg) k1 := J
  refine lv_if_lt (tgt := 631) hx hb dL_values_611 (by decide) (fun c9 => absurd c9 (ng0 HO.2.1)) (fun c9 => ?_)
  refine lv_aload_n hx hb dL_values_614 rfl (lv_at hl 6 rfl) ?_
  refine lv_iconst (v := 1) hx hb dL_values_615 (by decide) ?_
  refine lv_iload hx hb dL_values_616 (lv_at hl 0 rfl) ?_
  refine lv_bipush (v := 10) hx hb dL_values_618 (by decide) ?_
  refine lv_irem hx hb dL_values_620 (by decide) ?_
  refine o_set hlt cx cl HQ J 1 (1 - 1 / 10 * 10) (by decide) (r0 := (pg 1)) rfl hP hD hS gL_values_L_trySet ⟨Nat.le_of_ble_eq_true rfl, Nat.le_of_ble_eq_true rfl⟩ hl (Nat.le_of_ble_eq_true rfl) dL_values_621 ⟨Nat.le_of_ble_eq_true rfl, Nat.le_of_ble_eq_true rfl⟩ (fun x H locs J hP hD hS => ?_)
  have J : JNV x n tt (upd (upd pg 0 (1 / 10)) 1 (1 - 1 / 10 * 10)) (push (push ([]) pg) (upd pg 0 (1 / 10))) (some pg) k1 := J
  refine lv_if_lt (tgt := 631) hx hb dL_values_624 (by decide) (fun c9 => absurd c9 (ng0 HO.2.2.1)) (fun c9 => ?_)
  refine lv_iconst (v := 1) hx hb dL_values_627 (by decide) ?_
  refine lv_goto (tgt := 632) hx hb dL_values_628 (by decide) ?_
  refine lv_istore (lv' := [(4, .int 1), (13, .int 1), (5, .int (pg 10)), (3, .int (pg 2)), (2, .int (pg 8)), (1, .int x9), (0, .ref d.1)]) hx hb dL_values_632 hl (by decide) rfl (fun ls hl => ?_)
  refine lv_iload hx hb dL_values_634 (lv_at hl 1 rfl) ?_
  refine lv_bipush (v := 10) hx hb dL_values_636 (by decide) ?_
  refine lv_idiv hx hb dL_values_638 (by decide) ?_
  refine lv_if_ne (tgt := 646) hx hb dL_values_639 (by decide) (fun c9 => absurd (by decide) c9) (fun c9 => ?_)
  refine lv_iconst (v := 1) hx hb dL_values_642 (by decide) ?_
  refine lv_goto (tgt := 677) hx hb dL_values_643 (by decide) ?_
  refine lv_istore (lv' := [(14, .int 1), (4, .int 1), (13, .int 1), (5, .int (pg 10)), (3, .int (pg 2)), (2, .int (pg 8)), (1, .int x9), (0, .ref d.1)]) hx hb dL_values_677 hl (by decide) rfl (fun ls hl => ?_)
  refine lv_iload hx hb dL_values_679 (lv_at hl 1 rfl) ?_
  refine lv_if_eq (tgt := 736) hx hb dL_values_681 (by decide) (fun c9 => absurd c9 (by decide)) (fun c9 => ?_)
  obtain ⟨bst, hb1, hb2, hb3⟩ := bv_2 hpv J.pv (by decide) (by have e : (P_X4_ten (1 - 1 / 10 * 10)).toInt = 10 := by decide
                                                               rw [e]; omega)
  refine lv_aload_n hx hb dL_values_684 rfl (lv_at hl 7 rfl) ?_
  refine lv_iconst (v := 2) hx hb dL_values_685 (by decide) ?_
  refine lv_aload_n hx hb dL_values_686 rfl (lv_at hl 7 rfl) ?_
  refine lv_iload hx hb dL_values_687 (lv_at hl 3 rfl) ?_
  refine o_bestR hlt cx cl HQ J (pg 10) (r0 := bst) hb1 hP hD hS gL_values_L_tryBestR ⟨Nat.le_of_ble_eq_true rfl, Nat.le_of_ble_eq_true rfl⟩ hl (Nat.le_of_ble_eq_true rfl) dL_values_689 ⟨Nat.le_of_ble_eq_true rfl, Nat.le_of_ble_eq_true rfl⟩ (fun H locs hP hD hS => ?_)
  refine o_set hlt cx cl HQ J 2 bst (set_2 hb2) (r0 := (pg 2)) rfl hP hD hS gL_values_L_trySet ⟨Nat.le_of_ble_eq_true rfl, Nat.le_of_ble_eq_true rfl⟩ hl (Nat.le_of_ble_eq_true rfl) dL_values_692 ⟨Nat.le_of_ble_eq_true rfl, Nat.le_of_ble_eq_true rfl⟩ (fun x H locs J hP hD hS => ?_)
  have J : JNV x n tt (upd (upd (upd pg 0 (1 / 10)) 1 (1 - 1 / 10 * 10)) 2 bst) (push (push (push ([]) pg) (upd pg 0 (1 / 10))) (upd (upd pg 0 (1 / 10)) 1 (1 - 1 / 10 * 10))) (some pg) k1 := J
  refine lv_iload_n hx hb dL_values_695 rfl (lv_at hl 4 rfl) ?_
  refine lv_icmp_ne (tgt := 736) hx hb dL_values_696 (by decide) (fun c9 => absurd rfl c9) (fun c9 => ?_)
  refine lv_iconst (v := 2) hx hb dL_values_699 (by decide) ?_
  refine lv_aload_n hx hb dL_values_700 rfl (lv_at hl 7 rfl) ?_
  refine lv_iconst (v := 0) hx hb dL_values_701 (by decide) ?_
  refine o_bridge hlt cx cl HQ J 0 (r0 := 0) hb3 hP hD hS gL_values_L_tryBridge ⟨Nat.le_of_ble_eq_true rfl, Nat.le_of_ble_eq_true rfl⟩ hl (Nat.le_of_ble_eq_true rfl) dL_values_702 ⟨Nat.le_of_ble_eq_true rfl, Nat.le_of_ble_eq_true rfl⟩ (fun H locs hP hD hS => ?_)
  refine kc0 (n := 1) (As := [.int 0]) cx cl (c_L_size l hlt G b L xs 0) trivial hP hD hS gL_values_L_size rfl rfl rfl (by decide +kernel) ⟨Nat.le_of_ble_eq_true rfl, Nat.le_of_ble_eq_true rfl⟩ rfl rfl hl (Nat.le_of_ble_eq_true rfl) dL_values_705 ⟨Nat.le_of_ble_eq_true rfl, Nat.le_of_ble_eq_true rfl⟩ (fun r9 H locs h9 hP hD hS => ?_)
  rw [h9]
  refine lv_imul hx hb dL_values_708 ?_
  refine lv_iload hx hb dL_values_709 (lv_at hl 0 rfl) ?_
  refine lv_icmp_gt (tgt := 736) hx hb dL_values_711 (by decide) (fun c9 => absurd c9 (by decide)) (fun c9 => ?_)
  refine lv_aload_n hx hb dL_values_714 rfl (lv_at hl 7 rfl) ?_
  refine lv_iconst (v := 0) hx hb dL_values_715 (by decide) ?_
  refine o_restore0 hlt cx cl HQ J  (q := pg) rfl (r0 := (pg 8)) rfl hP hD hS gL_values_L_tryRestore ⟨Nat.le_of_ble_eq_true rfl, Nat.le_of_ble_eq_true rfl⟩ hl (Nat.le_of_ble_eq_true rfl) dL_values_716 ⟨Nat.le_of_ble_eq_true rfl, Nat.le_of_ble_eq_true rfl⟩ (fun x H locs J hP hD hS => ?_)
  have J : JNV x n tt pg ([]) (some pg) k1 := J
  refine lv_iload_n hx hb dL_values_719 rfl (lv_at hl 5 rfl) ?_
  refine lv_icmp_ne (tgt := 736) hx hb dL_values_720 (by decide) (fun c9 => absurd rfl c9) (fun c9 => ?_)
  refine lv_aload_n hx hb dL_values_723 rfl (lv_at hl 7 rfl) ?_
  refine n_undo hlt cx cl HQ J  rfl hP hD hS gL_values_L_tryUndo ⟨Nat.le_of_ble_eq_true rfl, Nat.le_of_ble_eq_true rfl⟩ hl (Nat.le_of_ble_eq_true rfl) dL_values_724 ⟨Nat.le_of_ble_eq_true rfl, Nat.le_of_ble_eq_true rfl⟩ (fun H locs hP hD hS => ?_)
  refine k_ldc (v := (-999900003)) cx (by decide +kernel) dL_values_727 ?_
  refine lv_icmp_ne (tgt := 736) hx hb dL_values_729 (by decide) (fun c9 => absurd (by decide) c9) (fun c9 => ?_)
  refine lv_iconst (v := 1) hx hb dL_values_732 (by decide) ?_
  refine lv_goto (tgt := 737) hx hb dL_values_733 (by decide) ?_
  exact k_retG (u := x) cx (nz (Or.inr rfl)) ⟨rfl, J⟩ hP hS ⟨Nat.le_of_ble_eq_true rfl, Nat.le_of_ble_eq_true rfl⟩ dL_values_737

set_option maxRecDepth 100000 in
set_option maxHeartbeats 4000000 in
theorem vl_13_2 (hlt : l.stackTraces = false) (cx : Cx p s m args meth c cL_values 15 RL wsL_values (some .boolean) G A) (cl : CL s A b L xs) {d : AD} (HQ : PQd d) {x : XT} {x9 : Int32} {hs : List Pg} {w : Int32} (J : JNV x n tt (upd pg 4 w) hs (some pg) k1)  (hpv : PV pg) (HO : OKP pg) (hx9 : 0 ≤ x9.toInt) (hA0 : aQ 3 ((P_X4_bestArms z0 (upd pg 4 w) (pg 10)).1, (P_X4_bestArms z0 (upd pg 4 w) (pg 10)).2) = 2) (hu : (P_X4_unknown pg).toInt ≤ 99) {H : Heap} {locs : List Loc} {ls : Array Slot} (hP : va_P G.1 vwCl (wB G d x []) H) (hD : va_D A (wB G d x [])) (hS : va_S A s.heap H locs) (hl : lv_has ls 15 [(5, .int (pg 10)), (4, .int 1), (3, .int (pg 2)), (2, .int (pg 8)), (1, .int x9), (0, .ref d.1)])  : W p l e rmL_values s m args below meth c H locs 58 348 (MQ below (qG G (fun x : XT => wB G d x []) (fun r x => r = 1 ∧ JNV x n tt pg [] (some pg) k1) A) args s 80 480 A) (F0 m 579 ls []) := by
  obtain ⟨hx, hb, hml, hown, hts, hr, hlocks, hK, hA⟩ := id cx
  refine lv_aload_n hx hb dL_values_579 rfl (lv_at hl 5 rfl) ?_
  refine lv_iload hx hb dL_values_580 (lv_at hl 0 rfl) ?_
  refine o_bestArms hlt cx cl HQ J (pg 10) (r0 := 2) hA0 hP hD hS gL_values_L_tryBestArms ⟨Nat.le_of_ble_eq_true rfl, Nat.le_of_ble_eq_true rfl⟩ hl (Nat.le_of_ble_eq_true rfl) dL_values_582 ⟨Nat.le_of_ble_eq_true rfl, Nat.le_of_ble_eq_true rfl⟩ (fun H locs hP hD hS => ?_)
  refine lv_istore (lv' := [(13, .int 2), (5, .int (pg 10)), (4, .int 1), (3, .int (pg 2)), (2, .int (pg 8)), (1, .int x9), (0, .ref d.1)]) hx hb dL_values_585 hl (by decide) rfl (fun ls hl => ?_)
  refine lv_iload hx hb dL_values_587 (lv_at hl 2 rfl) ?_
  refine lv_if_eq (tgt := 631) hx hb dL_values_589 (by decide) (fun c9 => absurd c9 (by decide)) (fun c9 => ?_)
  refine lv_aload_n hx hb dL_values_592 rfl (lv_at hl 6 rfl) ?_
  refine lv_iconst (v := 0) hx hb dL_values_593 (by decide) ?_
  refine o_restore0 hlt cx cl HQ J  (q := pg) rfl (r0 := (pg 8)) rfl hP hD hS gL_values_L_tryRestore ⟨Nat.le_of_ble_eq_true rfl, Nat.le_of_ble_eq_true rfl⟩ hl (Nat.le_of_ble_eq_true rfl) dL_values_594 ⟨Nat.le_of_ble_eq_true rfl, Nat.le_of_ble_eq_true rfl⟩ (fun x H locs J hP hD hS => ?_)
  have J : JNV x n tt pg ([]) (some pg) k1 := J
  refine lv_iload_n hx hb dL_values_597 rfl (lv_at hl 4 rfl) ?_
  refine lv_icmp_ne (tgt := 631) hx hb dL_values_598 (by decide) (fun c9 => absurd rfl c9) (fun c9 => ?_)
  refine lv_aload_n hx hb dL_values_601 rfl (lv_at hl 6 rfl) ?_
  refine lv_iconst (v := 0) hx hb dL_values_602 (by decide) ?_
  refine lv_iload hx hb dL_values_603 (lv_at hl 0 rfl) ?_
  refine lv_bipush (v := 10) hx hb dL_values_605 (by decide) ?_
  refine lv_idiv hx hb dL_values_607 (by decide) ?_
  refine o_set hlt cx cl HQ J 0 (2 / 10) (by decide) (r0 := (pg 0)) rfl hP hD hS gL_values_L_trySet ⟨Nat.le_of_ble_eq_true rfl, Nat.le_of_ble_eq_true rfl⟩ hl (Nat.le_of_ble_eq_true rfl) dL_values_608 ⟨Nat.le_of_ble_eq_true rfl, Nat.le_of_ble_eq_true rfl⟩ (fun x H locs J hP hD hS => ?_)
  have J : JNV x n tt (upd pg 0 (2 / 10)) (push ([]) pg) (some pg) k1 := J
  refine lv_if_lt (tgt := 631) hx hb dL_values_611 (by decide) (fun c9 => absurd c9 (ng0 HO.2.1)) (fun c9 => ?_)
  refine lv_aload_n hx hb dL_values_614 rfl (lv_at hl 6 rfl) ?_
  refine lv_iconst (v := 1) hx hb dL_values_615 (by decide) ?_
  refine lv_iload hx hb dL_values_616 (lv_at hl 0 rfl) ?_
  refine lv_bipush (v := 10) hx hb dL_values_618 (by decide) ?_
  refine lv_irem hx hb dL_values_620 (by decide) ?_
  refine o_set hlt cx cl HQ J 1 (2 - 2 / 10 * 10) (by decide) (r0 := (pg 1)) rfl hP hD hS gL_values_L_trySet ⟨Nat.le_of_ble_eq_true rfl, Nat.le_of_ble_eq_true rfl⟩ hl (Nat.le_of_ble_eq_true rfl) dL_values_621 ⟨Nat.le_of_ble_eq_true rfl, Nat.le_of_ble_eq_true rfl⟩ (fun x H locs J hP hD hS => ?_)
  have J : JNV x n tt (upd (upd pg 0 (2 / 10)) 1 (2 - 2 / 10 * 10)) (push (push ([]) pg) (upd pg 0 (2 / 10))) (some pg) k1 := J
  refine lv_if_lt (tgt := 631) hx hb dL_values_624 (by decide) (fun c9 => absurd c9 (ng0 HO.2.2.1)) (fun c9 => ?_)
  refine lv_iconst (v := 1) hx hb dL_values_627 (by decide) ?_
  refine lv_goto (tgt := 632) hx hb dL_values_628 (by decide) ?_
  refine lv_istore (lv' := [(4, .int 1), (13, .int 2), (5, .int (pg 10)), (3, .int (pg 2)), (2, .int (pg 8)), (1, .int x9), (0, .ref d.1)]) hx hb dL_values_632 hl (by decide) rfl (fun ls hl => ?_)
  refine lv_iload hx hb dL_values_634 (lv_at hl 1 rfl) ?_
  refine lv_bipush (v := 10) hx hb dL_values_636 (by decide) ?_
  refine lv_idiv hx hb dL_values_638 (by decide) ?_
  refine lv_if_ne (tgt := 646) hx hb dL_values_639 (by decide) (fun c9 => absurd (by decide) c9) (fun c9 => ?_)
  refine lv_iconst (v := 1) hx hb dL_values_642 (by decide) ?_
  refine lv_goto (tgt := 677) hx hb dL_values_643 (by decide) ?_
  refine lv_istore (lv' := [(14, .int 1), (4, .int 1), (13, .int 2), (5, .int (pg 10)), (3, .int (pg 2)), (2, .int (pg 8)), (1, .int x9), (0, .ref d.1)]) hx hb dL_values_677 hl (by decide) rfl (fun ls hl => ?_)
  refine lv_iload hx hb dL_values_679 (lv_at hl 1 rfl) ?_
  refine lv_if_eq (tgt := 736) hx hb dL_values_681 (by decide) (fun c9 => absurd c9 (by decide)) (fun c9 => ?_)
  obtain ⟨bst, hb1, hb2, hb3⟩ := bv_2 hpv J.pv (by decide) (by have e : (P_X4_ten (2 - 2 / 10 * 10)).toInt = 100 := by decide
                                                               rw [e]; omega)
  refine lv_aload_n hx hb dL_values_684 rfl (lv_at hl 7 rfl) ?_
  refine lv_iconst (v := 2) hx hb dL_values_685 (by decide) ?_
  refine lv_aload_n hx hb dL_values_686 rfl (lv_at hl 7 rfl) ?_
  refine lv_iload hx hb dL_values_687 (lv_at hl 3 rfl) ?_
  refine o_bestR hlt cx cl HQ J (pg 10) (r0 := bst) hb1 hP hD hS gL_values_L_tryBestR ⟨Nat.le_of_ble_eq_true rfl, Nat.le_of_ble_eq_true rfl⟩ hl (Nat.le_of_ble_eq_true rfl) dL_values_689 ⟨Nat.le_of_ble_eq_true rfl, Nat.le_of_ble_eq_true rfl⟩ (fun H locs hP hD hS => ?_)
  refine o_set hlt cx cl HQ J 2 bst (set_2 hb2) (r0 := (pg 2)) rfl hP hD hS gL_values_L_trySet ⟨Nat.le_of_ble_eq_true rfl, Nat.le_of_ble_eq_true rfl⟩ hl (Nat.le_of_ble_eq_true rfl) dL_values_692 ⟨Nat.le_of_ble_eq_true rfl, Nat.le_of_ble_eq_true rfl⟩ (fun x H locs J hP hD hS => ?_)
  have J : JNV x n tt (upd (upd (upd pg 0 (2 / 10)) 1 (2 - 2 / 10 * 10)) 2 bst) (push (push (push ([]) pg) (upd pg 0 (2 / 10))) (upd (upd pg 0 (2 / 10)) 1 (2 - 2 / 10 * 10))) (some pg) k1 := J
  refine lv_iload_n hx hb dL_values_695 rfl (lv_at hl 4 rfl) ?_
  refine lv_icmp_ne (tgt := 736) hx hb dL_values_696 (by decide) (fun c9 => absurd rfl c9) (fun c9 => ?_)
  refine lv_iconst (v := 2) hx hb dL_values_699 (by decide) ?_
  refine lv_aload_n hx hb dL_values_700 rfl (lv_at hl 7 rfl) ?_
  refine lv_iconst (v := 0) hx hb dL_values_701 (by decide) ?_
  refine o_bridge hlt cx cl HQ J 0 (r0 := 0) hb3 hP hD hS gL_values_L_tryBridge ⟨Nat.le_of_ble_eq_true rfl, Nat.le_of_ble_eq_true rfl⟩ hl (Nat.le_of_ble_eq_true rfl) dL_values_702 ⟨Nat.le_of_ble_eq_true rfl, Nat.le_of_ble_eq_true rfl⟩ (fun H locs hP hD hS => ?_)
  refine kc0 (n := 1) (As := [.int 0]) cx cl (c_L_size l hlt G b L xs 0) trivial hP hD hS gL_values_L_size rfl rfl rfl (by decide +kernel) ⟨Nat.le_of_ble_eq_true rfl, Nat.le_of_ble_eq_true rfl⟩ rfl rfl hl (Nat.le_of_ble_eq_true rfl) dL_values_705 ⟨Nat.le_of_ble_eq_true rfl, Nat.le_of_ble_eq_true rfl⟩ (fun r9 H locs h9 hP hD hS => ?_)
  rw [h9]
  refine lv_imul hx hb dL_values_708 ?_
  refine lv_iload hx hb dL_values_709 (lv_at hl 0 rfl) ?_
  refine lv_icmp_gt (tgt := 736) hx hb dL_values_711 (by decide) (fun c9 => absurd c9 (by decide)) (fun c9 => ?_)
  refine lv_aload_n hx hb dL_values_714 rfl (lv_at hl 7 rfl) ?_
  refine lv_iconst (v := 0) hx hb dL_values_715 (by decide) ?_
  refine o_restore0 hlt cx cl HQ J  (q := pg) rfl (r0 := (pg 8)) rfl hP hD hS gL_values_L_tryRestore ⟨Nat.le_of_ble_eq_true rfl, Nat.le_of_ble_eq_true rfl⟩ hl (Nat.le_of_ble_eq_true rfl) dL_values_716 ⟨Nat.le_of_ble_eq_true rfl, Nat.le_of_ble_eq_true rfl⟩ (fun x H locs J hP hD hS => ?_)
  have J : JNV x n tt pg ([]) (some pg) k1 := J
  refine lv_iload_n hx hb dL_values_719 rfl (lv_at hl 5 rfl) ?_
  refine lv_icmp_ne (tgt := 736) hx hb dL_values_720 (by decide) (fun c9 => absurd rfl c9) (fun c9 => ?_)
  refine lv_aload_n hx hb dL_values_723 rfl (lv_at hl 7 rfl) ?_
  refine n_undo hlt cx cl HQ J  rfl hP hD hS gL_values_L_tryUndo ⟨Nat.le_of_ble_eq_true rfl, Nat.le_of_ble_eq_true rfl⟩ hl (Nat.le_of_ble_eq_true rfl) dL_values_724 ⟨Nat.le_of_ble_eq_true rfl, Nat.le_of_ble_eq_true rfl⟩ (fun H locs hP hD hS => ?_)
  refine k_ldc (v := (-999900003)) cx (by decide +kernel) dL_values_727 ?_
  refine lv_icmp_ne (tgt := 736) hx hb dL_values_729 (by decide) (fun c9 => absurd (by decide) c9) (fun c9 => ?_)
  refine lv_iconst (v := 1) hx hb dL_values_732 (by decide) ?_
  refine lv_goto (tgt := 737) hx hb dL_values_733 (by decide) ?_
  exact k_retG (u := x) cx (nz (Or.inr rfl)) ⟨rfl, J⟩ hP hS ⟨Nat.le_of_ble_eq_true rfl, Nat.le_of_ble_eq_true rfl⟩ dL_values_737

set_option maxRecDepth 100000 in
set_option maxHeartbeats 4000000 in
theorem vl_13_3 (hlt : l.stackTraces = false) (cx : Cx p s m args meth c cL_values 15 RL wsL_values (some .boolean) G A) (cl : CL s A b L xs) {d : AD} (HQ : PQd d) {x : XT} {x9 : Int32} {hs : List Pg} {w : Int32} (J : JNV x n tt (upd pg 4 w) hs (some pg) k1)  (hpv : PV pg) (HO : OKP pg) (hx9 : 0 ≤ x9.toInt) (hA0 : aQ 3 ((P_X4_bestArms z0 (upd pg 4 w) (pg 10)).1, (P_X4_bestArms z0 (upd pg 4 w) (pg 10)).2) = 3) (hu : (P_X4_unknown pg).toInt ≤ 9) {H : Heap} {locs : List Loc} {ls : Array Slot} (hP : va_P G.1 vwCl (wB G d x []) H) (hD : va_D A (wB G d x [])) (hS : va_S A s.heap H locs) (hl : lv_has ls 15 [(5, .int (pg 10)), (4, .int 1), (3, .int (pg 2)), (2, .int (pg 8)), (1, .int x9), (0, .ref d.1)])  : W p l e rmL_values s m args below meth c H locs 58 348 (MQ below (qG G (fun x : XT => wB G d x []) (fun r x => r = 1 ∧ JNV x n tt pg [] (some pg) k1) A) args s 80 480 A) (F0 m 579 ls []) := by
  obtain ⟨hx, hb, hml, hown, hts, hr, hlocks, hK, hA⟩ := id cx
  refine lv_aload_n hx hb dL_values_579 rfl (lv_at hl 5 rfl) ?_
  refine lv_iload hx hb dL_values_580 (lv_at hl 0 rfl) ?_
  refine o_bestArms hlt cx cl HQ J (pg 10) (r0 := 3) hA0 hP hD hS gL_values_L_tryBestArms ⟨Nat.le_of_ble_eq_true rfl, Nat.le_of_ble_eq_true rfl⟩ hl (Nat.le_of_ble_eq_true rfl) dL_values_582 ⟨Nat.le_of_ble_eq_true rfl, Nat.le_of_ble_eq_true rfl⟩ (fun H locs hP hD hS => ?_)
  refine lv_istore (lv' := [(13, .int 3), (5, .int (pg 10)), (4, .int 1), (3, .int (pg 2)), (2, .int (pg 8)), (1, .int x9), (0, .ref d.1)]) hx hb dL_values_585 hl (by decide) rfl (fun ls hl => ?_)
  refine lv_iload hx hb dL_values_587 (lv_at hl 2 rfl) ?_
  refine lv_if_eq (tgt := 631) hx hb dL_values_589 (by decide) (fun c9 => absurd c9 (by decide)) (fun c9 => ?_)
  refine lv_aload_n hx hb dL_values_592 rfl (lv_at hl 6 rfl) ?_
  refine lv_iconst (v := 0) hx hb dL_values_593 (by decide) ?_
  refine o_restore0 hlt cx cl HQ J  (q := pg) rfl (r0 := (pg 8)) rfl hP hD hS gL_values_L_tryRestore ⟨Nat.le_of_ble_eq_true rfl, Nat.le_of_ble_eq_true rfl⟩ hl (Nat.le_of_ble_eq_true rfl) dL_values_594 ⟨Nat.le_of_ble_eq_true rfl, Nat.le_of_ble_eq_true rfl⟩ (fun x H locs J hP hD hS => ?_)
  have J : JNV x n tt pg ([]) (some pg) k1 := J
  refine lv_iload_n hx hb dL_values_597 rfl (lv_at hl 4 rfl) ?_
  refine lv_icmp_ne (tgt := 631) hx hb dL_values_598 (by decide) (fun c9 => absurd rfl c9) (fun c9 => ?_)
  refine lv_aload_n hx hb dL_values_601 rfl (lv_at hl 6 rfl) ?_
  refine lv_iconst (v := 0) hx hb dL_values_602 (by decide) ?_
  refine lv_iload hx hb dL_values_603 (lv_at hl 0 rfl) ?_
  refine lv_bipush (v := 10) hx hb dL_values_605 (by decide) ?_
  refine lv_idiv hx hb dL_values_607 (by decide) ?_
  refine o_set hlt cx cl HQ J 0 (3 / 10) (by decide) (r0 := (pg 0)) rfl hP hD hS gL_values_L_trySet ⟨Nat.le_of_ble_eq_true rfl, Nat.le_of_ble_eq_true rfl⟩ hl (Nat.le_of_ble_eq_true rfl) dL_values_608 ⟨Nat.le_of_ble_eq_true rfl, Nat.le_of_ble_eq_true rfl⟩ (fun x H locs J hP hD hS => ?_)
  have J : JNV x n tt (upd pg 0 (3 / 10)) (push ([]) pg) (some pg) k1 := J
  refine lv_if_lt (tgt := 631) hx hb dL_values_611 (by decide) (fun c9 => absurd c9 (ng0 HO.2.1)) (fun c9 => ?_)
  refine lv_aload_n hx hb dL_values_614 rfl (lv_at hl 6 rfl) ?_
  refine lv_iconst (v := 1) hx hb dL_values_615 (by decide) ?_
  refine lv_iload hx hb dL_values_616 (lv_at hl 0 rfl) ?_
  refine lv_bipush (v := 10) hx hb dL_values_618 (by decide) ?_
  refine lv_irem hx hb dL_values_620 (by decide) ?_
  refine o_set hlt cx cl HQ J 1 (3 - 3 / 10 * 10) (by decide) (r0 := (pg 1)) rfl hP hD hS gL_values_L_trySet ⟨Nat.le_of_ble_eq_true rfl, Nat.le_of_ble_eq_true rfl⟩ hl (Nat.le_of_ble_eq_true rfl) dL_values_621 ⟨Nat.le_of_ble_eq_true rfl, Nat.le_of_ble_eq_true rfl⟩ (fun x H locs J hP hD hS => ?_)
  have J : JNV x n tt (upd (upd pg 0 (3 / 10)) 1 (3 - 3 / 10 * 10)) (push (push ([]) pg) (upd pg 0 (3 / 10))) (some pg) k1 := J
  refine lv_if_lt (tgt := 631) hx hb dL_values_624 (by decide) (fun c9 => absurd c9 (ng0 HO.2.2.1)) (fun c9 => ?_)
  refine lv_iconst (v := 1) hx hb dL_values_627 (by decide) ?_
  refine lv_goto (tgt := 632) hx hb dL_values_628 (by decide) ?_
  refine lv_istore (lv' := [(4, .int 1), (13, .int 3), (5, .int (pg 10)), (3, .int (pg 2)), (2, .int (pg 8)), (1, .int x9), (0, .ref d.1)]) hx hb dL_values_632 hl (by decide) rfl (fun ls hl => ?_)
  refine lv_iload hx hb dL_values_634 (lv_at hl 1 rfl) ?_
  refine lv_bipush (v := 10) hx hb dL_values_636 (by decide) ?_
  refine lv_idiv hx hb dL_values_638 (by decide) ?_
  refine lv_if_ne (tgt := 646) hx hb dL_values_639 (by decide) (fun c9 => absurd (by decide) c9) (fun c9 => ?_)
  refine lv_iconst (v := 1) hx hb dL_values_642 (by decide) ?_
  refine lv_goto (tgt := 677) hx hb dL_values_643 (by decide) ?_
  refine lv_istore (lv' := [(14, .int 1), (4, .int 1), (13, .int 3), (5, .int (pg 10)), (3, .int (pg 2)), (2, .int (pg 8)), (1, .int x9), (0, .ref d.1)]) hx hb dL_values_677 hl (by decide) rfl (fun ls hl => ?_)
  refine lv_iload hx hb dL_values_679 (lv_at hl 1 rfl) ?_
  refine lv_if_eq (tgt := 736) hx hb dL_values_681 (by decide) (fun c9 => absurd c9 (by decide)) (fun c9 => ?_)
  obtain ⟨bst, hb1, hb2, hb3⟩ := bv_2 hpv J.pv (by decide) (by have e : (P_X4_ten (3 - 3 / 10 * 10)).toInt = 1000 := by decide
                                                               rw [e]; omega)
  refine lv_aload_n hx hb dL_values_684 rfl (lv_at hl 7 rfl) ?_
  refine lv_iconst (v := 2) hx hb dL_values_685 (by decide) ?_
  refine lv_aload_n hx hb dL_values_686 rfl (lv_at hl 7 rfl) ?_
  refine lv_iload hx hb dL_values_687 (lv_at hl 3 rfl) ?_
  refine o_bestR hlt cx cl HQ J (pg 10) (r0 := bst) hb1 hP hD hS gL_values_L_tryBestR ⟨Nat.le_of_ble_eq_true rfl, Nat.le_of_ble_eq_true rfl⟩ hl (Nat.le_of_ble_eq_true rfl) dL_values_689 ⟨Nat.le_of_ble_eq_true rfl, Nat.le_of_ble_eq_true rfl⟩ (fun H locs hP hD hS => ?_)
  refine o_set hlt cx cl HQ J 2 bst (set_2 hb2) (r0 := (pg 2)) rfl hP hD hS gL_values_L_trySet ⟨Nat.le_of_ble_eq_true rfl, Nat.le_of_ble_eq_true rfl⟩ hl (Nat.le_of_ble_eq_true rfl) dL_values_692 ⟨Nat.le_of_ble_eq_true rfl, Nat.le_of_ble_eq_true rfl⟩ (fun x H locs J hP hD hS => ?_)
  have J : JNV x n tt (upd (upd (upd pg 0 (3 / 10)) 1 (3 - 3 / 10 * 10)) 2 bst) (push (push (push ([]) pg) (upd pg 0 (3 / 10))) (upd (upd pg 0 (3 / 10)) 1 (3 - 3 / 10 * 10))) (some pg) k1 := J
  refine lv_iload_n hx hb dL_values_695 rfl (lv_at hl 4 rfl) ?_
  refine lv_icmp_ne (tgt := 736) hx hb dL_values_696 (by decide) (fun c9 => absurd rfl c9) (fun c9 => ?_)
  refine lv_iconst (v := 2) hx hb dL_values_699 (by decide) ?_
  refine lv_aload_n hx hb dL_values_700 rfl (lv_at hl 7 rfl) ?_
  refine lv_iconst (v := 0) hx hb dL_values_701 (by decide) ?_
  refine o_bridge hlt cx cl HQ J 0 (r0 := 0) hb3 hP hD hS gL_values_L_tryBridge ⟨Nat.le_of_ble_eq_true rfl, Nat.le_of_ble_eq_true rfl⟩ hl (Nat.le_of_ble_eq_true rfl) dL_values_702 ⟨Nat.le_of_ble_eq_true rfl, Nat.le_of_ble_eq_true rfl⟩ (fun H locs hP hD hS => ?_)
  refine kc0 (n := 1) (As := [.int 0]) cx cl (c_L_size l hlt G b L xs 0) trivial hP hD hS gL_values_L_size rfl rfl rfl (by decide +kernel) ⟨Nat.le_of_ble_eq_true rfl, Nat.le_of_ble_eq_true rfl⟩ rfl rfl hl (Nat.le_of_ble_eq_true rfl) dL_values_705 ⟨Nat.le_of_ble_eq_true rfl, Nat.le_of_ble_eq_true rfl⟩ (fun r9 H locs h9 hP hD hS => ?_)
  rw [h9]
  refine lv_imul hx hb dL_values_708 ?_
  refine lv_iload hx hb dL_values_709 (lv_at hl 0 rfl) ?_
  refine lv_icmp_gt (tgt := 736) hx hb dL_values_711 (by decide) (fun c9 => absurd c9 (by decide)) (fun c9 => ?_)
  refine lv_aload_n hx hb dL_values_714 rfl (lv_at hl 7 rfl) ?_
  refine lv_iconst (v := 0) hx hb dL_values_715 (by decide) ?_
  refine o_restore0 hlt cx cl HQ J  (q := pg) rfl (r0 := (pg 8)) rfl hP hD hS gL_values_L_tryRestore ⟨Nat.le_of_ble_eq_true rfl, Nat.le_of_ble_eq_true rfl⟩ hl (Nat.le_of_ble_eq_true rfl) dL_values_716 ⟨Nat.le_of_ble_eq_true rfl, Nat.le_of_ble_eq_true rfl⟩ (fun x H locs J hP hD hS => ?_)
  have J : JNV x n tt pg ([]) (some pg) k1 := J
  refine lv_iload_n hx hb dL_values_719 rfl (lv_at hl 5 rfl) ?_
  refine lv_icmp_ne (tgt := 736) hx hb dL_values_720 (by decide) (fun c9 => absurd rfl c9) (fun c9 => ?_)
  refine lv_aload_n hx hb dL_values_723 rfl (lv_at hl 7 rfl) ?_
  refine n_undo hlt cx cl HQ J  rfl hP hD hS gL_values_L_tryUndo ⟨Nat.le_of_ble_eq_true rfl, Nat.le_of_ble_eq_true rfl⟩ hl (Nat.le_of_ble_eq_true rfl) dL_values_724 ⟨Nat.le_of_ble_eq_true rfl, Nat.le_of_ble_eq_true rfl⟩ (fun H locs hP hD hS => ?_)
  refine k_ldc (v := (-999900003)) cx (by decide +kernel) dL_values_727 ?_
  refine lv_icmp_ne (tgt := 736) hx hb dL_values_729 (by decide) (fun c9 => absurd (by decide) c9) (fun c9 => ?_)
  refine lv_iconst (v := 1) hx hb dL_values_732 (by decide) ?_
  refine lv_goto (tgt := 737) hx hb dL_values_733 (by decide) ?_
  exact k_retG (u := x) cx (nz (Or.inr rfl)) ⟨rfl, J⟩ hP hS ⟨Nat.le_of_ble_eq_true rfl, Nat.le_of_ble_eq_true rfl⟩ dL_values_737

set_option maxRecDepth 100000 in
set_option maxHeartbeats 4000000 in
theorem vl_12 (hlt : l.stackTraces = false) (cx : Cx p s m args meth c cL_values 15 RL wsL_values (some .boolean) G A) (cl : CL s A b L xs) {d : AD} (HQ : PQd d) {x : XT} {x9 w : Int32} {hs : List Pg} (J : JNV x n tt (upd pg 4 w) hs (some pg) k1) (hpv : PV pg) (HO : OKP pg) (hx9 : 0 ≤ x9.toInt) {H : Heap} {locs : List Loc} {ls : Array Slot} (hP : va_P G.1 vwCl (wB G d x []) H) (hD : va_D A (wB G d x [])) (hS : va_S A s.heap H locs) (hl : lv_has ls 15 [(5, .int (pg 10)), (4, .int 1), (3, .int (pg 2)), (2, .int (pg 8)), (1, .int x9), (0, .ref d.1)]) : W p l e rmL_values s m args below meth c H locs 58 348 (MQ below (qG G (fun x : XT => wB G d x []) (fun r x => r = 1 ∧ JNV x n tt pg [] (some pg) k1) A) args s 80 480 A) (F0 m 579 ls []) := by
  obtain ⟨A0, hA0, hq⟩ := bA_u hpv J.pv
  rcases hq with ⟨rfl, hu⟩ | ⟨rfl, hu⟩ | ⟨rfl, hu⟩ | ⟨rfl, hu⟩
  · exact vl_13_0 hlt cx cl HQ J hpv HO hx9 hA0 hu hP hD hS hl
  · exact vl_13_1 hlt cx cl HQ J hpv HO hx9 hA0 hu hP hD hS hl
  · exact vl_13_2 hlt cx cl HQ J hpv HO hx9 hA0 hu hP hD hS hl
  · exact vl_13_3 hlt cx cl HQ J hpv HO hx9 hA0 hu hP hD hS hl

set_option maxRecDepth 100000 in
set_option maxHeartbeats 4000000 in
theorem vl_lp (hlt : l.stackTraces = false) (cx : Cx p s m args meth c cL_values 15 RL wsL_values (some .boolean) G A) (cl : CL s A b L xs) {d : AD} (HQ : PQd d) {x9 en : Int32} (hpv : PV pg) (HO : OKP pg) (hx9 : 0 ≤ x9.toInt) (hE : ENP pg en) : ∀ (f k : Nat), k + f = 4 → ∀ {x : XT} {w : Int32} {hs : List Pg} {H : Heap} {locs : List Loc} {ls : Array Slot} (hw : 0 ≤ w.toInt) (J : JNV x n tt (upd pg 4 w) hs (some pg) k1) (hP : va_P G.1 vwCl (wB G d x []) H) (hD : va_D A (wB G d x [])) (hS : va_S A s.heap H locs) (hl : lv_has ls 15 [(13, .int (nI k)), (12, .int en), (5, .int (pg 10)), (4, .int 1), (3, .int (pg 2)), (2, .int (pg 8)), (1, .int x9), (0, .ref d.1)]), W p l e rmL_values s m args below meth c H locs (46 + 3 * k) (276 + 18 * k) (MQ below (qG G (fun x : XT => wB G d x []) (fun r x => r = 1 ∧ JNV x n tt pg [] (some pg) k1) A) args s 80 480 A) (F0 m 466 ls []) := by
  obtain ⟨hx, hb, hml, hown, hts, hr, hlocks, hK, hA⟩ := id cx
  intro f
  induction f with
  | zero =>
    intro k ht x w hs H locs ls hw J hP hD hS hl
    have et : k = 4 := by omega
    subst et
    refine lv_iload hx hb dL_values_466 (lv_at hl 0 rfl) ?_
    refine lv_iconst (v := 4) hx hb dL_values_468 (by decide) ?_
    refine lv_icmp_ge (tgt := 579) hx hb dL_values_469 (by decide) (fun c9 => ?_) (fun c9 => absurd (nI_le (Nat.le_refl 4) (by decide)) c9)
    exact vl_12 hlt cx cl HQ J hpv HO hx9 hP hD hS (lv_sub hl [2, 3, 4, 5, 6, 7] rfl)
  | succ f ih =>
    intro k ht x w hs H locs ls hw J hP hD hS hl
    have hk : k < 4 := by omega
    refine lv_iload hx hb dL_values_466 (lv_at hl 0 rfl) ?_
    refine lv_iconst (v := 4) hx hb dL_values_468 (by decide) ?_
    refine lv_icmp_ge (tgt := 579) hx hb dL_values_469 (by decide) (fun c9 => absurd c9 (nI_ge (a := k) (b := 4) (by omega) (by decide))) (fun c9 => ?_)
    refine lv_iload hx hb dL_values_472 (lv_at hl 3 rfl) ?_
    refine lv_if_eq (tgt := 579) hx hb dL_values_474 (by decide) (fun c9 => absurd c9 (by decide)) (fun c9 => ?_)
    refine lv_aload_n hx hb dL_values_477 rfl (lv_at hl 7 rfl) ?_
    refine lv_iconst (v := 4) hx hb dL_values_478 (by decide) ?_
    refine lv_iload hx hb dL_values_479 (lv_at hl 0 rfl) ?_
    refine o_set hlt cx cl HQ J 4 (nI k) (set_4 hk) (r0 := w) rfl hP hD hS gL_values_L_trySet ⟨Nat.le_of_ble_eq_true rfl, Nat.le_of_ble_eq_true rfl⟩ hl (Nat.le_of_ble_eq_true rfl) dL_values_481 ⟨Nat.le_trans (m := 80) (by omega) (Nat.le_refl _), Nat.le_trans (m := 480) (by omega) (Nat.le_refl _)⟩ (fun x H locs J hP hD hS => ?_)
    have J : JNV x n tt (upd (upd pg 4 w) 4 (nI k)) (push hs (upd pg 4 w)) (some pg) k1 := J
    have J : JNV x n tt (upd pg 4 (nI k)) (push hs (upd pg 4 w)) (some pg) k1 := by rw [upd_upd] at J; exact J
    refine lv_if_lt (tgt := 491) hx hb dL_values_484 (by decide) (fun c9 => absurd c9 (ng0 hw)) (fun c9 => ?_)
    refine lv_iconst (v := 1) hx hb dL_values_487 (by decide) ?_
    refine lv_goto (tgt := 492) hx hb dL_values_488 (by decide) ?_
    refine lv_istore (lv' := [(4, .int 1), (13, .int (nI k)), (12, .int en), (5, .int (pg 10)), (3, .int (pg 2)), (2, .int (pg 8)), (1, .int x9), (0, .ref d.1)]) hx hb dL_values_492 hl (by decide) rfl (fun ls hl => ?_)
    refine lv_aload_n hx hb dL_values_494 rfl (lv_at hl 7 rfl) ?_
    refine lv_iconst (v := 3) hx hb dL_values_495 (by decide) ?_
    refine o_bridge hlt cx cl HQ J 3 (r0 := (P_X4_rawOf pg 0 (nI k))) (br_3.trans (raw_u4 hpv _ _ _)) hP hD hS gL_values_L_tryBridge ⟨Nat.le_of_ble_eq_true rfl, Nat.le_of_ble_eq_true rfl⟩ hl (Nat.le_of_ble_eq_true rfl) dL_values_496 ⟨Nat.le_trans (m := 80) (by omega) (Nat.le_refl _), Nat.le_trans (m := 480) (by omega) (Nat.le_refl _)⟩ (fun H locs hP hD hS => ?_)
    refine kc0 (n := 1) (As := [.int (P_X4_rawOf pg 0 (nI k))]) cx cl (c_L_size l hlt G b L xs (P_X4_rawOf pg 0 (nI k))) trivial hP hD hS gL_values_L_size rfl rfl rfl (by decide +kernel) ⟨Nat.le_of_ble_eq_true rfl, Nat.le_of_ble_eq_true rfl⟩ rfl rfl hl (Nat.le_of_ble_eq_true rfl) dL_values_499 ⟨Nat.le_trans (m := 80) (by omega) (Nat.le_refl _), Nat.le_trans (m := 480) (by omega) (Nat.le_refl _)⟩ (fun r9 H locs h9 hP hD hS => ?_)
    rw [h9]
    refine lv_sipush (v := 500) hx hb dL_values_502 (by decide) ?_
    refine lv_icmp_gt (tgt := 526) hx hb dL_values_505 (by decide) (fun c505 => ?_) (fun c505 => ?_)
    · refine lv_iconst (v := 0) hx hb dL_values_526 (by decide) ?_
      refine lv_istore (lv' := [(14, .int 0), (4, .int 1), (13, .int (nI k)), (12, .int en), (5, .int (pg 10)), (3, .int (pg 2)), (2, .int (pg 8)), (1, .int x9), (0, .ref d.1)]) hx hb dL_values_527 hl (by decide) rfl (fun ls hl => ?_)
      refine lv_iload hx hb dL_values_529 (lv_at hl 1 rfl) ?_
      refine lv_if_eq (tgt := 570) hx hb dL_values_531 (by decide) (fun c9 => absurd c9 (by decide)) (fun c9 => ?_)
      refine lv_iload hx hb dL_values_534 (lv_at hl 3 rfl) ?_
      refine lv_iload hx hb dL_values_536 (lv_at hl 2 rfl) ?_
      refine lv_icmp_ne (tgt := 546) hx hb dL_values_538 (by decide) (fun c9 => ?_) (fun c9 => absurd c9 (en_no hE hk (fun q => q.1 c505)))
      refine lv_iload hx hb dL_values_546 (lv_at hl 0 rfl) ?_
      refine lv_if_eq (tgt := 566) hx hb dL_values_548 (by decide) (fun c9 => ?_) (fun c9 => absurd (by decide) c9)
      refine lv_iconst (v := 1) hx hb dL_values_566 (by decide) ?_
      refine lv_goto (tgt := 571) hx hb dL_values_567 (by decide) ?_
      refine lv_istore (lv' := [(4, .int 1), (14, .int 0), (13, .int (nI k)), (12, .int en), (5, .int (pg 10)), (3, .int (pg 2)), (2, .int (pg 8)), (1, .int x9), (0, .ref d.1)]) hx hb dL_values_571 hl (by decide) rfl (fun ls hl => ?_)
      refine lv_iinc (v := (nI (k + 1))) (lv' := [(13, .int (nI (k + 1))), (4, .int 1), (14, .int 0), (12, .int en), (5, .int (pg 10)), (3, .int (pg 2)), (2, .int (pg 8)), (1, .int x9), (0, .ref d.1)]) hx hb dL_values_573 hl (k := 2) rfl (nI_1 k) (by decide) rfl (fun ls hl => ?_)
      refine lv_goto (tgt := 466) hx hb dL_values_576 (by decide) ?_
      refine W.widen (k := 46 + 3 * (k + 1)) (n := 276 + 18 * (k + 1)) (by omega) (by omega) ?_
      exact ih (k + 1) (by omega) (by rw [nI_toInt (by omega)]; omega) J hP hD hS (lv_sub hl [0, 3, 4, 1, 5, 6, 7, 8] rfl)
    · refine lv_aload_n hx hb dL_values_508 rfl (lv_at hl 7 rfl) ?_
      refine lv_iconst (v := 4) hx hb dL_values_509 (by decide) ?_
      refine o_bridge hlt cx cl HQ J 4 (r0 := (P_X4_rawOf pg 1 (nI k))) (br_4.trans (raw_u4 hpv _ _ _)) hP hD hS gL_values_L_tryBridge ⟨Nat.le_of_ble_eq_true rfl, Nat.le_of_ble_eq_true rfl⟩ hl (Nat.le_of_ble_eq_true rfl) dL_values_510 ⟨Nat.le_trans (m := 80) (by omega) (Nat.le_refl _), Nat.le_trans (m := 480) (by omega) (Nat.le_refl _)⟩ (fun H locs hP hD hS => ?_)
      refine kc0 (n := 1) (As := [.int (P_X4_rawOf pg 1 (nI k))]) cx cl (c_L_size l hlt G b L xs (P_X4_rawOf pg 1 (nI k))) trivial hP hD hS gL_values_L_size rfl rfl rfl (by decide +kernel) ⟨Nat.le_of_ble_eq_true rfl, Nat.le_of_ble_eq_true rfl⟩ rfl rfl hl (Nat.le_of_ble_eq_true rfl) dL_values_513 ⟨Nat.le_trans (m := 80) (by omega) (Nat.le_refl _), Nat.le_trans (m := 480) (by omega) (Nat.le_refl _)⟩ (fun r9 H locs h9 hP hD hS => ?_)
      rw [h9]
      refine lv_sipush (v := 500) hx hb dL_values_516 (by decide) ?_
      refine lv_icmp_gt (tgt := 526) hx hb dL_values_519 (by decide) (fun c519 => ?_) (fun c519 => ?_)
      · refine lv_iconst (v := 0) hx hb dL_values_526 (by decide) ?_
        refine lv_istore (lv' := [(14, .int 0), (4, .int 1), (13, .int (nI k)), (12, .int en), (5, .int (pg 10)), (3, .int (pg 2)), (2, .int (pg 8)), (1, .int x9), (0, .ref d.1)]) hx hb dL_values_527 hl (by decide) rfl (fun ls hl => ?_)
        refine lv_iload hx hb dL_values_529 (lv_at hl 1 rfl) ?_
        refine lv_if_eq (tgt := 570) hx hb dL_values_531 (by decide) (fun c9 => absurd c9 (by decide)) (fun c9 => ?_)
        refine lv_iload hx hb dL_values_534 (lv_at hl 3 rfl) ?_
        refine lv_iload hx hb dL_values_536 (lv_at hl 2 rfl) ?_
        refine lv_icmp_ne (tgt := 546) hx hb dL_values_538 (by decide) (fun c9 => ?_) (fun c9 => absurd c9 (en_no hE hk (fun q => q.2 c519)))
        refine lv_iload hx hb dL_values_546 (lv_at hl 0 rfl) ?_
        refine lv_if_eq (tgt := 566) hx hb dL_values_548 (by decide) (fun c9 => ?_) (fun c9 => absurd (by decide) c9)
        refine lv_iconst (v := 1) hx hb dL_values_566 (by decide) ?_
        refine lv_goto (tgt := 571) hx hb dL_values_567 (by decide) ?_
        refine lv_istore (lv' := [(4, .int 1), (14, .int 0), (13, .int (nI k)), (12, .int en), (5, .int (pg 10)), (3, .int (pg 2)), (2, .int (pg 8)), (1, .int x9), (0, .ref d.1)]) hx hb dL_values_571 hl (by decide) rfl (fun ls hl => ?_)
        refine lv_iinc (v := (nI (k + 1))) (lv' := [(13, .int (nI (k + 1))), (4, .int 1), (14, .int 0), (12, .int en), (5, .int (pg 10)), (3, .int (pg 2)), (2, .int (pg 8)), (1, .int x9), (0, .ref d.1)]) hx hb dL_values_573 hl (k := 2) rfl (nI_1 k) (by decide) rfl (fun ls hl => ?_)
        refine lv_goto (tgt := 466) hx hb dL_values_576 (by decide) ?_
        refine W.widen (k := 46 + 3 * (k + 1)) (n := 276 + 18 * (k + 1)) (by omega) (by omega) ?_
        exact ih (k + 1) (by omega) (by rw [nI_toInt (by omega)]; omega) J hP hD hS (lv_sub hl [0, 3, 4, 1, 5, 6, 7, 8] rfl)
      · refine lv_iconst (v := 1) hx hb dL_values_522 (by decide) ?_
        refine lv_goto (tgt := 527) hx hb dL_values_523 (by decide) ?_
        refine lv_istore (lv' := [(14, .int 1), (4, .int 1), (13, .int (nI k)), (12, .int en), (5, .int (pg 10)), (3, .int (pg 2)), (2, .int (pg 8)), (1, .int x9), (0, .ref d.1)]) hx hb dL_values_527 hl (by decide) rfl (fun ls hl => ?_)
        refine lv_iload hx hb dL_values_529 (lv_at hl 1 rfl) ?_
        refine lv_if_eq (tgt := 570) hx hb dL_values_531 (by decide) (fun c9 => absurd c9 (by decide)) (fun c9 => ?_)
        refine lv_iload hx hb dL_values_534 (lv_at hl 3 rfl) ?_
        refine lv_iload hx hb dL_values_536 (lv_at hl 2 rfl) ?_
        refine lv_icmp_ne (tgt := 546) hx hb dL_values_538 (by decide) (fun c538 => ?_) (fun c538 => ?_)
        · refine lv_iload hx hb dL_values_546 (lv_at hl 0 rfl) ?_
          refine lv_if_eq (tgt := 566) hx hb dL_values_548 (by decide) (fun c9 => absurd c9 (by decide)) (fun c9 => ?_)
          refine lv_iload hx hb dL_values_551 (lv_at hl 3 rfl) ?_
          refine lv_sipush (v := (-9999)) hx hb dL_values_553 (by decide) ?_
          refine lv_icmp_eq (tgt := 570) hx hb dL_values_556 (by decide) (fun c9 => absurd c9 (en_ye hE hk ⟨c505, c519⟩).1) (fun c9 => ?_)
          refine lv_iload hx hb dL_values_559 (lv_at hl 3 rfl) ?_
          refine lv_iload hx hb dL_values_561 (lv_at hl 2 rfl) ?_
          refine lv_icmp_gt (tgt := 570) hx hb dL_values_563 (by decide) (fun c9 => absurd c9 (en_ye hE hk ⟨c505, c519⟩).2) (fun c9 => ?_)
          refine lv_iconst (v := 1) hx hb dL_values_566 (by decide) ?_
          refine lv_goto (tgt := 571) hx hb dL_values_567 (by decide) ?_
          refine lv_istore (lv' := [(4, .int 1), (14, .int 1), (13, .int (nI k)), (12, .int en), (5, .int (pg 10)), (3, .int (pg 2)), (2, .int (pg 8)), (1, .int x9), (0, .ref d.1)]) hx hb dL_values_571 hl (by decide) rfl (fun ls hl => ?_)
          refine lv_iinc (v := (nI (k + 1))) (lv' := [(13, .int (nI (k + 1))), (4, .int 1), (14, .int 1), (12, .int en), (5, .int (pg 10)), (3, .int (pg 2)), (2, .int (pg 8)), (1, .int x9), (0, .ref d.1)]) hx hb dL_values_573 hl (k := 2) rfl (nI_1 k) (by decide) rfl (fun ls hl => ?_)
          refine lv_goto (tgt := 466) hx hb dL_values_576 (by decide) ?_
          refine W.widen (k := 46 + 3 * (k + 1)) (n := 276 + 18 * (k + 1)) (by omega) (by omega) ?_
          exact ih (k + 1) (by omega) (by rw [nI_toInt (by omega)]; omega) J hP hD hS (lv_sub hl [0, 3, 4, 1, 5, 6, 7, 8] rfl)
        · refine lv_iload hx hb dL_values_541 (lv_at hl 0 rfl) ?_
          refine lv_if_eq (tgt := 570) hx hb dL_values_543 (by decide) (fun c9 => absurd c9 (by decide)) (fun c9 => ?_)
          refine lv_iload hx hb dL_values_546 (lv_at hl 0 rfl) ?_
          refine lv_if_eq (tgt := 566) hx hb dL_values_548 (by decide) (fun c9 => absurd c9 (by decide)) (fun c9 => ?_)
          refine lv_iload hx hb dL_values_551 (lv_at hl 3 rfl) ?_
          refine lv_sipush (v := (-9999)) hx hb dL_values_553 (by decide) ?_
          refine lv_icmp_eq (tgt := 570) hx hb dL_values_556 (by decide) (fun c9 => absurd c9 (en_ye hE hk ⟨c505, c519⟩).1) (fun c9 => ?_)
          refine lv_iload hx hb dL_values_559 (lv_at hl 3 rfl) ?_
          refine lv_iload hx hb dL_values_561 (lv_at hl 2 rfl) ?_
          refine lv_icmp_gt (tgt := 570) hx hb dL_values_563 (by decide) (fun c9 => absurd c9 (en_ye hE hk ⟨c505, c519⟩).2) (fun c9 => ?_)
          refine lv_iconst (v := 1) hx hb dL_values_566 (by decide) ?_
          refine lv_goto (tgt := 571) hx hb dL_values_567 (by decide) ?_
          refine lv_istore (lv' := [(4, .int 1), (14, .int 1), (13, .int (nI k)), (12, .int en), (5, .int (pg 10)), (3, .int (pg 2)), (2, .int (pg 8)), (1, .int x9), (0, .ref d.1)]) hx hb dL_values_571 hl (by decide) rfl (fun ls hl => ?_)
          refine lv_iinc (v := (nI (k + 1))) (lv' := [(13, .int (nI (k + 1))), (4, .int 1), (14, .int 1), (12, .int en), (5, .int (pg 10)), (3, .int (pg 2)), (2, .int (pg 8)), (1, .int x9), (0, .ref d.1)]) hx hb dL_values_573 hl (k := 2) rfl (nI_1 k) (by decide) rfl (fun ls hl => ?_)
          refine lv_goto (tgt := 466) hx hb dL_values_576 (by decide) ?_
          refine W.widen (k := 46 + 3 * (k + 1)) (n := 276 + 18 * (k + 1)) (by omega) (by omega) ?_
          exact ih (k + 1) (by omega) (by rw [nI_toInt (by omega)]; omega) J hP hD hS (lv_sub hl [0, 3, 4, 1, 5, 6, 7, 8] rfl)

set_option maxRecDepth 100000 in
set_option maxHeartbeats 4000000 in
theorem vl_11 (hlt : l.stackTraces = false) (cx : Cx p s m args meth c cL_values 15 RL wsL_values (some .boolean) G A) (cl : CL s A b L xs) {d : AD} (HQ : PQd d) {x : XT} {x9 en : Int32} (J : JNV x n tt pg ([]) (some pg) k1)  (hpv : PV pg) (HO : OKP pg) (hx9 : 0 ≤ x9.toInt) (hen : (P_X4_enoughShunt z0 pg).1 = en) (hE : ENP pg en) {H : Heap} {locs : List Loc} {ls : Array Slot} (hP : va_P G.1 vwCl (wB G d x []) H) (hD : va_D A (wB G d x [])) (hS : va_S A s.heap H locs) (hl : lv_has ls 15 [(5, .int (pg 10)), (4, .int 1), (3, .int (pg 2)), (2, .int (pg 8)), (1, .int x9), (0, .ref d.1)])  : W p l e rmL_values s m args below meth c H locs 46 276 (MQ below (qG G (fun x : XT => wB G d x []) (fun r x => r = 1 ∧ JNV x n tt pg [] (some pg) k1) A) args s 80 480 A) (F0 m 457 ls []) := by
  obtain ⟨hx, hb, hml, hown, hts, hr, hlocks, hK, hA⟩ := id cx
  refine lv_aload_n hx hb dL_values_457 rfl (lv_at hl 5 rfl) ?_
  refine o_enoughShunt hlt cx cl HQ J  (r0 := en) hen hP hD hS gL_values_X3_enoughShunt ⟨Nat.le_of_ble_eq_true rfl, Nat.le_of_ble_eq_true rfl⟩ hl (Nat.le_of_ble_eq_true rfl) dL_values_458 ⟨Nat.le_of_ble_eq_true rfl, Nat.le_of_ble_eq_true rfl⟩ (fun H locs hP hD hS => ?_)
  refine lv_istore (lv' := [(12, .int en), (5, .int (pg 10)), (4, .int 1), (3, .int (pg 2)), (2, .int (pg 8)), (1, .int x9), (0, .ref d.1)]) hx hb dL_values_461 hl (by decide) rfl (fun ls hl => ?_)
  refine lv_iconst (v := 0) hx hb dL_values_463 (by decide) ?_
  refine lv_istore (lv' := [(13, .int 0), (12, .int en), (5, .int (pg 10)), (4, .int 1), (3, .int (pg 2)), (2, .int (pg 8)), (1, .int x9), (0, .ref d.1)]) hx hb dL_values_464 hl (by decide) rfl (fun ls hl => ?_)
  exact vl_lp hlt cx cl HQ hpv HO hx9 hE 4 0 (by decide) HO.2.2.2 (by rw [upd_self]; exact J) hP hD hS (lv_sub hl [0, 1, 2, 3, 4, 5, 6, 7] rfl)

set_option maxRecDepth 100000 in
set_option maxHeartbeats 4000000 in
theorem vl_10 (hlt : l.stackTraces = false) (cx : Cx p s m args meth c cL_values 15 RL wsL_values (some .boolean) G A) (cl : CL s A b L xs) {d : AD} (HQ : PQd d) {x : XT} {x9 : Int32} {hs : List Pg} {w se : Int32} (J : JNV x n tt (upd pg 2 w) hs (some pg) k1)  (hpv : PV pg) (HO : OKP pg) (hx9 : 0 ≤ x9.toInt) (hw : RB w) (hse2 : se = (if (P_X4_size (upV pg - (P_X4_trueOf pg (pg 2) (pg 4)))) ≤ (P_X4_size (dnV pg - (P_X4_trueOf pg (pg 2) (pg 4)))) then (P_X4_size (dnV pg - (P_X4_trueOf pg (pg 2) (pg 4)))) else (P_X4_size (upV pg - (P_X4_trueOf pg (pg 2) (pg 4)))))) {H : Heap} {locs : List Loc} {ls : Array Slot} (hP : va_P G.1 vwCl (wB G d x []) H) (hD : va_D A (wB G d x [])) (hS : va_S A s.heap H locs) (hl : lv_has ls 15 [(10, .int (upV pg)), (9, .int (P_X4_trueOf pg (pg 2) (pg 4))), (8, .int se), (5, .int (pg 10)), (4, .int 1), (3, .int (pg 2)), (2, .int (pg 8)), (1, .int x9), (0, .ref d.1)])  : W p l e rmL_values s m args below meth c H locs 45 270 (MQ below (qG G (fun x : XT => wB G d x []) (fun r x => r = 1 ∧ JNV x n tt pg [] (some pg) k1) A) args s 80 480 A) (F0 m 391 ls [.int (dnV pg)]) := by
  obtain ⟨hx, hb, hml, hown, hts, hr, hlocks, hK, hA⟩ := id cx
  refine lv_istore (lv' := [(11, .int (dnV pg)), (10, .int (upV pg)), (9, .int (P_X4_trueOf pg (pg 2) (pg 4))), (8, .int se), (5, .int (pg 10)), (4, .int 1), (3, .int (pg 2)), (2, .int (pg 8)), (1, .int x9), (0, .ref d.1)]) hx hb dL_values_391 hl (by decide) rfl (fun ls hl => ?_)
  refine lv_iload hx hb dL_values_393 (lv_at hl 5 rfl) ?_
  refine lv_if_eq (tgt := 454) hx hb dL_values_395 (by decide) (fun c9 => absurd c9 (by decide)) (fun c9 => ?_)
  refine lv_aload_n hx hb dL_values_398 rfl (lv_at hl 9 rfl) ?_
  refine lv_iconst (v := 0) hx hb dL_values_399 (by decide) ?_
  refine o_restore0 hlt cx cl HQ J  (q := pg) rfl (r0 := (pg 8)) rfl hP hD hS gL_values_L_tryRestore ⟨Nat.le_of_ble_eq_true rfl, Nat.le_of_ble_eq_true rfl⟩ hl (Nat.le_of_ble_eq_true rfl) dL_values_400 ⟨Nat.le_of_ble_eq_true rfl, Nat.le_of_ble_eq_true rfl⟩ (fun x H locs J hP hD hS => ?_)
  have J : JNV x n tt pg ([]) (some pg) k1 := J
  refine lv_iload_n hx hb dL_values_403 rfl (lv_at hl 7 rfl) ?_
  refine lv_icmp_ne (tgt := 454) hx hb dL_values_404 (by decide) (fun c9 => absurd rfl c9) (fun c9 => ?_)
  refine lv_iload hx hb dL_values_407 (lv_at hl 3 rfl) ?_
  refine lv_iload hx hb dL_values_409 (lv_at hl 1 rfl) ?_
  refine lv_iload hx hb dL_values_411 (lv_at hl 2 rfl) ?_
  refine lv_isub hx hb dL_values_413 ?_
  refine kc0 (n := 1) (As := [.int ((upV pg) - (P_X4_trueOf pg (pg 2) (pg 4)))]) cx cl (c_L_size l hlt G b L xs ((upV pg) - (P_X4_trueOf pg (pg 2) (pg 4)))) trivial hP hD hS gL_values_L_size rfl rfl rfl (by decide +kernel) ⟨Nat.le_of_ble_eq_true rfl, Nat.le_of_ble_eq_true rfl⟩ rfl rfl hl (Nat.le_of_ble_eq_true rfl) dL_values_414 ⟨Nat.le_of_ble_eq_true rfl, Nat.le_of_ble_eq_true rfl⟩ (fun r9 H locs h9 hP hD hS => ?_)
  rw [h9]
  refine lv_iload hx hb dL_values_417 (lv_at hl 0 rfl) ?_
  refine lv_iload hx hb dL_values_419 (lv_at hl 2 rfl) ?_
  refine lv_isub hx hb dL_values_421 ?_
  refine kc0 (n := 1) (As := [.int ((dnV pg) - (P_X4_trueOf pg (pg 2) (pg 4)))]) cx cl (c_L_size l hlt G b L xs ((dnV pg) - (P_X4_trueOf pg (pg 2) (pg 4)))) trivial hP hD hS gL_values_L_size rfl rfl rfl (by decide +kernel) ⟨Nat.le_of_ble_eq_true rfl, Nat.le_of_ble_eq_true rfl⟩ rfl rfl hl (Nat.le_of_ble_eq_true rfl) dL_values_422 ⟨Nat.le_of_ble_eq_true rfl, Nat.le_of_ble_eq_true rfl⟩ (fun r9 H locs h9 hP hD hS => ?_)
  rw [h9]
  refine lv_icmp_le (tgt := 439) hx hb dL_values_425 (by decide) (fun c425 => ?_) (fun c425 => ?_)
  · refine lv_iload hx hb dL_values_439 (lv_at hl 0 rfl) ?_
    refine lv_iload hx hb dL_values_441 (lv_at hl 2 rfl) ?_
    refine lv_isub hx hb dL_values_443 ?_
    refine kc0 (n := 1) (As := [.int ((dnV pg) - (P_X4_trueOf pg (pg 2) (pg 4)))]) cx cl (c_L_size l hlt G b L xs ((dnV pg) - (P_X4_trueOf pg (pg 2) (pg 4)))) trivial hP hD hS gL_values_L_size rfl rfl rfl (by decide +kernel) ⟨Nat.le_of_ble_eq_true rfl, Nat.le_of_ble_eq_true rfl⟩ rfl rfl hl (Nat.le_of_ble_eq_true rfl) dL_values_444 ⟨Nat.le_of_ble_eq_true rfl, Nat.le_of_ble_eq_true rfl⟩ (fun r9 H locs h9 hP hD hS => ?_)
    rw [h9]
    refine lv_icmp_ne (tgt := 454) hx hb dL_values_447 (by decide) (fun c9 => absurd (by first | exact hse2.trans (if_pos c425) | exact hse2.trans (if_neg c425)) c9) (fun c9 => ?_)
    refine lv_iconst (v := 1) hx hb dL_values_450 (by decide) ?_
    refine lv_goto (tgt := 455) hx hb dL_values_451 (by decide) ?_
    refine lv_istore (lv' := [(4, .int 1), (11, .int (dnV pg)), (10, .int (upV pg)), (9, .int (P_X4_trueOf pg (pg 2) (pg 4))), (8, .int se), (5, .int (pg 10)), (3, .int (pg 2)), (2, .int (pg 8)), (1, .int x9), (0, .ref d.1)]) hx hb dL_values_455 hl (by decide) rfl (fun ls hl => ?_)
    refine W.widen (k := 46) (n := 276) (Nat.le_of_ble_eq_true rfl) (Nat.le_of_ble_eq_true rfl) ?_
    obtain ⟨en, hen, hE⟩ := es_r pg
    exact vl_11 hlt cx cl HQ J hpv HO hx9 hen hE hP hD hS (lv_sub hl [5, 0, 6, 7, 8, 9] rfl)
  · refine lv_iload hx hb dL_values_428 (lv_at hl 1 rfl) ?_
    refine lv_iload hx hb dL_values_430 (lv_at hl 2 rfl) ?_
    refine lv_isub hx hb dL_values_432 ?_
    refine kc0 (n := 1) (As := [.int ((upV pg) - (P_X4_trueOf pg (pg 2) (pg 4)))]) cx cl (c_L_size l hlt G b L xs ((upV pg) - (P_X4_trueOf pg (pg 2) (pg 4)))) trivial hP hD hS gL_values_L_size rfl rfl rfl (by decide +kernel) ⟨Nat.le_of_ble_eq_true rfl, Nat.le_of_ble_eq_true rfl⟩ rfl rfl hl (Nat.le_of_ble_eq_true rfl) dL_values_433 ⟨Nat.le_of_ble_eq_true rfl, Nat.le_of_ble_eq_true rfl⟩ (fun r9 H locs h9 hP hD hS => ?_)
    rw [h9]
    refine lv_goto (tgt := 447) hx hb dL_values_436 (by decide) ?_
    refine lv_icmp_ne (tgt := 454) hx hb dL_values_447 (by decide) (fun c9 => absurd (by first | exact hse2.trans (if_pos c425) | exact hse2.trans (if_neg c425)) c9) (fun c9 => ?_)
    refine lv_iconst (v := 1) hx hb dL_values_450 (by decide) ?_
    refine lv_goto (tgt := 455) hx hb dL_values_451 (by decide) ?_
    refine lv_istore (lv' := [(4, .int 1), (11, .int (dnV pg)), (10, .int (upV pg)), (9, .int (P_X4_trueOf pg (pg 2) (pg 4))), (8, .int se), (5, .int (pg 10)), (3, .int (pg 2)), (2, .int (pg 8)), (1, .int x9), (0, .ref d.1)]) hx hb dL_values_455 hl (by decide) rfl (fun ls hl => ?_)
    refine W.widen (k := 46) (n := 276) (Nat.le_of_ble_eq_true rfl) (Nat.le_of_ble_eq_true rfl) ?_
    obtain ⟨en, hen, hE⟩ := es_r pg
    exact vl_11 hlt cx cl HQ J hpv HO hx9 hen hE hP hD hS (lv_sub hl [5, 0, 6, 7, 8, 9] rfl)

set_option maxRecDepth 100000 in
set_option maxHeartbeats 4000000 in
theorem vl_9 (hlt : l.stackTraces = false) (cx : Cx p s m args meth c cL_values 15 RL wsL_values (some .boolean) G A) (cl : CL s A b L xs) {d : AD} (HQ : PQd d) {x : XT} {x9 : Int32} {hs : List Pg} {w se : Int32} (J : JNV x n tt (upd pg 2 w) hs (some pg) k1)  (hpv : PV pg) (HO : OKP pg) (hx9 : 0 ≤ x9.toInt) (hw : RB w) (hse2 : se = (if (P_X4_size (upV pg - (P_X4_trueOf pg (pg 2) (pg 4)))) ≤ (P_X4_size (dnV pg - (P_X4_trueOf pg (pg 2) (pg 4)))) then (P_X4_size (dnV pg - (P_X4_trueOf pg (pg 2) (pg 4)))) else (P_X4_size (upV pg - (P_X4_trueOf pg (pg 2) (pg 4)))))) {H : Heap} {locs : List Loc} {ls : Array Slot} (hP : va_P G.1 vwCl (wB G d x []) H) (hD : va_D A (wB G d x [])) (hS : va_S A s.heap H locs) (hl : lv_has ls 15 [(9, .int (P_X4_trueOf pg (pg 2) (pg 4))), (8, .int se), (5, .int (pg 10)), (4, .int 1), (3, .int (pg 2)), (2, .int (pg 8)), (1, .int x9), (0, .ref d.1)])  : W p l e rmL_values s m args below meth c H locs 43 258 (MQ below (qG G (fun x : XT => wB G d x []) (fun r x => r = 1 ∧ JNV x n tt pg [] (some pg) k1) A) args s 80 480 A) (F0 m 373 ls [.int (upV pg)]) := by
  obtain ⟨hx, hb, hml, hown, hts, hr, hlocks, hK, hA⟩ := id cx
  refine lv_istore (lv' := [(10, .int (upV pg)), (9, .int (P_X4_trueOf pg (pg 2) (pg 4))), (8, .int se), (5, .int (pg 10)), (4, .int 1), (3, .int (pg 2)), (2, .int (pg 8)), (1, .int x9), (0, .ref d.1)]) hx hb dL_values_373 hl (by decide) rfl (fun ls hl => ?_)
  refine lv_iload_n hx hb dL_values_375 rfl (lv_at hl 5 rfl) ?_
  refine lv_if_ne (tgt := 384) hx hb dL_values_376 (by decide) (fun c376 => ?_) (fun c376 => ?_)
  · refine lv_aload_n hx hb dL_values_384 rfl (lv_at hl 8 rfl) ?_
    refine lv_iload_n hx hb dL_values_385 rfl (lv_at hl 5 rfl) ?_
    refine lv_iconst (v := 1) hx hb dL_values_386 (by decide) ?_
    refine lv_isub hx hb dL_values_387 ?_
    refine kc1 (n := 2) (As := [.ref d.1, .int ((pg 2) - 1)]) cx cl (c_L_setBox l hlt G b L xs d HQ n tt (upd pg 2 w) hs (some pg) k1 ((pg 2) - 1) (rb_d hpv.2.2.2.1 c376)) J hP hD hS gL_values_L_setBox rfl rfl rfl (by decide +kernel) ⟨Nat.le_of_ble_eq_true rfl, Nat.le_of_ble_eq_true rfl⟩ rfl rfl hl (Nat.le_of_ble_eq_true rfl) dL_values_388 ⟨Nat.le_of_ble_eq_true rfl, Nat.le_of_ble_eq_true rfl⟩ (fun r9 x H locs h9 hP hD hS => ?_)
    obtain ⟨h9, J⟩ : r9 = (P_X4_trueOf (upd (upd pg 2 w) 2 ((pg 2) - 1)) ((pg 2) - 1) ((upd pg 2 w) 4)) ∧ JNV x n tt (upd (upd pg 2 w) 2 ((pg 2) - 1)) (push hs (upd pg 2 w)) (some pg) k1 := h9
    rw [h9]
    refine k_top (v' := (dnV pg)) (by unfold dnV; rw [if_neg c376, upd_upd]; exact tr_u2 hpv _ _ _) ?_
    refine W.widen (k := 45) (n := 270) (Nat.le_of_ble_eq_true rfl) (Nat.le_of_ble_eq_true rfl) ?_
    have J : JNV x n tt (upd pg 2 ((pg 2) - 1)) (push hs (upd pg 2 w)) (some pg) k1 := by rw [upd_upd] at J; exact J
    exact vl_10 hlt cx cl HQ J hpv HO hx9 (rb_d hpv.2.2.2.1 c376) hse2 hP hD hS (lv_sub hl [0, 1, 2, 3, 4, 5, 6, 7, 8] rfl)
  · refine lv_iload hx hb dL_values_379 (lv_at hl 1 rfl) ?_
    refine lv_goto (tgt := 391) hx hb dL_values_381 (by decide) ?_
    refine k_top (v' := (dnV pg)) (by unfold dnV; rw [if_pos c376]) ?_
    refine W.widen (k := 45) (n := 270) (Nat.le_of_ble_eq_true rfl) (Nat.le_of_ble_eq_true rfl) ?_
    exact vl_10 hlt cx cl HQ J hpv HO hx9 hw hse2 hP hD hS (lv_sub hl [0, 1, 2, 3, 4, 5, 6, 7, 8] rfl)

set_option maxRecDepth 100000 in
set_option maxHeartbeats 4000000 in
theorem vl_8 (hlt : l.stackTraces = false) (cx : Cx p s m args meth c cL_values 15 RL wsL_values (some .boolean) G A) (cl : CL s A b L xs) {d : AD} (HQ : PQd d) {x : XT} {x9 se : Int32} (J : JNV x n tt pg ([]) (some pg) k1)  (hpv : PV pg) (HO : OKP pg) (hx9 : 0 ≤ x9.toInt) (hse : (P_X4_sensitivity z0 pg).1 = se) (hse2 : se = (if (P_X4_size (upV pg - (P_X4_trueOf pg (pg 2) (pg 4)))) ≤ (P_X4_size (dnV pg - (P_X4_trueOf pg (pg 2) (pg 4)))) then (P_X4_size (dnV pg - (P_X4_trueOf pg (pg 2) (pg 4)))) else (P_X4_size (upV pg - (P_X4_trueOf pg (pg 2) (pg 4)))))) {H : Heap} {locs : List Loc} {ls : Array Slot} (hP : va_P G.1 vwCl (wB G d x []) H) (hD : va_D A (wB G d x [])) (hS : va_S A s.heap H locs) (hl : lv_has ls 15 [(5, .int (pg 10)), (4, .int 1), (3, .int (pg 2)), (2, .int (pg 8)), (1, .int x9), (0, .ref d.1)])  : W p l e rmL_values s m args below meth c H locs 40 240 (MQ below (qG G (fun x : XT => wB G d x []) (fun r x => r = 1 ∧ JNV x n tt pg [] (some pg) k1) A) args s 80 480 A) (F0 m 341 ls []) := by
  obtain ⟨hx, hb, hml, hown, hts, hr, hlocks, hK, hA⟩ := id cx
  refine lv_aload_n hx hb dL_values_341 rfl (lv_at hl 5 rfl) ?_
  refine o_sensitivity hlt cx cl HQ J  (r0 := se) hse hP hD hS gL_values_X3_sensitivity ⟨Nat.le_of_ble_eq_true rfl, Nat.le_of_ble_eq_true rfl⟩ hl (Nat.le_of_ble_eq_true rfl) dL_values_342 ⟨Nat.le_of_ble_eq_true rfl, Nat.le_of_ble_eq_true rfl⟩ (fun H locs hP hD hS => ?_)
  refine lv_istore (lv' := [(8, .int se), (5, .int (pg 10)), (4, .int 1), (3, .int (pg 2)), (2, .int (pg 8)), (1, .int x9), (0, .ref d.1)]) hx hb dL_values_345 hl (by decide) rfl (fun ls hl => ?_)
  refine lv_aload_n hx hb dL_values_347 rfl (lv_at hl 6 rfl) ?_
  refine lv_iconst (v := 2) hx hb dL_values_348 (by decide) ?_
  refine o_bridge hlt cx cl HQ J 2 (r0 := (P_X4_trueOf pg (pg 2) (pg 4))) br_2 hP hD hS gL_values_L_tryBridge ⟨Nat.le_of_ble_eq_true rfl, Nat.le_of_ble_eq_true rfl⟩ hl (Nat.le_of_ble_eq_true rfl) dL_values_349 ⟨Nat.le_of_ble_eq_true rfl, Nat.le_of_ble_eq_true rfl⟩ (fun H locs hP hD hS => ?_)
  refine lv_istore (lv' := [(9, .int (P_X4_trueOf pg (pg 2) (pg 4))), (8, .int se), (5, .int (pg 10)), (4, .int 1), (3, .int (pg 2)), (2, .int (pg 8)), (1, .int x9), (0, .ref d.1)]) hx hb dL_values_352 hl (by decide) rfl (fun ls hl => ?_)
  refine lv_iload_n hx hb dL_values_354 rfl (lv_at hl 4 rfl) ?_
  refine lv_sipush (v := 9999) hx hb dL_values_355 (by decide) ?_
  refine lv_icmp_ne (tgt := 366) hx hb dL_values_358 (by decide) (fun c358 => ?_) (fun c358 => ?_)
  · refine lv_aload_n hx hb dL_values_366 rfl (lv_at hl 7 rfl) ?_
    refine lv_iload_n hx hb dL_values_367 rfl (lv_at hl 4 rfl) ?_
    refine lv_iconst (v := 1) hx hb dL_values_368 (by decide) ?_
    refine lv_iadd hx hb dL_values_369 ?_
    refine kc1 (n := 2) (As := [.ref d.1, .int ((pg 2) + 1)]) cx cl (c_L_setBox l hlt G b L xs d HQ n tt pg ([]) (some pg) k1 ((pg 2) + 1) (rb_i hpv.2.2.2.1 c358)) J hP hD hS gL_values_L_setBox rfl rfl rfl (by decide +kernel) ⟨Nat.le_of_ble_eq_true rfl, Nat.le_of_ble_eq_true rfl⟩ rfl rfl hl (Nat.le_of_ble_eq_true rfl) dL_values_370 ⟨Nat.le_of_ble_eq_true rfl, Nat.le_of_ble_eq_true rfl⟩ (fun r9 x H locs h9 hP hD hS => ?_)
    obtain ⟨h9, J⟩ : r9 = (P_X4_trueOf (upd pg 2 ((pg 2) + 1)) ((pg 2) + 1) (pg 4)) ∧ JNV x n tt (upd pg 2 ((pg 2) + 1)) (push ([]) pg) (some pg) k1 := h9
    rw [h9]
    refine k_top (v' := (upV pg)) (by unfold upV; rw [if_neg c358]; exact tr_u2 hpv _ _ _) ?_
    refine W.widen (k := 43) (n := 258) (Nat.le_of_ble_eq_true rfl) (Nat.le_of_ble_eq_true rfl) ?_
    exact vl_9 hlt cx cl HQ J hpv HO hx9 (rb_i hpv.2.2.2.1 c358) hse2 hP hD hS (lv_sub hl [0, 1, 2, 3, 4, 5, 6, 7] rfl)
  · refine lv_iload hx hb dL_values_361 (lv_at hl 0 rfl) ?_
    refine lv_goto (tgt := 373) hx hb dL_values_363 (by decide) ?_
    refine k_top (v' := (upV pg)) (by unfold upV; rw [if_pos c358]) ?_
    refine W.widen (k := 43) (n := 258) (Nat.le_of_ble_eq_true rfl) (Nat.le_of_ble_eq_true rfl) ?_
    exact vl_9 hlt cx cl HQ (by rw [upd_self]; exact J) hpv HO hx9 hpv.2.2.2.1 hse2 hP hD hS (lv_sub hl [0, 1, 2, 3, 4, 5, 6, 7] rfl)

set_option maxRecDepth 100000 in
set_option maxHeartbeats 4000000 in
theorem vl_7 (hlt : l.stackTraces = false) (cx : Cx p s m args meth c cL_values 15 RL wsL_values (some .boolean) G A) (cl : CL s A b L xs) {d : AD} (HQ : PQd d) {x : XT} {x9 : Int32} {hs : List Pg} {w best : Int32} (J : JNV x n tt (upd pg 2 w) hs (some pg) k1)  (hpv : PV pg) (HO : OKP pg) (hx9 : 0 ≤ x9.toInt) (hw : RB w) (hrb : RB best) (hB1 : ∀ v : Int32, RB v → (P_X4_size (mi pg best)) ≤ (P_X4_size (mi pg v))) (hB2 : ∀ v : Int32, RB v → v.toInt < best.toInt → (P_X4_size (mi pg best)) < (P_X4_size (mi pg v))) {H : Heap} {locs : List Loc} {ls : Array Slot} (hP : va_P G.1 vwCl (wB G d x []) H) (hD : va_D A (wB G d x [])) (hS : va_S A s.heap H locs) (hl : lv_has ls 15 [(7, .int (P_X4_size (mi pg best))), (6, .int best), (5, .int (pg 10)), (4, .int 1), (3, .int (pg 2)), (2, .int (pg 8)), (1, .int x9), (0, .ref d.1)])  : W p l e rmL_values s m args below meth c H locs 37 222 (MQ below (qG G (fun x : XT => wB G d x []) (fun r x => r = 1 ∧ JNV x n tt pg [] (some pg) k1) A) args s 80 480 A) (F0 m 299 ls []) := by
  obtain ⟨hx, hb, hml, hown, hts, hr, hlocks, hK, hA⟩ := id cx
  refine lv_aload_n hx hb dL_values_299 rfl (lv_at hl 7 rfl) ?_
  refine lv_iconst (v := 2) hx hb dL_values_300 (by decide) ?_
  refine lv_iload_n hx hb dL_values_301 rfl (lv_at hl 6 rfl) ?_
  refine lv_sipush (v := 10000) hx hb dL_values_302 (by decide) ?_
  refine lv_irem hx hb dL_values_305 (by decide) ?_
  refine o_set hlt cx cl HQ J 2 (x9 - x9 / 10000 * 10000) (set_2 (rb_m hx9)) (r0 := w) rfl hP hD hS gL_values_L_trySet ⟨Nat.le_of_ble_eq_true rfl, Nat.le_of_ble_eq_true rfl⟩ hl (Nat.le_of_ble_eq_true rfl) dL_values_306 ⟨Nat.le_of_ble_eq_true rfl, Nat.le_of_ble_eq_true rfl⟩ (fun x H locs J hP hD hS => ?_)
  have J : JNV x n tt (upd (upd pg 2 w) 2 (x9 - x9 / 10000 * 10000)) (push hs (upd pg 2 w)) (some pg) k1 := J
  have J : JNV x n tt (upd pg 2 (x9 - x9 / 10000 * 10000)) (push hs (upd pg 2 w)) (some pg) k1 := by rw [upd_upd] at J; exact J
  refine lv_if_lt (tgt := 338) hx hb dL_values_309 (by decide) (fun c9 => absurd c9 (ng0 hw.1)) (fun c9 => ?_)
  refine lv_aload_n hx hb dL_values_312 rfl (lv_at hl 7 rfl) ?_
  refine lv_iconst (v := 0) hx hb dL_values_313 (by decide) ?_
  refine o_bridge hlt cx cl HQ J 0 (r0 := (mi pg (x9 - x9 / 10000 * 10000))) (br_0u hpv) hP hD hS gL_values_L_tryBridge ⟨Nat.le_of_ble_eq_true rfl, Nat.le_of_ble_eq_true rfl⟩ hl (Nat.le_of_ble_eq_true rfl) dL_values_314 ⟨Nat.le_of_ble_eq_true rfl, Nat.le_of_ble_eq_true rfl⟩ (fun H locs hP hD hS => ?_)
  refine kc0 (n := 1) (As := [.int (mi pg (x9 - x9 / 10000 * 10000))]) cx cl (c_L_size l hlt G b L xs (mi pg (x9 - x9 / 10000 * 10000))) trivial hP hD hS gL_values_L_size rfl rfl rfl (by decide +kernel) ⟨Nat.le_of_ble_eq_true rfl, Nat.le_of_ble_eq_true rfl⟩ rfl rfl hl (Nat.le_of_ble_eq_true rfl) dL_values_317 ⟨Nat.le_of_ble_eq_true rfl, Nat.le_of_ble_eq_true rfl⟩ (fun r9 H locs h9 hP hD hS => ?_)
  rw [h9]
  refine lv_iload hx hb dL_values_320 (lv_at hl 0 rfl) ?_
  refine lv_icmp_lt (tgt := 338) hx hb dL_values_322 (by decide) (fun c9 => absurd c9 (nlt (hB1 _ (rb_m hx9)))) (fun c9 => ?_)
  refine lv_aload_n hx hb dL_values_325 rfl (lv_at hl 7 rfl) ?_
  refine lv_iconst (v := 0) hx hb dL_values_326 (by decide) ?_
  refine o_restore0 hlt cx cl HQ J  (q := pg) rfl (r0 := (pg 8)) rfl hP hD hS gL_values_L_tryRestore ⟨Nat.le_of_ble_eq_true rfl, Nat.le_of_ble_eq_true rfl⟩ hl (Nat.le_of_ble_eq_true rfl) dL_values_327 ⟨Nat.le_of_ble_eq_true rfl, Nat.le_of_ble_eq_true rfl⟩ (fun x H locs J hP hD hS => ?_)
  have J : JNV x n tt pg ([]) (some pg) k1 := J
  refine lv_iload_n hx hb dL_values_330 rfl (lv_at hl 5 rfl) ?_
  refine lv_icmp_ne (tgt := 338) hx hb dL_values_331 (by decide) (fun c9 => absurd rfl c9) (fun c9 => ?_)
  refine lv_iconst (v := 1) hx hb dL_values_334 (by decide) ?_
  refine lv_goto (tgt := 339) hx hb dL_values_335 (by decide) ?_
  refine lv_istore (lv' := [(4, .int 1), (7, .int (P_X4_size (mi pg best))), (6, .int best), (5, .int (pg 10)), (3, .int (pg 2)), (2, .int (pg 8)), (1, .int x9), (0, .ref d.1)]) hx hb dL_values_339 hl (by decide) rfl (fun ls hl => ?_)
  refine W.widen (k := 40) (n := 240) (Nat.le_of_ble_eq_true rfl) (Nat.le_of_ble_eq_true rfl) ?_
  obtain ⟨se, hse, hse2⟩ : ∃ se : Int32, (P_X4_sensitivity z0 pg).1 = se ∧ se = (if (P_X4_size (upV pg - (P_X4_trueOf pg (pg 2) (pg 4)))) ≤ (P_X4_size (dnV pg - (P_X4_trueOf pg (pg 2) (pg 4)))) then (P_X4_size (dnV pg - (P_X4_trueOf pg (pg 2) (pg 4)))) else (P_X4_size (upV pg - (P_X4_trueOf pg (pg 2) (pg 4))))) := ⟨_, rfl, se_r hpv⟩
  exact vl_8 hlt cx cl HQ J hpv HO hx9 hse hse2 hP hD hS (lv_sub hl [3, 0, 4, 5, 6, 7] rfl)

set_option maxRecDepth 100000 in
set_option maxHeartbeats 4000000 in
theorem vl_6 (hlt : l.stackTraces = false) (cx : Cx p s m args meth c cL_values 15 RL wsL_values (some .boolean) G A) (cl : CL s A b L xs) {d : AD} (HQ : PQd d) {x : XT} {x9 : Int32} {hs : List Pg} {w best : Int32} (J : JNV x n tt (upd pg 2 w) hs (some pg) k1)  (hpv : PV pg) (HO : OKP pg) (hx9 : 0 ≤ x9.toInt) (hw : RB w) (hrb : RB best) (hB1 : ∀ v : Int32, RB v → (P_X4_size (mi pg best)) ≤ (P_X4_size (mi pg v))) (hB2 : ∀ v : Int32, RB v → v.toInt < best.toInt → (P_X4_size (mi pg best)) < (P_X4_size (mi pg v))) {H : Heap} {locs : List Loc} {ls : Array Slot} (hP : va_P G.1 vwCl (wB G d x []) H) (hD : va_D A (wB G d x [])) (hS : va_S A s.heap H locs) (hl : lv_has ls 15 [(7, .int (P_X4_size (mi pg best))), (6, .int best), (5, .int (pg 10)), (4, .int 1), (3, .int (pg 2)), (2, .int (pg 8)), (1, .int x9), (0, .ref d.1)])  : W p l e rmL_values s m args below meth c H locs 35 210 (MQ below (qG G (fun x : XT => wB G d x []) (fun r x => r = 1 ∧ JNV x n tt pg [] (some pg) k1) A) args s 80 480 A) (F0 m 266 ls []) := by
  obtain ⟨hx, hb, hml, hown, hts, hr, hlocks, hK, hA⟩ := id cx
  refine lv_iload hx hb dL_values_266 (lv_at hl 1 rfl) ?_
  refine lv_sipush (v := 9999) hx hb dL_values_268 (by decide) ?_
  refine lv_icmp_eq (tgt := 299) hx hb dL_values_271 (by decide) (fun c271 => ?_) (fun c271 => ?_)
  · refine W.widen (k := 37) (n := 222) (Nat.le_of_ble_eq_true rfl) (Nat.le_of_ble_eq_true rfl) ?_
    exact vl_7 hlt cx cl HQ J hpv HO hx9 hw hrb hB1 hB2 hP hD hS (lv_sub hl [0, 1, 2, 3, 4, 5, 6, 7] rfl)
  · refine lv_aload_n hx hb dL_values_274 rfl (lv_at hl 7 rfl) ?_
    refine lv_iconst (v := 2) hx hb dL_values_275 (by decide) ?_
    refine lv_iload hx hb dL_values_276 (lv_at hl 1 rfl) ?_
    refine lv_iconst (v := 1) hx hb dL_values_278 (by decide) ?_
    refine lv_iadd hx hb dL_values_279 ?_
    refine o_set hlt cx cl HQ J 2 (best + 1) (set_2 (rb_i hrb c271)) (r0 := w) rfl hP hD hS gL_values_L_trySet ⟨Nat.le_of_ble_eq_true rfl, Nat.le_of_ble_eq_true rfl⟩ hl (Nat.le_of_ble_eq_true rfl) dL_values_280 ⟨Nat.le_of_ble_eq_true rfl, Nat.le_of_ble_eq_true rfl⟩ (fun x H locs J hP hD hS => ?_)
    have J : JNV x n tt (upd (upd pg 2 w) 2 (best + 1)) (push hs (upd pg 2 w)) (some pg) k1 := J
    have J : JNV x n tt (upd pg 2 (best + 1)) (push hs (upd pg 2 w)) (some pg) k1 := by rw [upd_upd] at J; exact J
    refine lv_if_lt (tgt := 338) hx hb dL_values_283 (by decide) (fun c9 => absurd c9 (ng0 hw.1)) (fun c9 => ?_)
    refine lv_aload_n hx hb dL_values_286 rfl (lv_at hl 7 rfl) ?_
    refine lv_iconst (v := 0) hx hb dL_values_287 (by decide) ?_
    refine o_bridge hlt cx cl HQ J 0 (r0 := (mi pg (best + 1))) (br_0u hpv) hP hD hS gL_values_L_tryBridge ⟨Nat.le_of_ble_eq_true rfl, Nat.le_of_ble_eq_true rfl⟩ hl (Nat.le_of_ble_eq_true rfl) dL_values_288 ⟨Nat.le_of_ble_eq_true rfl, Nat.le_of_ble_eq_true rfl⟩ (fun H locs hP hD hS => ?_)
    refine kc0 (n := 1) (As := [.int (mi pg (best + 1))]) cx cl (c_L_size l hlt G b L xs (mi pg (best + 1))) trivial hP hD hS gL_values_L_size rfl rfl rfl (by decide +kernel) ⟨Nat.le_of_ble_eq_true rfl, Nat.le_of_ble_eq_true rfl⟩ rfl rfl hl (Nat.le_of_ble_eq_true rfl) dL_values_291 ⟨Nat.le_of_ble_eq_true rfl, Nat.le_of_ble_eq_true rfl⟩ (fun r9 H locs h9 hP hD hS => ?_)
    rw [h9]
    refine lv_iload hx hb dL_values_294 (lv_at hl 0 rfl) ?_
    refine lv_icmp_lt (tgt := 338) hx hb dL_values_296 (by decide) (fun c9 => absurd c9 (nlt (hB1 _ (rb_i hrb c271)))) (fun c9 => ?_)
    refine W.widen (k := 37) (n := 222) (Nat.le_of_ble_eq_true rfl) (Nat.le_of_ble_eq_true rfl) ?_
    exact vl_7 hlt cx cl HQ J hpv HO hx9 (rb_i hrb c271) hrb hB1 hB2 hP hD hS (lv_sub hl [0, 1, 2, 3, 4, 5, 6, 7] rfl)

set_option maxRecDepth 100000 in
set_option maxHeartbeats 4000000 in
theorem vl_5 (hlt : l.stackTraces = false) (cx : Cx p s m args meth c cL_values 15 RL wsL_values (some .boolean) G A) (cl : CL s A b L xs) {d : AD} (HQ : PQd d) {x : XT} {x9 : Int32} {hs : List Pg} {best : Int32} (J : JNV x n tt pg hs (some pg) k1)  (hpv : PV pg) (HO : OKP pg) (hx9 : 0 ≤ x9.toInt) (hB : aQ 3 ((P_X4_bestR z0 pg (pg 10)).1, (P_X4_bestR z0 pg (pg 10)).2) = best) (hrb : RB best) (hB1 : ∀ v : Int32, RB v → (P_X4_size (mi pg best)) ≤ (P_X4_size (mi pg v))) (hB2 : ∀ v : Int32, RB v → v.toInt < best.toInt → (P_X4_size (mi pg best)) < (P_X4_size (mi pg v))) {H : Heap} {locs : List Loc} {ls : Array Slot} (hP : va_P G.1 vwCl (wB G d x []) H) (hD : va_D A (wB G d x [])) (hS : va_S A s.heap H locs) (hl : lv_has ls 15 [(4, .int 1), (3, .int (pg 2)), (2, .int (pg 8)), (1, .int x9), (0, .ref d.1)])  : W p l e rmL_values s m args below meth c H locs 29 174 (MQ below (qG G (fun x : XT => wB G d x []) (fun r x => r = 1 ∧ JNV x n tt pg [] (some pg) k1) A) args s 80 480 A) (F0 m 182 ls []) := by
  obtain ⟨hx, hb, hml, hown, hts, hr, hlocks, hK, hA⟩ := id cx
  refine lv_aload_n hx hb dL_values_182 rfl (lv_at hl 4 rfl) ?_
  refine lv_bipush (v := 11) hx hb dL_values_183 (by decide) ?_
  refine o_about hlt cx cl HQ J 11 (r0 := (pg 10)) (ab_hi (j := 10) (by decide) (by decide) (by decide) (by decide)) hP hD hS gL_values_L_tryAbout ⟨Nat.le_of_ble_eq_true rfl, Nat.le_of_ble_eq_true rfl⟩ hl (Nat.le_of_ble_eq_true rfl) dL_values_185 ⟨Nat.le_of_ble_eq_true rfl, Nat.le_of_ble_eq_true rfl⟩ (fun H locs hP hD hS => ?_)
  refine lv_istore (lv' := [(5, .int (pg 10)), (4, .int 1), (3, .int (pg 2)), (2, .int (pg 8)), (1, .int x9), (0, .ref d.1)]) hx hb dL_values_188 hl (by decide) rfl (fun ls hl => ?_)
  refine lv_aload_n hx hb dL_values_190 rfl (lv_at hl 5 rfl) ?_
  refine lv_iload hx hb dL_values_191 (lv_at hl 0 rfl) ?_
  refine o_bestR hlt cx cl HQ J (pg 10) (r0 := best) hB hP hD hS gL_values_L_tryBestR ⟨Nat.le_of_ble_eq_true rfl, Nat.le_of_ble_eq_true rfl⟩ hl (Nat.le_of_ble_eq_true rfl) dL_values_193 ⟨Nat.le_of_ble_eq_true rfl, Nat.le_of_ble_eq_true rfl⟩ (fun H locs hP hD hS => ?_)
  refine lv_istore (lv' := [(6, .int best), (5, .int (pg 10)), (4, .int 1), (3, .int (pg 2)), (2, .int (pg 8)), (1, .int x9), (0, .ref d.1)]) hx hb dL_values_196 hl (by decide) rfl (fun ls hl => ?_)
  refine lv_iload hx hb dL_values_198 (lv_at hl 2 rfl) ?_
  refine lv_if_eq (tgt := 218) hx hb dL_values_200 (by decide) (fun c9 => absurd c9 (by decide)) (fun c9 => ?_)
  refine lv_aload_n hx hb dL_values_203 rfl (lv_at hl 6 rfl) ?_
  refine lv_iconst (v := 2) hx hb dL_values_204 (by decide) ?_
  refine lv_iload hx hb dL_values_205 (lv_at hl 0 rfl) ?_
  refine o_set hlt cx cl HQ J 2 best (set_2 hrb) (r0 := (pg 2)) rfl hP hD hS gL_values_L_trySet ⟨Nat.le_of_ble_eq_true rfl, Nat.le_of_ble_eq_true rfl⟩ hl (Nat.le_of_ble_eq_true rfl) dL_values_207 ⟨Nat.le_of_ble_eq_true rfl, Nat.le_of_ble_eq_true rfl⟩ (fun x H locs J hP hD hS => ?_)
  have J : JNV x n tt (upd pg 2 best) (push hs pg) (some pg) k1 := J
  refine lv_iload_n hx hb dL_values_210 rfl (lv_at hl 3 rfl) ?_
  refine lv_icmp_ne (tgt := 218) hx hb dL_values_211 (by decide) (fun c9 => absurd rfl c9) (fun c9 => ?_)
  refine lv_iconst (v := 1) hx hb dL_values_214 (by decide) ?_
  refine lv_goto (tgt := 219) hx hb dL_values_215 (by decide) ?_
  refine lv_istore (lv' := [(4, .int 1), (6, .int best), (5, .int (pg 10)), (3, .int (pg 2)), (2, .int (pg 8)), (1, .int x9), (0, .ref d.1)]) hx hb dL_values_219 hl (by decide) rfl (fun ls hl => ?_)
  refine lv_aload_n hx hb dL_values_221 rfl (lv_at hl 6 rfl) ?_
  refine lv_iconst (v := 0) hx hb dL_values_222 (by decide) ?_
  refine o_bridge hlt cx cl HQ J 0 (r0 := (mi pg best)) (br_0u hpv) hP hD hS gL_values_L_tryBridge ⟨Nat.le_of_ble_eq_true rfl, Nat.le_of_ble_eq_true rfl⟩ hl (Nat.le_of_ble_eq_true rfl) dL_values_223 ⟨Nat.le_of_ble_eq_true rfl, Nat.le_of_ble_eq_true rfl⟩ (fun H locs hP hD hS => ?_)
  refine kc0 (n := 1) (As := [.int (mi pg best)]) cx cl (c_L_size l hlt G b L xs (mi pg best)) trivial hP hD hS gL_values_L_size rfl rfl rfl (by decide +kernel) ⟨Nat.le_of_ble_eq_true rfl, Nat.le_of_ble_eq_true rfl⟩ rfl rfl hl (Nat.le_of_ble_eq_true rfl) dL_values_226 ⟨Nat.le_of_ble_eq_true rfl, Nat.le_of_ble_eq_true rfl⟩ (fun r9 H locs h9 hP hD hS => ?_)
  rw [h9]
  refine lv_istore (lv' := [(7, .int (P_X4_size (mi pg best))), (4, .int 1), (6, .int best), (5, .int (pg 10)), (3, .int (pg 2)), (2, .int (pg 8)), (1, .int x9), (0, .ref d.1)]) hx hb dL_values_229 hl (by decide) rfl (fun ls hl => ?_)
  refine lv_iload hx hb dL_values_231 (lv_at hl 1 rfl) ?_
  refine lv_if_eq (tgt := 338) hx hb dL_values_233 (by decide) (fun c9 => absurd c9 (by decide)) (fun c9 => ?_)
  refine lv_iload hx hb dL_values_236 (lv_at hl 2 rfl) ?_
  refine lv_if_eq (tgt := 266) hx hb dL_values_238 (by decide) (fun c238 => ?_) (fun c238 => ?_)
  · refine W.widen (k := 35) (n := 210) (Nat.le_of_ble_eq_true rfl) (Nat.le_of_ble_eq_true rfl) ?_
    exact vl_6 hlt cx cl HQ J hpv HO hx9 hrb hrb hB1 hB2 hP hD hS (lv_sub hl [0, 2, 3, 1, 4, 5, 6, 7] rfl)
  · refine lv_aload_n hx hb dL_values_241 rfl (lv_at hl 7 rfl) ?_
    refine lv_iconst (v := 2) hx hb dL_values_242 (by decide) ?_
    refine lv_iload hx hb dL_values_243 (lv_at hl 2 rfl) ?_
    refine lv_iconst (v := 1) hx hb dL_values_245 (by decide) ?_
    refine lv_isub hx hb dL_values_246 ?_
    refine o_set hlt cx cl HQ J 2 (best - 1) (set_2 (rb_d hrb c238)) (r0 := best) rfl hP hD hS gL_values_L_trySet ⟨Nat.le_of_ble_eq_true rfl, Nat.le_of_ble_eq_true rfl⟩ hl (Nat.le_of_ble_eq_true rfl) dL_values_247 ⟨Nat.le_of_ble_eq_true rfl, Nat.le_of_ble_eq_true rfl⟩ (fun x H locs J hP hD hS => ?_)
    have J : JNV x n tt (upd (upd pg 2 best) 2 (best - 1)) (push (push hs pg) (upd pg 2 best)) (some pg) k1 := J
    have J : JNV x n tt (upd pg 2 (best - 1)) (push (push hs pg) (upd pg 2 best)) (some pg) k1 := by rw [upd_upd] at J; exact J
    refine lv_if_lt (tgt := 338) hx hb dL_values_250 (by decide) (fun c9 => absurd c9 (ng0 hrb.1)) (fun c9 => ?_)
    refine lv_aload_n hx hb dL_values_253 rfl (lv_at hl 7 rfl) ?_
    refine lv_iconst (v := 0) hx hb dL_values_254 (by decide) ?_
    refine o_bridge hlt cx cl HQ J 0 (r0 := (mi pg (best - 1))) (br_0u hpv) hP hD hS gL_values_L_tryBridge ⟨Nat.le_of_ble_eq_true rfl, Nat.le_of_ble_eq_true rfl⟩ hl (Nat.le_of_ble_eq_true rfl) dL_values_255 ⟨Nat.le_of_ble_eq_true rfl, Nat.le_of_ble_eq_true rfl⟩ (fun H locs hP hD hS => ?_)
    refine kc0 (n := 1) (As := [.int (mi pg (best - 1))]) cx cl (c_L_size l hlt G b L xs (mi pg (best - 1))) trivial hP hD hS gL_values_L_size rfl rfl rfl (by decide +kernel) ⟨Nat.le_of_ble_eq_true rfl, Nat.le_of_ble_eq_true rfl⟩ rfl rfl hl (Nat.le_of_ble_eq_true rfl) dL_values_258 ⟨Nat.le_of_ble_eq_true rfl, Nat.le_of_ble_eq_true rfl⟩ (fun r9 H locs h9 hP hD hS => ?_)
    rw [h9]
    refine lv_iload hx hb dL_values_261 (lv_at hl 0 rfl) ?_
    refine lv_icmp_le (tgt := 338) hx hb dL_values_263 (by decide) (fun c9 => absurd c9 (nge (hB2 _ (rb_d hrb c238) (dec_l hrb c238)))) (fun c9 => ?_)
    refine W.widen (k := 35) (n := 210) (Nat.le_of_ble_eq_true rfl) (Nat.le_of_ble_eq_true rfl) ?_
    exact vl_6 hlt cx cl HQ J hpv HO hx9 (rb_d hrb c238) hrb hB1 hB2 hP hD hS (lv_sub hl [0, 2, 3, 1, 4, 5, 6, 7] rfl)

set_option maxRecDepth 100000 in
set_option maxHeartbeats 4000000 in
theorem vl_4 (hlt : l.stackTraces = false) (cx : Cx p s m args meth c cL_values 15 RL wsL_values (some .boolean) G A) (cl : CL s A b L xs) {d : AD} (HQ : PQd d) {x : XT} {x9 : Int32} {hs : List Pg} {v0 v1 v2 : Int32} (J : JNV x n tt pg hs (some pg) k1)  (hpv : PV pg) (HO : OKP pg) (hx9 : 0 ≤ x9.toInt) (hv0 : aQ 1 ((P_X4_value z0 pg 0).1, (P_X4_value z0 pg 0).2) = v0) (hv1 : aQ 1 ((P_X4_value z0 pg 1).1, (P_X4_value z0 pg 1).2) = v1) (hv2 : aQ 1 ((P_X4_value z0 pg 2).1, (P_X4_value z0 pg 2).2) = v2) (HV : VV pg v0 v1 v2) {H : Heap} {locs : List Loc} {ls : Array Slot} (hP : va_P G.1 vwCl (wB G d x []) H) (hD : va_D A (wB G d x [])) (hS : va_S A s.heap H locs) (hl : lv_has ls 15 [(3, .int (pg 2)), (2, .int (pg 8)), (1, .int x9), (0, .ref d.1)])  : W p l e rmL_values s m args below meth c H locs 23 138 (MQ below (qG G (fun x : XT => wB G d x []) (fun r x => r = 1 ∧ JNV x n tt pg [] (some pg) k1) A) args s 80 480 A) (F0 m 134 ls []) := by
  obtain ⟨hx, hb, hml, hown, hts, hr, hlocks, hK, hA⟩ := id cx
  refine lv_aload_n hx hb dL_values_134 rfl (lv_at hl 3 rfl) ?_
  refine lv_iconst (v := 2) hx hb dL_values_135 (by decide) ?_
  refine o_value hlt cx cl HQ J 2 (r0 := v2) hv2 hP hD hS gL_values_L_tryValue ⟨Nat.le_of_ble_eq_true rfl, Nat.le_of_ble_eq_true rfl⟩ hl (Nat.le_of_ble_eq_true rfl) dL_values_136 ⟨Nat.le_of_ble_eq_true rfl, Nat.le_of_ble_eq_true rfl⟩ (fun H locs hP hD hS => ?_)
  refine lv_aload_n hx hb dL_values_139 rfl (lv_at hl 3 rfl) ?_
  refine lv_iconst (v := 0) hx hb dL_values_140 (by decide) ?_
  refine o_value hlt cx cl HQ J 0 (r0 := v0) hv0 hP hD hS gL_values_L_tryValue ⟨Nat.le_of_ble_eq_true rfl, Nat.le_of_ble_eq_true rfl⟩ hl (Nat.le_of_ble_eq_true rfl) dL_values_141 ⟨Nat.le_of_ble_eq_true rfl, Nat.le_of_ble_eq_true rfl⟩ (fun H locs hP hD hS => ?_)
  refine lv_icmp_gt (tgt := 179) hx hb dL_values_144 (by decide) (fun c9 => absurd c9 (nlt HV.2.2.2.1)) (fun c9 => ?_)
  refine lv_aload_n hx hb dL_values_147 rfl (lv_at hl 3 rfl) ?_
  refine lv_iconst (v := 0) hx hb dL_values_148 (by decide) ?_
  refine o_value hlt cx cl HQ J 0 (r0 := v0) hv0 hP hD hS gL_values_L_tryValue ⟨Nat.le_of_ble_eq_true rfl, Nat.le_of_ble_eq_true rfl⟩ hl (Nat.le_of_ble_eq_true rfl) dL_values_149 ⟨Nat.le_of_ble_eq_true rfl, Nat.le_of_ble_eq_true rfl⟩ (fun H locs hP hD hS => ?_)
  refine lv_aload_n hx hb dL_values_152 rfl (lv_at hl 3 rfl) ?_
  refine lv_iconst (v := 1) hx hb dL_values_153 (by decide) ?_
  refine o_value hlt cx cl HQ J 1 (r0 := v1) hv1 hP hD hS gL_values_L_tryValue ⟨Nat.le_of_ble_eq_true rfl, Nat.le_of_ble_eq_true rfl⟩ hl (Nat.le_of_ble_eq_true rfl) dL_values_154 ⟨Nat.le_of_ble_eq_true rfl, Nat.le_of_ble_eq_true rfl⟩ (fun H locs hP hD hS => ?_)
  refine lv_icmp_gt (tgt := 179) hx hb dL_values_157 (by decide) (fun c9 => absurd c9 (nlt HV.2.2.2.2.1)) (fun c9 => ?_)
  refine lv_aload_n hx hb dL_values_160 rfl (lv_at hl 3 rfl) ?_
  refine lv_iconst (v := 1) hx hb dL_values_161 (by decide) ?_
  refine o_value hlt cx cl HQ J 1 (r0 := v1) hv1 hP hD hS gL_values_L_tryValue ⟨Nat.le_of_ble_eq_true rfl, Nat.le_of_ble_eq_true rfl⟩ hl (Nat.le_of_ble_eq_true rfl) dL_values_162 ⟨Nat.le_of_ble_eq_true rfl, Nat.le_of_ble_eq_true rfl⟩ (fun H locs hP hD hS => ?_)
  refine lv_aload_n hx hb dL_values_165 rfl (lv_at hl 3 rfl) ?_
  refine lv_iconst (v := 2) hx hb dL_values_166 (by decide) ?_
  refine o_value hlt cx cl HQ J 2 (r0 := v2) hv2 hP hD hS gL_values_L_tryValue ⟨Nat.le_of_ble_eq_true rfl, Nat.le_of_ble_eq_true rfl⟩ hl (Nat.le_of_ble_eq_true rfl) dL_values_167 ⟨Nat.le_of_ble_eq_true rfl, Nat.le_of_ble_eq_true rfl⟩ (fun H locs hP hD hS => ?_)
  refine lv_isub hx hb dL_values_170 ?_
  refine lv_iconst (v := 1) hx hb dL_values_171 (by decide) ?_
  refine lv_icmp_gt (tgt := 179) hx hb dL_values_172 (by decide) (fun c9 => absurd c9 (nlt HV.2.2.2.2.2)) (fun c9 => ?_)
  refine lv_iconst (v := 1) hx hb dL_values_175 (by decide) ?_
  refine lv_goto (tgt := 180) hx hb dL_values_176 (by decide) ?_
  refine lv_istore (lv' := [(4, .int 1), (3, .int (pg 2)), (2, .int (pg 8)), (1, .int x9), (0, .ref d.1)]) hx hb dL_values_180 hl (by decide) rfl (fun ls hl => ?_)
  refine W.widen (k := 29) (n := 174) (Nat.le_of_ble_eq_true rfl) (Nat.le_of_ble_eq_true rfl) ?_
  obtain ⟨best, hB, hrb, hB1, hB2, -⟩ := bm_r hpv
  exact vl_5 hlt cx cl HQ J hpv HO hx9 hB hrb hB1 hB2 hP hD hS (lv_sub hl [0, 1, 2, 3, 4] rfl)

set_option maxRecDepth 100000 in
set_option maxHeartbeats 4000000 in
theorem vl_3y (hlt : l.stackTraces = false) (cx : Cx p s m args meth c cL_values 15 RL wsL_values (some .boolean) G A) (cl : CL s A b L xs) {d : AD} (HQ : PQd d) {x : XT} {x9 : Int32} {hs : List Pg} {v0 v1 v2 : Int32} (J : JNV x n tt pg hs (some pg) k1)  (hpv : PV pg) (HO : OKP pg) (hx9 : 0 ≤ x9.toInt) (hv0 : aQ 1 ((P_X4_value z0 pg 0).1, (P_X4_value z0 pg 0).2) = v0) (hv1 : aQ 1 ((P_X4_value z0 pg 1).1, (P_X4_value z0 pg 1).2) = v1) (hv2 : aQ 1 ((P_X4_value z0 pg 2).1, (P_X4_value z0 pg 2).2) = v2) (HV : VV pg v0 v1 v2) (h : mi pg (pg 2) ≤ 0) {H : Heap} {locs : List Loc} {ls : Array Slot} (hP : va_P G.1 vwCl (wB G d x []) H) (hD : va_D A (wB G d x [])) (hS : va_S A s.heap H locs) (hl : lv_has ls 15 [(3, .int (pg 2)), (2, .int (pg 8)), (1, .int x9), (0, .ref d.1)])  : W p l e rmL_values s m args below meth c H locs 17 102 (MQ below (qG G (fun x : XT => wB G d x []) (fun r x => r = 1 ∧ JNV x n tt pg [] (some pg) k1) A) args s 80 480 A) (F0 m 101 ls []) := by
  obtain ⟨hx, hb, hml, hown, hts, hr, hlocks, hK, hA⟩ := id cx
  refine lv_aload_n hx hb dL_values_101 rfl (lv_at hl 3 rfl) ?_
  refine lv_iconst (v := 0) hx hb dL_values_102 (by decide) ?_
  refine o_bridge hlt cx cl HQ J 0 (r0 := (mi pg (pg 2))) br_0 hP hD hS gL_values_L_tryBridge ⟨Nat.le_of_ble_eq_true rfl, Nat.le_of_ble_eq_true rfl⟩ hl (Nat.le_of_ble_eq_true rfl) dL_values_103 ⟨Nat.le_of_ble_eq_true rfl, Nat.le_of_ble_eq_true rfl⟩ (fun H locs hP hD hS => ?_)
  refine lv_if_gt (tgt := 113) hx hb dL_values_106 (by decide) (fun c9 => absurd c9 (nlt h)) (fun c9 => ?_)
  refine lv_iconst (v := 1) hx hb dL_values_109 (by decide) ?_
  refine lv_goto (tgt := 114) hx hb dL_values_110 (by decide) ?_
  refine lv_aload_n hx hb dL_values_114 rfl (lv_at hl 3 rfl) ?_
  refine kc1 (n := 1) (As := [.ref d.1]) cx cl (c_L_ohms l hlt G b L xs d HQ n tt pg hs (some pg) k1) J hP hD hS gL_values_L_ohms rfl rfl rfl (by decide +kernel) ⟨Nat.le_of_ble_eq_true rfl, Nat.le_of_ble_eq_true rfl⟩ rfl rfl hl (Nat.le_of_ble_eq_true rfl) dL_values_115 ⟨Nat.le_of_ble_eq_true rfl, Nat.le_of_ble_eq_true rfl⟩ (fun r9 x H locs h9 hP hD hS => ?_)
  obtain ⟨h9, ho1, J⟩ : r9 = P_X4_unknown pg ∧ ∃ hs2, JNV x n tt pg hs2 (some pg) k1 := h9
  rw [h9]
  refine lv_aload_n hx hb dL_values_118 rfl (lv_at hl 3 rfl) ?_
  refine lv_iconst (v := 2) hx hb dL_values_119 (by decide) ?_
  refine o_value hlt cx cl HQ J 2 (r0 := v2) hv2 hP hD hS gL_values_L_tryValue ⟨Nat.le_of_ble_eq_true rfl, Nat.le_of_ble_eq_true rfl⟩ hl (Nat.le_of_ble_eq_true rfl) dL_values_120 ⟨Nat.le_of_ble_eq_true rfl, Nat.le_of_ble_eq_true rfl⟩ (fun H locs hP hD hS => ?_)
  refine lv_icmp_gt (tgt := 130) hx hb dL_values_123 (by decide) (fun c9 => absurd c9 (nlt (HV.2.2.1.mp h))) (fun c9 => ?_)
  refine lv_iconst (v := 1) hx hb dL_values_126 (by decide) ?_
  refine lv_goto (tgt := 131) hx hb dL_values_127 (by decide) ?_
  refine lv_icmp_ne (tgt := 179) hx hb dL_values_131 (by decide) (fun c9 => absurd (by decide) c9) (fun c9 => ?_)
  refine W.widen (k := 23) (n := 138) (Nat.le_of_ble_eq_true rfl) (Nat.le_of_ble_eq_true rfl) ?_
  exact vl_4 hlt cx cl HQ J hpv HO hx9 hv0 hv1 hv2 HV hP hD hS (lv_sub hl [0, 1, 2, 3] rfl)

set_option maxRecDepth 100000 in
set_option maxHeartbeats 4000000 in
theorem vl_3n (hlt : l.stackTraces = false) (cx : Cx p s m args meth c cL_values 15 RL wsL_values (some .boolean) G A) (cl : CL s A b L xs) {d : AD} (HQ : PQd d) {x : XT} {x9 : Int32} {hs : List Pg} {v0 v1 v2 : Int32} (J : JNV x n tt pg hs (some pg) k1)  (hpv : PV pg) (HO : OKP pg) (hx9 : 0 ≤ x9.toInt) (hv0 : aQ 1 ((P_X4_value z0 pg 0).1, (P_X4_value z0 pg 0).2) = v0) (hv1 : aQ 1 ((P_X4_value z0 pg 1).1, (P_X4_value z0 pg 1).2) = v1) (hv2 : aQ 1 ((P_X4_value z0 pg 2).1, (P_X4_value z0 pg 2).2) = v2) (HV : VV pg v0 v1 v2) (h : ¬ mi pg (pg 2) ≤ 0) {H : Heap} {locs : List Loc} {ls : Array Slot} (hP : va_P G.1 vwCl (wB G d x []) H) (hD : va_D A (wB G d x [])) (hS : va_S A s.heap H locs) (hl : lv_has ls 15 [(3, .int (pg 2)), (2, .int (pg 8)), (1, .int x9), (0, .ref d.1)])  : W p l e rmL_values s m args below meth c H locs 17 102 (MQ below (qG G (fun x : XT => wB G d x []) (fun r x => r = 1 ∧ JNV x n tt pg [] (some pg) k1) A) args s 80 480 A) (F0 m 101 ls []) := by
  obtain ⟨hx, hb, hml, hown, hts, hr, hlocks, hK, hA⟩ := id cx
  refine lv_aload_n hx hb dL_values_101 rfl (lv_at hl 3 rfl) ?_
  refine lv_iconst (v := 0) hx hb dL_values_102 (by decide) ?_
  refine o_bridge hlt cx cl HQ J 0 (r0 := (mi pg (pg 2))) br_0 hP hD hS gL_values_L_tryBridge ⟨Nat.le_of_ble_eq_true rfl, Nat.le_of_ble_eq_true rfl⟩ hl (Nat.le_of_ble_eq_true rfl) dL_values_103 ⟨Nat.le_of_ble_eq_true rfl, Nat.le_of_ble_eq_true rfl⟩ (fun H locs hP hD hS => ?_)
  refine lv_if_gt (tgt := 113) hx hb dL_values_106 (by decide) (fun c9 => ?_) (fun c9 => absurd (nle h) c9)
  refine lv_iconst (v := 0) hx hb dL_values_113 (by decide) ?_
  refine lv_aload_n hx hb dL_values_114 rfl (lv_at hl 3 rfl) ?_
  refine kc1 (n := 1) (As := [.ref d.1]) cx cl (c_L_ohms l hlt G b L xs d HQ n tt pg hs (some pg) k1) J hP hD hS gL_values_L_ohms rfl rfl rfl (by decide +kernel) ⟨Nat.le_of_ble_eq_true rfl, Nat.le_of_ble_eq_true rfl⟩ rfl rfl hl (Nat.le_of_ble_eq_true rfl) dL_values_115 ⟨Nat.le_of_ble_eq_true rfl, Nat.le_of_ble_eq_true rfl⟩ (fun r9 x H locs h9 hP hD hS => ?_)
  obtain ⟨h9, ho1, J⟩ : r9 = P_X4_unknown pg ∧ ∃ hs2, JNV x n tt pg hs2 (some pg) k1 := h9
  rw [h9]
  refine lv_aload_n hx hb dL_values_118 rfl (lv_at hl 3 rfl) ?_
  refine lv_iconst (v := 2) hx hb dL_values_119 (by decide) ?_
  refine o_value hlt cx cl HQ J 2 (r0 := v2) hv2 hP hD hS gL_values_L_tryValue ⟨Nat.le_of_ble_eq_true rfl, Nat.le_of_ble_eq_true rfl⟩ hl (Nat.le_of_ble_eq_true rfl) dL_values_120 ⟨Nat.le_of_ble_eq_true rfl, Nat.le_of_ble_eq_true rfl⟩ (fun H locs hP hD hS => ?_)
  refine lv_icmp_gt (tgt := 130) hx hb dL_values_123 (by decide) (fun c9 => ?_) (fun c9 => absurd (nle (fun q => h (HV.2.2.1.mpr q))) c9)
  refine lv_iconst (v := 0) hx hb dL_values_130 (by decide) ?_
  refine lv_icmp_ne (tgt := 179) hx hb dL_values_131 (by decide) (fun c9 => absurd (by decide) c9) (fun c9 => ?_)
  refine W.widen (k := 23) (n := 138) (Nat.le_of_ble_eq_true rfl) (Nat.le_of_ble_eq_true rfl) ?_
  exact vl_4 hlt cx cl HQ J hpv HO hx9 hv0 hv1 hv2 HV hP hD hS (lv_sub hl [0, 1, 2, 3] rfl)

set_option maxRecDepth 100000 in
set_option maxHeartbeats 4000000 in
theorem vl_2y (hlt : l.stackTraces = false) (cx : Cx p s m args meth c cL_values 15 RL wsL_values (some .boolean) G A) (cl : CL s A b L xs) {d : AD} (HQ : PQd d) {x : XT} {x9 : Int32} {hs : List Pg} {v0 v1 v2 : Int32} (J : JNV x n tt pg hs (some pg) k1)  (hpv : PV pg) (HO : OKP pg) (hx9 : 0 ≤ x9.toInt) (hv0 : aQ 1 ((P_X4_value z0 pg 0).1, (P_X4_value z0 pg 0).2) = v0) (hv1 : aQ 1 ((P_X4_value z0 pg 1).1, (P_X4_value z0 pg 1).2) = v1) (hv2 : aQ 1 ((P_X4_value z0 pg 2).1, (P_X4_value z0 pg 2).2) = v2) (HV : VV pg v0 v1 v2) (h : 0 ≤ mi pg (pg 2)) {H : Heap} {locs : List Loc} {ls : Array Slot} (hP : va_P G.1 vwCl (wB G d x []) H) (hD : va_D A (wB G d x [])) (hS : va_S A s.heap H locs) (hl : lv_has ls 15 [(3, .int (pg 2)), (2, .int (pg 8)), (1, .int x9), (0, .ref d.1)])  : W p l e rmL_values s m args below meth c H locs 11 66 (MQ below (qG G (fun x : XT => wB G d x []) (fun r x => r = 1 ∧ JNV x n tt pg [] (some pg) k1) A) args s 80 480 A) (F0 m 68 ls []) := by
  obtain ⟨hx, hb, hml, hown, hts, hr, hlocks, hK, hA⟩ := id cx
  refine lv_aload_n hx hb dL_values_68 rfl (lv_at hl 3 rfl) ?_
  refine lv_iconst (v := 0) hx hb dL_values_69 (by decide) ?_
  refine o_bridge hlt cx cl HQ J 0 (r0 := (mi pg (pg 2))) br_0 hP hD hS gL_values_L_tryBridge ⟨Nat.le_of_ble_eq_true rfl, Nat.le_of_ble_eq_true rfl⟩ hl (Nat.le_of_ble_eq_true rfl) dL_values_70 ⟨Nat.le_of_ble_eq_true rfl, Nat.le_of_ble_eq_true rfl⟩ (fun H locs hP hD hS => ?_)
  refine lv_if_lt (tgt := 80) hx hb dL_values_73 (by decide) (fun c9 => absurd c9 (nlt h)) (fun c9 => ?_)
  refine lv_iconst (v := 1) hx hb dL_values_76 (by decide) ?_
  refine lv_goto (tgt := 81) hx hb dL_values_77 (by decide) ?_
  refine lv_aload_n hx hb dL_values_81 rfl (lv_at hl 3 rfl) ?_
  refine kc1 (n := 1) (As := [.ref d.1]) cx cl (c_L_ohms l hlt G b L xs d HQ n tt pg hs (some pg) k1) J hP hD hS gL_values_L_ohms rfl rfl rfl (by decide +kernel) ⟨Nat.le_of_ble_eq_true rfl, Nat.le_of_ble_eq_true rfl⟩ rfl rfl hl (Nat.le_of_ble_eq_true rfl) dL_values_82 ⟨Nat.le_of_ble_eq_true rfl, Nat.le_of_ble_eq_true rfl⟩ (fun r9 x H locs h9 hP hD hS => ?_)
  obtain ⟨h9, ho1, J⟩ : r9 = P_X4_unknown pg ∧ ∃ hs2, JNV x n tt pg hs2 (some pg) k1 := h9
  rw [h9]
  refine lv_aload_n hx hb dL_values_85 rfl (lv_at hl 3 rfl) ?_
  refine lv_iconst (v := 1) hx hb dL_values_86 (by decide) ?_
  refine o_value hlt cx cl HQ J 1 (r0 := v1) hv1 hP hD hS gL_values_L_tryValue ⟨Nat.le_of_ble_eq_true rfl, Nat.le_of_ble_eq_true rfl⟩ hl (Nat.le_of_ble_eq_true rfl) dL_values_87 ⟨Nat.le_of_ble_eq_true rfl, Nat.le_of_ble_eq_true rfl⟩ (fun H locs hP hD hS => ?_)
  refine lv_icmp_lt (tgt := 97) hx hb dL_values_90 (by decide) (fun c9 => absurd c9 (nlt (HV.2.1.mp h))) (fun c9 => ?_)
  refine lv_iconst (v := 1) hx hb dL_values_93 (by decide) ?_
  refine lv_goto (tgt := 98) hx hb dL_values_94 (by decide) ?_
  refine lv_icmp_ne (tgt := 179) hx hb dL_values_98 (by decide) (fun c9 => absurd (by decide) c9) (fun c9 => ?_)
  refine W.widen (k := 17) (n := 102) (Nat.le_of_ble_eq_true rfl) (Nat.le_of_ble_eq_true rfl) ?_
  by_cases h2 : mi pg (pg 2) ≤ 0
  · exact vl_3y hlt cx cl HQ J hpv HO hx9 hv0 hv1 hv2 HV h2 hP hD hS (lv_sub hl [0, 1, 2, 3] rfl)
  · exact vl_3n hlt cx cl HQ J hpv HO hx9 hv0 hv1 hv2 HV h2 hP hD hS (lv_sub hl [0, 1, 2, 3] rfl)

set_option maxRecDepth 100000 in
set_option maxHeartbeats 4000000 in
theorem vl_2n (hlt : l.stackTraces = false) (cx : Cx p s m args meth c cL_values 15 RL wsL_values (some .boolean) G A) (cl : CL s A b L xs) {d : AD} (HQ : PQd d) {x : XT} {x9 : Int32} {hs : List Pg} {v0 v1 v2 : Int32} (J : JNV x n tt pg hs (some pg) k1)  (hpv : PV pg) (HO : OKP pg) (hx9 : 0 ≤ x9.toInt) (hv0 : aQ 1 ((P_X4_value z0 pg 0).1, (P_X4_value z0 pg 0).2) = v0) (hv1 : aQ 1 ((P_X4_value z0 pg 1).1, (P_X4_value z0 pg 1).2) = v1) (hv2 : aQ 1 ((P_X4_value z0 pg 2).1, (P_X4_value z0 pg 2).2) = v2) (HV : VV pg v0 v1 v2) (h : ¬ 0 ≤ mi pg (pg 2)) {H : Heap} {locs : List Loc} {ls : Array Slot} (hP : va_P G.1 vwCl (wB G d x []) H) (hD : va_D A (wB G d x [])) (hS : va_S A s.heap H locs) (hl : lv_has ls 15 [(3, .int (pg 2)), (2, .int (pg 8)), (1, .int x9), (0, .ref d.1)])  : W p l e rmL_values s m args below meth c H locs 11 66 (MQ below (qG G (fun x : XT => wB G d x []) (fun r x => r = 1 ∧ JNV x n tt pg [] (some pg) k1) A) args s 80 480 A) (F0 m 68 ls []) := by
  obtain ⟨hx, hb, hml, hown, hts, hr, hlocks, hK, hA⟩ := id cx
  refine lv_aload_n hx hb dL_values_68 rfl (lv_at hl 3 rfl) ?_
  refine lv_iconst (v := 0) hx hb dL_values_69 (by decide) ?_
  refine o_bridge hlt cx cl HQ J 0 (r0 := (mi pg (pg 2))) br_0 hP hD hS gL_values_L_tryBridge ⟨Nat.le_of_ble_eq_true rfl, Nat.le_of_ble_eq_true rfl⟩ hl (Nat.le_of_ble_eq_true rfl) dL_values_70 ⟨Nat.le_of_ble_eq_true rfl, Nat.le_of_ble_eq_true rfl⟩ (fun H locs hP hD hS => ?_)
  refine lv_if_lt (tgt := 80) hx hb dL_values_73 (by decide) (fun c9 => ?_) (fun c9 => absurd (nle h) c9)
  refine lv_iconst (v := 0) hx hb dL_values_80 (by decide) ?_
  refine lv_aload_n hx hb dL_values_81 rfl (lv_at hl 3 rfl) ?_
  refine kc1 (n := 1) (As := [.ref d.1]) cx cl (c_L_ohms l hlt G b L xs d HQ n tt pg hs (some pg) k1) J hP hD hS gL_values_L_ohms rfl rfl rfl (by decide +kernel) ⟨Nat.le_of_ble_eq_true rfl, Nat.le_of_ble_eq_true rfl⟩ rfl rfl hl (Nat.le_of_ble_eq_true rfl) dL_values_82 ⟨Nat.le_of_ble_eq_true rfl, Nat.le_of_ble_eq_true rfl⟩ (fun r9 x H locs h9 hP hD hS => ?_)
  obtain ⟨h9, ho1, J⟩ : r9 = P_X4_unknown pg ∧ ∃ hs2, JNV x n tt pg hs2 (some pg) k1 := h9
  rw [h9]
  refine lv_aload_n hx hb dL_values_85 rfl (lv_at hl 3 rfl) ?_
  refine lv_iconst (v := 1) hx hb dL_values_86 (by decide) ?_
  refine o_value hlt cx cl HQ J 1 (r0 := v1) hv1 hP hD hS gL_values_L_tryValue ⟨Nat.le_of_ble_eq_true rfl, Nat.le_of_ble_eq_true rfl⟩ hl (Nat.le_of_ble_eq_true rfl) dL_values_87 ⟨Nat.le_of_ble_eq_true rfl, Nat.le_of_ble_eq_true rfl⟩ (fun H locs hP hD hS => ?_)
  refine lv_icmp_lt (tgt := 97) hx hb dL_values_90 (by decide) (fun c9 => ?_) (fun c9 => absurd (nle (fun q => h (HV.2.1.mpr q))) c9)
  refine lv_iconst (v := 0) hx hb dL_values_97 (by decide) ?_
  refine lv_icmp_ne (tgt := 179) hx hb dL_values_98 (by decide) (fun c9 => absurd (by decide) c9) (fun c9 => ?_)
  refine W.widen (k := 17) (n := 102) (Nat.le_of_ble_eq_true rfl) (Nat.le_of_ble_eq_true rfl) ?_
  by_cases h2 : mi pg (pg 2) ≤ 0
  · exact vl_3y hlt cx cl HQ J hpv HO hx9 hv0 hv1 hv2 HV h2 hP hD hS (lv_sub hl [0, 1, 2, 3] rfl)
  · exact vl_3n hlt cx cl HQ J hpv HO hx9 hv0 hv1 hv2 HV h2 hP hD hS (lv_sub hl [0, 1, 2, 3] rfl)

set_option maxRecDepth 100000 in
set_option maxHeartbeats 4000000 in
theorem vl_1y (hlt : l.stackTraces = false) (cx : Cx p s m args meth c cL_values 15 RL wsL_values (some .boolean) G A) (cl : CL s A b L xs) {d : AD} (HQ : PQd d) {x : XT} {x9 : Int32} {hs : List Pg} {v0 v1 v2 : Int32} (J : JNV x n tt pg hs (some pg) k1)  (hpv : PV pg) (HO : OKP pg) (hx9 : 0 ≤ x9.toInt) (hv0 : aQ 1 ((P_X4_value z0 pg 0).1, (P_X4_value z0 pg 0).2) = v0) (hv1 : aQ 1 ((P_X4_value z0 pg 1).1, (P_X4_value z0 pg 1).2) = v1) (hv2 : aQ 1 ((P_X4_value z0 pg 2).1, (P_X4_value z0 pg 2).2) = v2) (HV : VV pg v0 v1 v2) (h : mi pg (pg 2) = 0) {H : Heap} {locs : List Loc} {ls : Array Slot} (hP : va_P G.1 vwCl (wB G d x []) H) (hD : va_D A (wB G d x [])) (hS : va_S A s.heap H locs) (hl : lv_has ls 15 [(3, .int (pg 2)), (2, .int (pg 8)), (1, .int x9), (0, .ref d.1)])  : W p l e rmL_values s m args below meth c H locs 3 18 (MQ below (qG G (fun x : XT => wB G d x []) (fun r x => r = 1 ∧ JNV x n tt pg [] (some pg) k1) A) args s 80 480 A) (F0 m 22 ls []) := by
  obtain ⟨hx, hb, hml, hown, hts, hr, hlocks, hK, hA⟩ := id cx
  refine lv_aload_n hx hb dL_values_22 rfl (lv_at hl 3 rfl) ?_
  refine lv_iconst (v := 0) hx hb dL_values_23 (by decide) ?_
  refine o_bridge hlt cx cl HQ J 0 (r0 := (mi pg (pg 2))) br_0 hP hD hS gL_values_L_tryBridge ⟨Nat.le_of_ble_eq_true rfl, Nat.le_of_ble_eq_true rfl⟩ hl (Nat.le_of_ble_eq_true rfl) dL_values_24 ⟨Nat.le_of_ble_eq_true rfl, Nat.le_of_ble_eq_true rfl⟩ (fun H locs hP hD hS => ?_)
  refine lv_if_ne (tgt := 34) hx hb dL_values_27 (by decide) (fun c9 => absurd h c9) (fun c9 => ?_)
  refine lv_iconst (v := 1) hx hb dL_values_30 (by decide) ?_
  refine lv_goto (tgt := 35) hx hb dL_values_31 (by decide) ?_
  refine lv_aload_n hx hb dL_values_35 rfl (lv_at hl 3 rfl) ?_
  refine lv_iconst (v := 1) hx hb dL_values_36 (by decide) ?_
  refine o_value hlt cx cl HQ J 1 (r0 := v1) hv1 hP hD hS gL_values_L_tryValue ⟨Nat.le_of_ble_eq_true rfl, Nat.le_of_ble_eq_true rfl⟩ hl (Nat.le_of_ble_eq_true rfl) dL_values_37 ⟨Nat.le_of_ble_eq_true rfl, Nat.le_of_ble_eq_true rfl⟩ (fun H locs hP hD hS => ?_)
  refine lv_aload_n hx hb dL_values_40 rfl (lv_at hl 3 rfl) ?_
  refine lv_iconst (v := 2) hx hb dL_values_41 (by decide) ?_
  refine o_value hlt cx cl HQ J 2 (r0 := v2) hv2 hP hD hS gL_values_L_tryValue ⟨Nat.le_of_ble_eq_true rfl, Nat.le_of_ble_eq_true rfl⟩ hl (Nat.le_of_ble_eq_true rfl) dL_values_42 ⟨Nat.le_of_ble_eq_true rfl, Nat.le_of_ble_eq_true rfl⟩ (fun H locs hP hD hS => ?_)
  refine lv_icmp_ne (tgt := 64) hx hb dL_values_45 (by decide) (fun c9 => absurd (HV.1.mp h).1 c9) (fun c9 => ?_)
  refine lv_aload_n hx hb dL_values_48 rfl (lv_at hl 3 rfl) ?_
  refine kc1 (n := 1) (As := [.ref d.1]) cx cl (c_L_ohms l hlt G b L xs d HQ n tt pg hs (some pg) k1) J hP hD hS gL_values_L_ohms rfl rfl rfl (by decide +kernel) ⟨Nat.le_of_ble_eq_true rfl, Nat.le_of_ble_eq_true rfl⟩ rfl rfl hl (Nat.le_of_ble_eq_true rfl) dL_values_49 ⟨Nat.le_of_ble_eq_true rfl, Nat.le_of_ble_eq_true rfl⟩ (fun r9 x H locs h9 hP hD hS => ?_)
  obtain ⟨h9, ho1, J⟩ : r9 = P_X4_unknown pg ∧ ∃ hs2, JNV x n tt pg hs2 (some pg) k1 := h9
  rw [h9]
  refine lv_aload_n hx hb dL_values_52 rfl (lv_at hl 3 rfl) ?_
  refine lv_iconst (v := 1) hx hb dL_values_53 (by decide) ?_
  refine o_value hlt cx cl HQ J 1 (r0 := v1) hv1 hP hD hS gL_values_L_tryValue ⟨Nat.le_of_ble_eq_true rfl, Nat.le_of_ble_eq_true rfl⟩ hl (Nat.le_of_ble_eq_true rfl) dL_values_54 ⟨Nat.le_of_ble_eq_true rfl, Nat.le_of_ble_eq_true rfl⟩ (fun H locs hP hD hS => ?_)
  refine lv_icmp_ne (tgt := 64) hx hb dL_values_57 (by decide) (fun c9 => absurd (HV.1.mp h).2 c9) (fun c9 => ?_)
  refine lv_iconst (v := 1) hx hb dL_values_60 (by decide) ?_
  refine lv_goto (tgt := 65) hx hb dL_values_61 (by decide) ?_
  refine lv_icmp_ne (tgt := 179) hx hb dL_values_65 (by decide) (fun c9 => absurd (by decide) c9) (fun c9 => ?_)
  refine W.widen (k := 11) (n := 66) (Nat.le_of_ble_eq_true rfl) (Nat.le_of_ble_eq_true rfl) ?_
  by_cases h2 : 0 ≤ mi pg (pg 2)
  · exact vl_2y hlt cx cl HQ J hpv HO hx9 hv0 hv1 hv2 HV h2 hP hD hS (lv_sub hl [0, 1, 2, 3] rfl)
  · exact vl_2n hlt cx cl HQ J hpv HO hx9 hv0 hv1 hv2 HV h2 hP hD hS (lv_sub hl [0, 1, 2, 3] rfl)

set_option maxRecDepth 100000 in
set_option maxHeartbeats 4000000 in
theorem vl_1n (hlt : l.stackTraces = false) (cx : Cx p s m args meth c cL_values 15 RL wsL_values (some .boolean) G A) (cl : CL s A b L xs) {d : AD} (HQ : PQd d) {x : XT} {x9 : Int32} {hs : List Pg} {v0 v1 v2 : Int32} (J : JNV x n tt pg hs (some pg) k1)  (hpv : PV pg) (HO : OKP pg) (hx9 : 0 ≤ x9.toInt) (hv0 : aQ 1 ((P_X4_value z0 pg 0).1, (P_X4_value z0 pg 0).2) = v0) (hv1 : aQ 1 ((P_X4_value z0 pg 1).1, (P_X4_value z0 pg 1).2) = v1) (hv2 : aQ 1 ((P_X4_value z0 pg 2).1, (P_X4_value z0 pg 2).2) = v2) (HV : VV pg v0 v1 v2) (h : ¬ mi pg (pg 2) = 0) {H : Heap} {locs : List Loc} {ls : Array Slot} (hP : va_P G.1 vwCl (wB G d x []) H) (hD : va_D A (wB G d x [])) (hS : va_S A s.heap H locs) (hl : lv_has ls 15 [(3, .int (pg 2)), (2, .int (pg 8)), (1, .int x9), (0, .ref d.1)])  : W p l e rmL_values s m args below meth c H locs 3 18 (MQ below (qG G (fun x : XT => wB G d x []) (fun r x => r = 1 ∧ JNV x n tt pg [] (some pg) k1) A) args s 80 480 A) (F0 m 22 ls []) := by
  obtain ⟨hx, hb, hml, hown, hts, hr, hlocks, hK, hA⟩ := id cx
  refine lv_aload_n hx hb dL_values_22 rfl (lv_at hl 3 rfl) ?_
  refine lv_iconst (v := 0) hx hb dL_values_23 (by decide) ?_
  refine o_bridge hlt cx cl HQ J 0 (r0 := (mi pg (pg 2))) br_0 hP hD hS gL_values_L_tryBridge ⟨Nat.le_of_ble_eq_true rfl, Nat.le_of_ble_eq_true rfl⟩ hl (Nat.le_of_ble_eq_true rfl) dL_values_24 ⟨Nat.le_of_ble_eq_true rfl, Nat.le_of_ble_eq_true rfl⟩ (fun H locs hP hD hS => ?_)
  refine lv_if_ne (tgt := 34) hx hb dL_values_27 (by decide) (fun c9 => ?_) (fun c9 => absurd c9 h)
  refine lv_iconst (v := 0) hx hb dL_values_34 (by decide) ?_
  refine lv_aload_n hx hb dL_values_35 rfl (lv_at hl 3 rfl) ?_
  refine lv_iconst (v := 1) hx hb dL_values_36 (by decide) ?_
  refine o_value hlt cx cl HQ J 1 (r0 := v1) hv1 hP hD hS gL_values_L_tryValue ⟨Nat.le_of_ble_eq_true rfl, Nat.le_of_ble_eq_true rfl⟩ hl (Nat.le_of_ble_eq_true rfl) dL_values_37 ⟨Nat.le_of_ble_eq_true rfl, Nat.le_of_ble_eq_true rfl⟩ (fun H locs hP hD hS => ?_)
  refine lv_aload_n hx hb dL_values_40 rfl (lv_at hl 3 rfl) ?_
  refine lv_iconst (v := 2) hx hb dL_values_41 (by decide) ?_
  refine o_value hlt cx cl HQ J 2 (r0 := v2) hv2 hP hD hS gL_values_L_tryValue ⟨Nat.le_of_ble_eq_true rfl, Nat.le_of_ble_eq_true rfl⟩ hl (Nat.le_of_ble_eq_true rfl) dL_values_42 ⟨Nat.le_of_ble_eq_true rfl, Nat.le_of_ble_eq_true rfl⟩ (fun H locs hP hD hS => ?_)
  refine lv_icmp_ne (tgt := 64) hx hb dL_values_45 (by decide) (fun c45 => ?_) (fun c45 => ?_)
  · refine lv_iconst (v := 0) hx hb dL_values_64 (by decide) ?_
    refine lv_icmp_ne (tgt := 179) hx hb dL_values_65 (by decide) (fun c9 => absurd (by decide) c9) (fun c9 => ?_)
    refine W.widen (k := 11) (n := 66) (Nat.le_of_ble_eq_true rfl) (Nat.le_of_ble_eq_true rfl) ?_
    by_cases h2 : 0 ≤ mi pg (pg 2)
    · exact vl_2y hlt cx cl HQ J hpv HO hx9 hv0 hv1 hv2 HV h2 hP hD hS (lv_sub hl [0, 1, 2, 3] rfl)
    · exact vl_2n hlt cx cl HQ J hpv HO hx9 hv0 hv1 hv2 HV h2 hP hD hS (lv_sub hl [0, 1, 2, 3] rfl)
  · refine lv_aload_n hx hb dL_values_48 rfl (lv_at hl 3 rfl) ?_
    refine kc1 (n := 1) (As := [.ref d.1]) cx cl (c_L_ohms l hlt G b L xs d HQ n tt pg hs (some pg) k1) J hP hD hS gL_values_L_ohms rfl rfl rfl (by decide +kernel) ⟨Nat.le_of_ble_eq_true rfl, Nat.le_of_ble_eq_true rfl⟩ rfl rfl hl (Nat.le_of_ble_eq_true rfl) dL_values_49 ⟨Nat.le_of_ble_eq_true rfl, Nat.le_of_ble_eq_true rfl⟩ (fun r9 x H locs h9 hP hD hS => ?_)
    obtain ⟨h9, ho1, J⟩ : r9 = P_X4_unknown pg ∧ ∃ hs2, JNV x n tt pg hs2 (some pg) k1 := h9
    rw [h9]
    refine lv_aload_n hx hb dL_values_52 rfl (lv_at hl 3 rfl) ?_
    refine lv_iconst (v := 1) hx hb dL_values_53 (by decide) ?_
    refine o_value hlt cx cl HQ J 1 (r0 := v1) hv1 hP hD hS gL_values_L_tryValue ⟨Nat.le_of_ble_eq_true rfl, Nat.le_of_ble_eq_true rfl⟩ hl (Nat.le_of_ble_eq_true rfl) dL_values_54 ⟨Nat.le_of_ble_eq_true rfl, Nat.le_of_ble_eq_true rfl⟩ (fun H locs hP hD hS => ?_)
    refine lv_icmp_ne (tgt := 64) hx hb dL_values_57 (by decide) (fun c9 => ?_) (fun c9 => absurd c9 (fun q => h (HV.1.mpr ⟨c45, q⟩)))
    refine lv_iconst (v := 0) hx hb dL_values_64 (by decide) ?_
    refine lv_icmp_ne (tgt := 179) hx hb dL_values_65 (by decide) (fun c9 => absurd (by decide) c9) (fun c9 => ?_)
    refine W.widen (k := 11) (n := 66) (Nat.le_of_ble_eq_true rfl) (Nat.le_of_ble_eq_true rfl) ?_
    by_cases h2 : 0 ≤ mi pg (pg 2)
    · exact vl_2y hlt cx cl HQ J hpv HO hx9 hv0 hv1 hv2 HV h2 hP hD hS (lv_sub hl [0, 1, 2, 3] rfl)
    · exact vl_2n hlt cx cl HQ J hpv HO hx9 hv0 hv1 hv2 HV h2 hP hD hS (lv_sub hl [0, 1, 2, 3] rfl)

end WVL
set_option maxRecDepth 100000 in
set_option maxHeartbeats 4000000 in
theorem c_L_values (l : Launch) (hlt : l.stackTraces = false) (G : gG) (b L : Nat) (xs : Nat → Int32) (d : AD) (HQ : PQd d) (n : Int32) (tt pg : Pg) (hs : List Pg) (k0 k1 : Option Pg) (HO : OKP pg) (x9 : Int32) (hx9 : 0 ≤ x9.toInt) : kG l G yL_values wsL_values rmL_values [.ref d.1, .int x9] b L xs (fun x : XT => wB G d x []) (fun x => JNV x n tt pg hs k0 k1) (fun r x => r = 1 ∧ JNV x n tt pg [] (some pg) k1) 80 480 := by
  refine k_bodyG (cc := cL_values) (nL := 15) (ret := some .boolean) (by decide) rfl (Nat.le_of_ble_eq_true rfl) ?_
  intro x hI
  intro p e s m args below meth c A cx cl H locs hP hD hS ls hl
  obtain ⟨hx, hb, hml, hown, hts, hr, hlocks, hK, hA⟩ := id cx
  have hl : lv_has ls 15 [(0, .ref d.1), (1, .int x9)] := hl
  have hP : va_P G.1 vwCl (wB G d x []) H := hP
  have hD : va_D A (wB G d x []) := hD
  have J : JNV x n tt pg hs k0 k1 := hI
  have hpv : PV pg := J.pv
  refine lv_aload_n hx hb dL_values_0 rfl (lv_at hl 0 rfl) ?_
  refine lv_bipush (v := 9) hx hb dL_values_1 (by decide) ?_
  refine o_about hlt cx cl HQ J 9 (r0 := (pg 8)) (ab_hi (j := 8) (by decide) (by decide) (by decide) (by decide)) hP hD hS gL_values_L_tryAbout ⟨Nat.le_of_ble_eq_true rfl, Nat.le_of_ble_eq_true rfl⟩ hl (Nat.le_of_ble_eq_true rfl) dL_values_3 ⟨Nat.le_of_ble_eq_true rfl, Nat.le_of_ble_eq_true rfl⟩ (fun H locs hP hD hS => ?_)
  refine lv_istore_n (lv' := [(2, .int (pg 8)), (0, .ref d.1), (1, .int x9)]) hx hb dL_values_6 rfl hl (by decide) rfl (fun ls hl => ?_)
  refine lv_aload_n hx hb dL_values_7 rfl (lv_at hl 1 rfl) ?_
  refine lv_iconst (v := 2) hx hb dL_values_8 (by decide) ?_
  refine o_about hlt cx cl HQ J 2 (r0 := (pg 2)) (ab_lo (j := 2) (by decide) (by decide) (by decide)) hP hD hS gL_values_L_tryAbout ⟨Nat.le_of_ble_eq_true rfl, Nat.le_of_ble_eq_true rfl⟩ hl (Nat.le_of_ble_eq_true rfl) dL_values_9 ⟨Nat.le_of_ble_eq_true rfl, Nat.le_of_ble_eq_true rfl⟩ (fun H locs hP hD hS => ?_)
  refine lv_istore_n (lv' := [(3, .int (pg 2)), (2, .int (pg 8)), (0, .ref d.1), (1, .int x9)]) hx hb dL_values_12 rfl hl (by decide) rfl (fun ls hl => ?_)
  refine lv_aload_n hx hb dL_values_13 rfl (lv_at hl 2 rfl) ?_
  refine lv_iconst (v := 0) hx hb dL_values_14 (by decide) ?_
  refine o_save0 hlt cx cl HQ J   (r0 := (pg 8)) rfl hP hD hS gL_values_L_trySave ⟨Nat.le_of_ble_eq_true rfl, Nat.le_of_ble_eq_true rfl⟩ hl (Nat.le_of_ble_eq_true rfl) dL_values_15 ⟨Nat.le_of_ble_eq_true rfl, Nat.le_of_ble_eq_true rfl⟩ (fun x H locs J hP hD hS => ?_)
  have J : JNV x n tt pg hs (some pg) k1 := J
  refine lv_iload_n hx hb dL_values_18 rfl (lv_at hl 1 rfl) ?_
  refine lv_icmp_ne (tgt := 179) hx hb dL_values_19 (by decide) (fun c9 => absurd rfl c9) (fun c9 => ?_)
  obtain ⟨v0, v1, v2, hv0, hv1, hv2, HV⟩ := vl_r hpv
  refine W.widen (k := 3) (n := 18) (Nat.le_of_ble_eq_true rfl) (Nat.le_of_ble_eq_true rfl) ?_
  by_cases h2 : mi pg (pg 2) = 0
  · exact vl_1y hlt cx cl HQ J hpv HO hx9 hv0 hv1 hv2 HV h2 hP hD hS (lv_sub hl [0, 1, 3, 2] rfl)
  · exact vl_1n hlt cx cl HQ J hpv HO hx9 hv0 hv1 hv2 HV h2 hP hD hS (lv_sub hl [0, 1, 3, 2] rfl)
