/-! the law's methods -/
abbrev rmL_alike : Room := { frames := 8, cells := 300, slots := 1800, locals := 190 }
section WAL
variable {p : Program} {l : Launch} {e : Env} {s : State} {m : MethodId} {args : Array Value} {below : List Frame} {meth : Method} {c : Code} {Qp : State → Prop} {G : gG} {A : Nat → Prop} {b L : Nat} {xs : Nat → Int32}

set_option maxRecDepth 100000 in
set_option maxHeartbeats 16000000 in
theorem al_lp (hlt : l.stackTraces = false) (cx : Cx p s m args meth c cL_alike 4 RL wsL_alike (some .boolean) G A) (cl : CL s A b L xs) {d1 d2 : AD} (HQ1 : PQd d1) (HQ2 : PQd d2) {x1 x2 : XT} {n : Int32} {tt pg : Pg} {hs : List Pg} {k0 k1 : Option Pg} (J1 : JNV x1 n tt pg hs k0 k1) (J2 : JNV x2 n tt pg hs k0 k1) : ∀ (f t : Nat), t + f = 84 → ∀ {H : Heap} {locs : List Loc} {ls : Array Slot} (hP : va_P G.1 vwCl (wB G d1 x1 (wB G d2 x2 [])) H) (hD : va_D A (wB G d1 x1 (wB G d2 x2 []))) (hS : va_S A s.heap H locs) (hl : lv_has ls 4 [(3, .int (nI t)), (2, .int 1), (0, .ref d1.1), (1, .ref d2.1)]), W p l e rmL_alike s m args below meth c H locs (42 + 2 * t) (252 + 12 * t) (MQ below (qG G (fun x : XT × XT => wB G d1 x.1 (wB G d2 x.2 [])) (fun r x => r = 1 ∧ JNV x.1 n tt pg hs k0 k1 ∧ JNV x.2 n tt pg hs k0 k1) A) args s 300 1800 A) (F0 m 59 ls []) := by
  obtain ⟨hx, hb, hml, hown, hts, hr, hlocks, hK, hA⟩ := id cx
  intro f
  induction f with
  | zero =>
    intro t ht H locs ls hP hD hS hl
    have et : t = 84 := by omega
    subst et
    refine lv_iload_n hx hb dL_alike_59 rfl (lv_at hl 0 rfl) ?_
    refine lv_bipush (v := 84) hx hb dL_alike_60 (by decide) ?_
    refine lv_icmp_ge (tgt := 104) hx hb dL_alike_62 (by decide) (fun c9 => ?_) (fun c9 => absurd (nI_le (Nat.le_refl 84) (by decide)) c9)
    refine lv_iload_n hx hb dL_alike_104 rfl (lv_at hl 1 rfl) ?_
    exact k_retG (u := (x1, x2)) cx (nz (Or.inr rfl)) ⟨rfl, J1, J2⟩ hP hS ⟨Nat.le_of_ble_eq_true rfl, Nat.le_of_ble_eq_true rfl⟩ dL_alike_105
  | succ f ih =>
    intro t ht H locs ls hP hD hS hl
    refine lv_iload_n hx hb dL_alike_59 rfl (lv_at hl 0 rfl) ?_
    refine lv_bipush (v := 84) hx hb dL_alike_60 (by decide) ?_
    refine lv_icmp_ge (tgt := 104) hx hb dL_alike_62 (by decide) (fun c9 => absurd c9 (nI_ge (a := t) (b := 84) (by omega) (by decide))) (fun c9 => ?_)
    refine lv_iload_n hx hb dL_alike_65 rfl (lv_at hl 1 rfl) ?_
    refine lv_if_eq (tgt := 104) hx hb dL_alike_66 (by decide) (fun c9 => absurd c9 (by decide)) (fun c9 => ?_)
    refine lv_aload_n hx hb dL_alike_69 rfl (lv_at hl 2 rfl) ?_
    refine lv_iload_n hx hb dL_alike_70 rfl (lv_at hl 0 rfl) ?_
    refine lv_iconst (v := 4) hx hb dL_alike_71 (by decide) ?_
    refine lv_idiv hx hb dL_alike_72 (by decide) ?_
    refine lv_iload_n hx hb dL_alike_73 rfl (lv_at hl 0 rfl) ?_
    refine lv_iconst (v := 4) hx hb dL_alike_74 (by decide) ?_
    refine lv_irem hx hb dL_alike_75 (by decide) ?_
    refine o_told hlt cx cl HQ1 J1 ((nI t) / 4) ((nI t) - (nI t) / 4 * 4) (r0 := (aQ 1 ((P_X4_told z0 pg (nI t / 4) (nI t - nI t / 4 * 4)).1, (P_X4_told z0 pg (nI t / 4) (nI t - nI t / 4 * 4)).2))) rfl hP hD hS gL_alike_L_tryTold ⟨Nat.le_of_ble_eq_true rfl, Nat.le_of_ble_eq_true rfl⟩ hl (Nat.le_of_ble_eq_true rfl) dL_alike_76 ⟨Nat.le_trans (m := 300) (by omega) (Nat.le_refl _), Nat.le_trans (m := 1800) (by omega) (Nat.le_refl _)⟩ (fun H locs hP hD hS => ?_)
    refine lv_aload_n hx hb dL_alike_79 rfl (lv_at hl 3 rfl) ?_
    refine lv_iload_n hx hb dL_alike_80 rfl (lv_at hl 0 rfl) ?_
    refine lv_iconst (v := 4) hx hb dL_alike_81 (by decide) ?_
    refine lv_idiv hx hb dL_alike_82 (by decide) ?_
    refine lv_iload_n hx hb dL_alike_83 rfl (lv_at hl 0 rfl) ?_
    refine lv_iconst (v := 4) hx hb dL_alike_84 (by decide) ?_
    refine lv_irem hx hb dL_alike_85 (by decide) ?_
    replace hP := kP_perm (wB_swap G d1 d2 x1 x2 []) hP
    replace hD := kD_perm (wB_swap G d1 d2 x1 x2 []) hD
    refine o_told hlt cx cl HQ2 J2 ((nI t) / 4) ((nI t) - (nI t) / 4 * 4) (r0 := (aQ 1 ((P_X4_told z0 pg (nI t / 4) (nI t - nI t / 4 * 4)).1, (P_X4_told z0 pg (nI t / 4) (nI t - nI t / 4 * 4)).2))) rfl hP hD hS gL_alike_L_tryTold ⟨Nat.le_of_ble_eq_true rfl, Nat.le_of_ble_eq_true rfl⟩ hl (Nat.le_of_ble_eq_true rfl) dL_alike_86 ⟨Nat.le_trans (m := 300) (by omega) (Nat.le_refl _), Nat.le_trans (m := 1800) (by omega) (Nat.le_refl _)⟩ (fun H locs hP hD hS => ?_)
    replace hP := kP_perm (wB_swap G d2 d1 x2 x1 []) hP
    replace hD := kD_perm (wB_swap G d2 d1 x2 x1 []) hD
    refine lv_icmp_ne (tgt := 96) hx hb dL_alike_89 (by decide) (fun c9 => absurd rfl c9) (fun c9 => ?_)
    refine lv_iconst (v := 1) hx hb dL_alike_92 (by decide) ?_
    refine lv_goto (tgt := 97) hx hb dL_alike_93 (by decide) ?_
    refine lv_istore_n (lv' := [(2, .int 1), (3, .int (nI t)), (0, .ref d1.1), (1, .ref d2.1)]) hx hb dL_alike_97 rfl hl (by decide) rfl (fun ls hl => ?_)
    refine lv_iinc (v := (nI (t + 1))) (lv' := [(3, .int (nI (t + 1))), (2, .int 1), (0, .ref d1.1), (1, .ref d2.1)]) hx hb dL_alike_98 hl (k := 1) rfl (nI_1 t) (by decide) rfl (fun ls hl => ?_)
    refine lv_goto (tgt := 59) hx hb dL_alike_101 (by decide) ?_
    refine W.eqcs (k := 42 + 2 * (t + 1)) (n := 252 + 12 * (t + 1)) (by omega) (by omega) ?_
    exact ih (t + 1) (by omega) hP hD hS (lv_sub hl [0, 1, 2, 3] rfl)
end WAL

set_option maxRecDepth 100000 in
set_option maxHeartbeats 16000000 in
theorem c_L_alike (l : Launch) (hlt : l.stackTraces = false) (G : gG) (b L : Nat) (xs : Nat → Int32) (d1 d2 : AD) (HQ1 : PQd d1) (HQ2 : PQd d2) (n : Int32) (tt pg : Pg) (hs : List Pg) (k0 k1 : Option Pg) : kG l G yL_alike wsL_alike rmL_alike [.ref d1.1, .ref d2.1] b L xs (fun x : XT × XT => wB G d1 x.1 (wB G d2 x.2 [])) (fun x => JNV x.1 n tt pg hs k0 k1 ∧ JNV x.2 n tt pg hs k0 k1) (fun r x => r = 1 ∧ JNV x.1 n tt pg hs k0 k1 ∧ JNV x.2 n tt pg hs k0 k1) 300 1800 := by
  refine k_bodyG (cc := cL_alike) (nL := 4) (ret := some .boolean) (by decide) rfl (Nat.le_of_ble_eq_true rfl) ?_
  rintro ⟨x1, x2⟩ hI
  intro p e s m args below meth c A cx cl H locs hP hD hS ls hl
  obtain ⟨hx, hb, hml, hown, hts, hr, hlocks, hK, hA⟩ := id cx
  have hl : lv_has ls 4 [(0, .ref d1.1), (1, .ref d2.1)] := hl
  have hP : va_P G.1 vwCl (wB G d1 x1 (wB G d2 x2 [])) H := hP
  have hD : va_D A (wB G d1 x1 (wB G d2 x2 [])) := hD
  obtain ⟨J1, J2⟩ : JNV x1 n tt pg hs k0 k1 ∧ JNV x2 n tt pg hs k0 k1 := hI
  refine lv_iconst (v := 1) hx hb dL_alike_0 (by decide) ?_
  refine lv_istore_n (lv' := [(2, .int 1), (0, .ref d1.1), (1, .ref d2.1)]) hx hb dL_alike_1 rfl hl (by decide) rfl (fun ls hl => ?_)
  refine lv_iconst (v := 0) hx hb dL_alike_2 (by decide) ?_
  refine lv_istore_n (lv' := [(3, .int 0), (2, .int 1), (0, .ref d1.1), (1, .ref d2.1)]) hx hb dL_alike_3 rfl hl (by decide) rfl (fun ls hl => ?_)
  refine lv_iload_n hx hb dL_alike_4 rfl (lv_at hl 0 rfl) ?_
  refine lv_bipush (v := 16) hx hb dL_alike_5 (by decide) ?_
  refine lv_icmp_ge (tgt := 57) hx hb dL_alike_7 (by decide) (fun c9 => absurd c9 (by decide)) (fun c9 => ?_)
  refine lv_iload_n hx hb dL_alike_10 rfl (lv_at hl 1 rfl) ?_
  refine lv_if_eq (tgt := 49) hx hb dL_alike_11 (by decide) (fun c9 => absurd c9 (by decide)) (fun c9 => ?_)
  refine lv_aload_n hx hb dL_alike_14 rfl (lv_at hl 2 rfl) ?_
  refine lv_iload_n hx hb dL_alike_15 rfl (lv_at hl 0 rfl) ?_
  refine o_about hlt cx cl HQ1 J1 0 (r0 := (pg 0)) (ab_lo (j := 0) (by decide) (by decide) (by decide)) hP hD hS gL_alike_L_tryAbout ⟨Nat.le_of_ble_eq_true rfl, Nat.le_of_ble_eq_true rfl⟩ hl (Nat.le_of_ble_eq_true rfl) dL_alike_16 ⟨Nat.le_of_ble_eq_true rfl, Nat.le_of_ble_eq_true rfl⟩ (fun H locs hP hD hS => ?_)
  refine lv_aload_n hx hb dL_alike_19 rfl (lv_at hl 3 rfl) ?_
  refine lv_iload_n hx hb dL_alike_20 rfl (lv_at hl 0 rfl) ?_
  replace hP := kP_perm (wB_swap G d1 d2 x1 x2 []) hP
  replace hD := kD_perm (wB_swap G d1 d2 x1 x2 []) hD
  refine o_about hlt cx cl HQ2 J2 0 (r0 := (pg 0)) (ab_lo (j := 0) (by decide) (by decide) (by decide)) hP hD hS gL_alike_L_tryAbout ⟨Nat.le_of_ble_eq_true rfl, Nat.le_of_ble_eq_true rfl⟩ hl (Nat.le_of_ble_eq_true rfl) dL_alike_21 ⟨Nat.le_of_ble_eq_true rfl, Nat.le_of_ble_eq_true rfl⟩ (fun H locs hP hD hS => ?_)
  replace hP := kP_perm (wB_swap G d2 d1 x2 x1 []) hP
  replace hD := kD_perm (wB_swap G d2 d1 x2 x1 []) hD
  refine lv_icmp_ne (tgt := 49) hx hb dL_alike_24 (by decide) (fun c9 => absurd rfl c9) (fun c9 => ?_)
  refine lv_iload_n hx hb dL_alike_27 rfl (lv_at hl 0 rfl) ?_
  refine lv_iconst (v := 4) hx hb dL_alike_28 (by decide) ?_
  refine lv_icmp_gt (tgt := 45) hx hb dL_alike_29 (by decide) (fun c9 => absurd c9 (by decide)) (fun c9 => ?_)
  refine lv_aload_n hx hb dL_alike_32 rfl (lv_at hl 2 rfl) ?_
  refine lv_iload_n hx hb dL_alike_33 rfl (lv_at hl 0 rfl) ?_
  refine o_bridge hlt cx cl HQ1 J1 0 (r0 := (P_X4_missing pg (P_X4_unknown pg) (pg 2))) br_0 hP hD hS gL_alike_L_tryBridge ⟨Nat.le_of_ble_eq_true rfl, Nat.le_of_ble_eq_true rfl⟩ hl (Nat.le_of_ble_eq_true rfl) dL_alike_34 ⟨Nat.le_of_ble_eq_true rfl, Nat.le_of_ble_eq_true rfl⟩ (fun H locs hP hD hS => ?_)
  refine lv_aload_n hx hb dL_alike_37 rfl (lv_at hl 3 rfl) ?_
  refine lv_iload_n hx hb dL_alike_38 rfl (lv_at hl 0 rfl) ?_
  replace hP := kP_perm (wB_swap G d1 d2 x1 x2 []) hP
  replace hD := kD_perm (wB_swap G d1 d2 x1 x2 []) hD
  refine o_bridge hlt cx cl HQ2 J2 0 (r0 := (P_X4_missing pg (P_X4_unknown pg) (pg 2))) br_0 hP hD hS gL_alike_L_tryBridge ⟨Nat.le_of_ble_eq_true rfl, Nat.le_of_ble_eq_true rfl⟩ hl (Nat.le_of_ble_eq_true rfl) dL_alike_39 ⟨Nat.le_of_ble_eq_true rfl, Nat.le_of_ble_eq_true rfl⟩ (fun H locs hP hD hS => ?_)
  replace hP := kP_perm (wB_swap G d2 d1 x2 x1 []) hP
  replace hD := kD_perm (wB_swap G d2 d1 x2 x1 []) hD
  refine lv_icmp_ne (tgt := 49) hx hb dL_alike_42 (by decide) (fun c9 => absurd rfl c9) (fun c9 => ?_)
  refine lv_iconst (v := 1) hx hb dL_alike_45 (by decide) ?_
  refine lv_goto (tgt := 50) hx hb dL_alike_46 (by decide) ?_
  refine lv_istore_n (lv' := [(2, .int 1), (3, .int 0), (0, .ref d1.1), (1, .ref d2.1)]) hx hb dL_alike_50 rfl hl (by decide) rfl (fun ls hl => ?_)
  refine lv_iinc (v := 1) (lv' := [(3, .int 1), (2, .int 1), (0, .ref d1.1), (1, .ref d2.1)]) hx hb dL_alike_51 hl (k := 1) rfl rfl (by decide) rfl (fun ls hl => ?_)
  refine lv_goto (tgt := 4) hx hb dL_alike_54 (by decide) ?_
  refine lv_iload_n hx hb dL_alike_4 rfl (lv_at hl 0 rfl) ?_
  refine lv_bipush (v := 16) hx hb dL_alike_5 (by decide) ?_
  refine lv_icmp_ge (tgt := 57) hx hb dL_alike_7 (by decide) (fun c9 => absurd c9 (by decide)) (fun c9 => ?_)
  refine lv_iload_n hx hb dL_alike_10 rfl (lv_at hl 1 rfl) ?_
  refine lv_if_eq (tgt := 49) hx hb dL_alike_11 (by decide) (fun c9 => absurd c9 (by decide)) (fun c9 => ?_)
  refine lv_aload_n hx hb dL_alike_14 rfl (lv_at hl 2 rfl) ?_
  refine lv_iload_n hx hb dL_alike_15 rfl (lv_at hl 0 rfl) ?_
  refine o_about hlt cx cl HQ1 J1 1 (r0 := (pg 1)) (ab_lo (j := 1) (by decide) (by decide) (by decide)) hP hD hS gL_alike_L_tryAbout ⟨Nat.le_of_ble_eq_true rfl, Nat.le_of_ble_eq_true rfl⟩ hl (Nat.le_of_ble_eq_true rfl) dL_alike_16 ⟨Nat.le_of_ble_eq_true rfl, Nat.le_of_ble_eq_true rfl⟩ (fun H locs hP hD hS => ?_)
  refine lv_aload_n hx hb dL_alike_19 rfl (lv_at hl 3 rfl) ?_
  refine lv_iload_n hx hb dL_alike_20 rfl (lv_at hl 0 rfl) ?_
  replace hP := kP_perm (wB_swap G d1 d2 x1 x2 []) hP
  replace hD := kD_perm (wB_swap G d1 d2 x1 x2 []) hD
  refine o_about hlt cx cl HQ2 J2 1 (r0 := (pg 1)) (ab_lo (j := 1) (by decide) (by decide) (by decide)) hP hD hS gL_alike_L_tryAbout ⟨Nat.le_of_ble_eq_true rfl, Nat.le_of_ble_eq_true rfl⟩ hl (Nat.le_of_ble_eq_true rfl) dL_alike_21 ⟨Nat.le_of_ble_eq_true rfl, Nat.le_of_ble_eq_true rfl⟩ (fun H locs hP hD hS => ?_)
  replace hP := kP_perm (wB_swap G d2 d1 x2 x1 []) hP
  replace hD := kD_perm (wB_swap G d2 d1 x2 x1 []) hD
  refine lv_icmp_ne (tgt := 49) hx hb dL_alike_24 (by decide) (fun c9 => absurd rfl c9) (fun c9 => ?_)
  refine lv_iload_n hx hb dL_alike_27 rfl (lv_at hl 0 rfl) ?_
  refine lv_iconst (v := 4) hx hb dL_alike_28 (by decide) ?_
  refine lv_icmp_gt (tgt := 45) hx hb dL_alike_29 (by decide) (fun c9 => absurd c9 (by decide)) (fun c9 => ?_)
  refine lv_aload_n hx hb dL_alike_32 rfl (lv_at hl 2 rfl) ?_
  refine lv_iload_n hx hb dL_alike_33 rfl (lv_at hl 0 rfl) ?_
  refine o_bridge hlt cx cl HQ1 J1 1 (r0 := (P_X4_divisor pg (P_X4_unknown pg) (pg 2))) br_1 hP hD hS gL_alike_L_tryBridge ⟨Nat.le_of_ble_eq_true rfl, Nat.le_of_ble_eq_true rfl⟩ hl (Nat.le_of_ble_eq_true rfl) dL_alike_34 ⟨Nat.le_of_ble_eq_true rfl, Nat.le_of_ble_eq_true rfl⟩ (fun H locs hP hD hS => ?_)
  refine lv_aload_n hx hb dL_alike_37 rfl (lv_at hl 3 rfl) ?_
  refine lv_iload_n hx hb dL_alike_38 rfl (lv_at hl 0 rfl) ?_
  replace hP := kP_perm (wB_swap G d1 d2 x1 x2 []) hP
  replace hD := kD_perm (wB_swap G d1 d2 x1 x2 []) hD
  refine o_bridge hlt cx cl HQ2 J2 1 (r0 := (P_X4_divisor pg (P_X4_unknown pg) (pg 2))) br_1 hP hD hS gL_alike_L_tryBridge ⟨Nat.le_of_ble_eq_true rfl, Nat.le_of_ble_eq_true rfl⟩ hl (Nat.le_of_ble_eq_true rfl) dL_alike_39 ⟨Nat.le_of_ble_eq_true rfl, Nat.le_of_ble_eq_true rfl⟩ (fun H locs hP hD hS => ?_)
  replace hP := kP_perm (wB_swap G d2 d1 x2 x1 []) hP
  replace hD := kD_perm (wB_swap G d2 d1 x2 x1 []) hD
  refine lv_icmp_ne (tgt := 49) hx hb dL_alike_42 (by decide) (fun c9 => absurd rfl c9) (fun c9 => ?_)
  refine lv_iconst (v := 1) hx hb dL_alike_45 (by decide) ?_
  refine lv_goto (tgt := 50) hx hb dL_alike_46 (by decide) ?_
  refine lv_istore_n (lv' := [(2, .int 1), (3, .int 1), (0, .ref d1.1), (1, .ref d2.1)]) hx hb dL_alike_50 rfl hl (by decide) rfl (fun ls hl => ?_)
  refine lv_iinc (v := 2) (lv' := [(3, .int 2), (2, .int 1), (0, .ref d1.1), (1, .ref d2.1)]) hx hb dL_alike_51 hl (k := 1) rfl rfl (by decide) rfl (fun ls hl => ?_)
  refine lv_goto (tgt := 4) hx hb dL_alike_54 (by decide) ?_
  refine lv_iload_n hx hb dL_alike_4 rfl (lv_at hl 0 rfl) ?_
  refine lv_bipush (v := 16) hx hb dL_alike_5 (by decide) ?_
  refine lv_icmp_ge (tgt := 57) hx hb dL_alike_7 (by decide) (fun c9 => absurd c9 (by decide)) (fun c9 => ?_)
  refine lv_iload_n hx hb dL_alike_10 rfl (lv_at hl 1 rfl) ?_
  refine lv_if_eq (tgt := 49) hx hb dL_alike_11 (by decide) (fun c9 => absurd c9 (by decide)) (fun c9 => ?_)
  refine lv_aload_n hx hb dL_alike_14 rfl (lv_at hl 2 rfl) ?_
  refine lv_iload_n hx hb dL_alike_15 rfl (lv_at hl 0 rfl) ?_
  refine o_about hlt cx cl HQ1 J1 2 (r0 := (pg 2)) (ab_lo (j := 2) (by decide) (by decide) (by decide)) hP hD hS gL_alike_L_tryAbout ⟨Nat.le_of_ble_eq_true rfl, Nat.le_of_ble_eq_true rfl⟩ hl (Nat.le_of_ble_eq_true rfl) dL_alike_16 ⟨Nat.le_of_ble_eq_true rfl, Nat.le_of_ble_eq_true rfl⟩ (fun H locs hP hD hS => ?_)
  refine lv_aload_n hx hb dL_alike_19 rfl (lv_at hl 3 rfl) ?_
  refine lv_iload_n hx hb dL_alike_20 rfl (lv_at hl 0 rfl) ?_
  replace hP := kP_perm (wB_swap G d1 d2 x1 x2 []) hP
  replace hD := kD_perm (wB_swap G d1 d2 x1 x2 []) hD
  refine o_about hlt cx cl HQ2 J2 2 (r0 := (pg 2)) (ab_lo (j := 2) (by decide) (by decide) (by decide)) hP hD hS gL_alike_L_tryAbout ⟨Nat.le_of_ble_eq_true rfl, Nat.le_of_ble_eq_true rfl⟩ hl (Nat.le_of_ble_eq_true rfl) dL_alike_21 ⟨Nat.le_of_ble_eq_true rfl, Nat.le_of_ble_eq_true rfl⟩ (fun H locs hP hD hS => ?_)
  replace hP := kP_perm (wB_swap G d2 d1 x2 x1 []) hP
  replace hD := kD_perm (wB_swap G d2 d1 x2 x1 []) hD
  refine lv_icmp_ne (tgt := 49) hx hb dL_alike_24 (by decide) (fun c9 => absurd rfl c9) (fun c9 => ?_)
  refine lv_iload_n hx hb dL_alike_27 rfl (lv_at hl 0 rfl) ?_
  refine lv_iconst (v := 4) hx hb dL_alike_28 (by decide) ?_
  refine lv_icmp_gt (tgt := 45) hx hb dL_alike_29 (by decide) (fun c9 => absurd c9 (by decide)) (fun c9 => ?_)
  refine lv_aload_n hx hb dL_alike_32 rfl (lv_at hl 2 rfl) ?_
  refine lv_iload_n hx hb dL_alike_33 rfl (lv_at hl 0 rfl) ?_
  refine o_bridge hlt cx cl HQ1 J1 2 (r0 := (P_X4_trueOf pg (pg 2) (pg 4))) br_2 hP hD hS gL_alike_L_tryBridge ⟨Nat.le_of_ble_eq_true rfl, Nat.le_of_ble_eq_true rfl⟩ hl (Nat.le_of_ble_eq_true rfl) dL_alike_34 ⟨Nat.le_of_ble_eq_true rfl, Nat.le_of_ble_eq_true rfl⟩ (fun H locs hP hD hS => ?_)
  refine lv_aload_n hx hb dL_alike_37 rfl (lv_at hl 3 rfl) ?_
  refine lv_iload_n hx hb dL_alike_38 rfl (lv_at hl 0 rfl) ?_
  replace hP := kP_perm (wB_swap G d1 d2 x1 x2 []) hP
  replace hD := kD_perm (wB_swap G d1 d2 x1 x2 []) hD
  refine o_bridge hlt cx cl HQ2 J2 2 (r0 := (P_X4_trueOf pg (pg 2) (pg 4))) br_2 hP hD hS gL_alike_L_tryBridge ⟨Nat.le_of_ble_eq_true rfl, Nat.le_of_ble_eq_true rfl⟩ hl (Nat.le_of_ble_eq_true rfl) dL_alike_39 ⟨Nat.le_of_ble_eq_true rfl, Nat.le_of_ble_eq_true rfl⟩ (fun H locs hP hD hS => ?_)
  replace hP := kP_perm (wB_swap G d2 d1 x2 x1 []) hP
  replace hD := kD_perm (wB_swap G d2 d1 x2 x1 []) hD
  refine lv_icmp_ne (tgt := 49) hx hb dL_alike_42 (by decide) (fun c9 => absurd rfl c9) (fun c9 => ?_)
  refine lv_iconst (v := 1) hx hb dL_alike_45 (by decide) ?_
  refine lv_goto (tgt := 50) hx hb dL_alike_46 (by decide) ?_
  refine lv_istore_n (lv' := [(2, .int 1), (3, .int 2), (0, .ref d1.1), (1, .ref d2.1)]) hx hb dL_alike_50 rfl hl (by decide) rfl (fun ls hl => ?_)
  refine lv_iinc (v := 3) (lv' := [(3, .int 3), (2, .int 1), (0, .ref d1.1), (1, .ref d2.1)]) hx hb dL_alike_51 hl (k := 1) rfl rfl (by decide) rfl (fun ls hl => ?_)
  refine lv_goto (tgt := 4) hx hb dL_alike_54 (by decide) ?_
  refine lv_iload_n hx hb dL_alike_4 rfl (lv_at hl 0 rfl) ?_
  refine lv_bipush (v := 16) hx hb dL_alike_5 (by decide) ?_
  refine lv_icmp_ge (tgt := 57) hx hb dL_alike_7 (by decide) (fun c9 => absurd c9 (by decide)) (fun c9 => ?_)
  refine lv_iload_n hx hb dL_alike_10 rfl (lv_at hl 1 rfl) ?_
  refine lv_if_eq (tgt := 49) hx hb dL_alike_11 (by decide) (fun c9 => absurd c9 (by decide)) (fun c9 => ?_)
  refine lv_aload_n hx hb dL_alike_14 rfl (lv_at hl 2 rfl) ?_
  refine lv_iload_n hx hb dL_alike_15 rfl (lv_at hl 0 rfl) ?_
  refine o_about hlt cx cl HQ1 J1 3 (r0 := (pg 3)) (ab_lo (j := 3) (by decide) (by decide) (by decide)) hP hD hS gL_alike_L_tryAbout ⟨Nat.le_of_ble_eq_true rfl, Nat.le_of_ble_eq_true rfl⟩ hl (Nat.le_of_ble_eq_true rfl) dL_alike_16 ⟨Nat.le_of_ble_eq_true rfl, Nat.le_of_ble_eq_true rfl⟩ (fun H locs hP hD hS => ?_)
  refine lv_aload_n hx hb dL_alike_19 rfl (lv_at hl 3 rfl) ?_
  refine lv_iload_n hx hb dL_alike_20 rfl (lv_at hl 0 rfl) ?_
  replace hP := kP_perm (wB_swap G d1 d2 x1 x2 []) hP
  replace hD := kD_perm (wB_swap G d1 d2 x1 x2 []) hD
  refine o_about hlt cx cl HQ2 J2 3 (r0 := (pg 3)) (ab_lo (j := 3) (by decide) (by decide) (by decide)) hP hD hS gL_alike_L_tryAbout ⟨Nat.le_of_ble_eq_true rfl, Nat.le_of_ble_eq_true rfl⟩ hl (Nat.le_of_ble_eq_true rfl) dL_alike_21 ⟨Nat.le_of_ble_eq_true rfl, Nat.le_of_ble_eq_true rfl⟩ (fun H locs hP hD hS => ?_)
  replace hP := kP_perm (wB_swap G d2 d1 x2 x1 []) hP
  replace hD := kD_perm (wB_swap G d2 d1 x2 x1 []) hD
  refine lv_icmp_ne (tgt := 49) hx hb dL_alike_24 (by decide) (fun c9 => absurd rfl c9) (fun c9 => ?_)
  refine lv_iload_n hx hb dL_alike_27 rfl (lv_at hl 0 rfl) ?_
  refine lv_iconst (v := 4) hx hb dL_alike_28 (by decide) ?_
  refine lv_icmp_gt (tgt := 45) hx hb dL_alike_29 (by decide) (fun c9 => absurd c9 (by decide)) (fun c9 => ?_)
  refine lv_aload_n hx hb dL_alike_32 rfl (lv_at hl 2 rfl) ?_
  refine lv_iload_n hx hb dL_alike_33 rfl (lv_at hl 0 rfl) ?_
  refine o_bridge hlt cx cl HQ1 J1 3 (r0 := (P_X4_rawOf pg 0 (pg 4))) br_3 hP hD hS gL_alike_L_tryBridge ⟨Nat.le_of_ble_eq_true rfl, Nat.le_of_ble_eq_true rfl⟩ hl (Nat.le_of_ble_eq_true rfl) dL_alike_34 ⟨Nat.le_of_ble_eq_true rfl, Nat.le_of_ble_eq_true rfl⟩ (fun H locs hP hD hS => ?_)
  refine lv_aload_n hx hb dL_alike_37 rfl (lv_at hl 3 rfl) ?_
  refine lv_iload_n hx hb dL_alike_38 rfl (lv_at hl 0 rfl) ?_
  replace hP := kP_perm (wB_swap G d1 d2 x1 x2 []) hP
  replace hD := kD_perm (wB_swap G d1 d2 x1 x2 []) hD
  refine o_bridge hlt cx cl HQ2 J2 3 (r0 := (P_X4_rawOf pg 0 (pg 4))) br_3 hP hD hS gL_alike_L_tryBridge ⟨Nat.le_of_ble_eq_true rfl, Nat.le_of_ble_eq_true rfl⟩ hl (Nat.le_of_ble_eq_true rfl) dL_alike_39 ⟨Nat.le_of_ble_eq_true rfl, Nat.le_of_ble_eq_true rfl⟩ (fun H locs hP hD hS => ?_)
  replace hP := kP_perm (wB_swap G d2 d1 x2 x1 []) hP
  replace hD := kD_perm (wB_swap G d2 d1 x2 x1 []) hD
  refine lv_icmp_ne (tgt := 49) hx hb dL_alike_42 (by decide) (fun c9 => absurd rfl c9) (fun c9 => ?_)
  refine lv_iconst (v := 1) hx hb dL_alike_45 (by decide) ?_
  refine lv_goto (tgt := 50) hx hb dL_alike_46 (by decide) ?_
  refine lv_istore_n (lv' := [(2, .int 1), (3, .int 3), (0, .ref d1.1), (1, .ref d2.1)]) hx hb dL_alike_50 rfl hl (by decide) rfl (fun ls hl => ?_)
  refine lv_iinc (v := 4) (lv' := [(3, .int 4), (2, .int 1), (0, .ref d1.1), (1, .ref d2.1)]) hx hb dL_alike_51 hl (k := 1) rfl rfl (by decide) rfl (fun ls hl => ?_)
  refine lv_goto (tgt := 4) hx hb dL_alike_54 (by decide) ?_
  refine lv_iload_n hx hb dL_alike_4 rfl (lv_at hl 0 rfl) ?_
  refine lv_bipush (v := 16) hx hb dL_alike_5 (by decide) ?_
  refine lv_icmp_ge (tgt := 57) hx hb dL_alike_7 (by decide) (fun c9 => absurd c9 (by decide)) (fun c9 => ?_)
  refine lv_iload_n hx hb dL_alike_10 rfl (lv_at hl 1 rfl) ?_
  refine lv_if_eq (tgt := 49) hx hb dL_alike_11 (by decide) (fun c9 => absurd c9 (by decide)) (fun c9 => ?_)
  refine lv_aload_n hx hb dL_alike_14 rfl (lv_at hl 2 rfl) ?_
  refine lv_iload_n hx hb dL_alike_15 rfl (lv_at hl 0 rfl) ?_
  refine o_about hlt cx cl HQ1 J1 4 (r0 := (pg 4)) (ab_lo (j := 4) (by decide) (by decide) (by decide)) hP hD hS gL_alike_L_tryAbout ⟨Nat.le_of_ble_eq_true rfl, Nat.le_of_ble_eq_true rfl⟩ hl (Nat.le_of_ble_eq_true rfl) dL_alike_16 ⟨Nat.le_of_ble_eq_true rfl, Nat.le_of_ble_eq_true rfl⟩ (fun H locs hP hD hS => ?_)
  refine lv_aload_n hx hb dL_alike_19 rfl (lv_at hl 3 rfl) ?_
  refine lv_iload_n hx hb dL_alike_20 rfl (lv_at hl 0 rfl) ?_
  replace hP := kP_perm (wB_swap G d1 d2 x1 x2 []) hP
  replace hD := kD_perm (wB_swap G d1 d2 x1 x2 []) hD
  refine o_about hlt cx cl HQ2 J2 4 (r0 := (pg 4)) (ab_lo (j := 4) (by decide) (by decide) (by decide)) hP hD hS gL_alike_L_tryAbout ⟨Nat.le_of_ble_eq_true rfl, Nat.le_of_ble_eq_true rfl⟩ hl (Nat.le_of_ble_eq_true rfl) dL_alike_21 ⟨Nat.le_of_ble_eq_true rfl, Nat.le_of_ble_eq_true rfl⟩ (fun H locs hP hD hS => ?_)
  replace hP := kP_perm (wB_swap G d2 d1 x2 x1 []) hP
  replace hD := kD_perm (wB_swap G d2 d1 x2 x1 []) hD
  refine lv_icmp_ne (tgt := 49) hx hb dL_alike_24 (by decide) (fun c9 => absurd rfl c9) (fun c9 => ?_)
  refine lv_iload_n hx hb dL_alike_27 rfl (lv_at hl 0 rfl) ?_
  refine lv_iconst (v := 4) hx hb dL_alike_28 (by decide) ?_
  refine lv_icmp_gt (tgt := 45) hx hb dL_alike_29 (by decide) (fun c9 => absurd c9 (by decide)) (fun c9 => ?_)
  refine lv_aload_n hx hb dL_alike_32 rfl (lv_at hl 2 rfl) ?_
  refine lv_iload_n hx hb dL_alike_33 rfl (lv_at hl 0 rfl) ?_
  refine o_bridge hlt cx cl HQ1 J1 4 (r0 := (P_X4_rawOf pg 1 (pg 4))) br_4 hP hD hS gL_alike_L_tryBridge ⟨Nat.le_of_ble_eq_true rfl, Nat.le_of_ble_eq_true rfl⟩ hl (Nat.le_of_ble_eq_true rfl) dL_alike_34 ⟨Nat.le_of_ble_eq_true rfl, Nat.le_of_ble_eq_true rfl⟩ (fun H locs hP hD hS => ?_)
  refine lv_aload_n hx hb dL_alike_37 rfl (lv_at hl 3 rfl) ?_
  refine lv_iload_n hx hb dL_alike_38 rfl (lv_at hl 0 rfl) ?_
  replace hP := kP_perm (wB_swap G d1 d2 x1 x2 []) hP
  replace hD := kD_perm (wB_swap G d1 d2 x1 x2 []) hD
  refine o_bridge hlt cx cl HQ2 J2 4 (r0 := (P_X4_rawOf pg 1 (pg 4))) br_4 hP hD hS gL_alike_L_tryBridge ⟨Nat.le_of_ble_eq_true rfl, Nat.le_of_ble_eq_true rfl⟩ hl (Nat.le_of_ble_eq_true rfl) dL_alike_39 ⟨Nat.le_of_ble_eq_true rfl, Nat.le_of_ble_eq_true rfl⟩ (fun H locs hP hD hS => ?_)
  replace hP := kP_perm (wB_swap G d2 d1 x2 x1 []) hP
  replace hD := kD_perm (wB_swap G d2 d1 x2 x1 []) hD
  refine lv_icmp_ne (tgt := 49) hx hb dL_alike_42 (by decide) (fun c9 => absurd rfl c9) (fun c9 => ?_)
  refine lv_iconst (v := 1) hx hb dL_alike_45 (by decide) ?_
  refine lv_goto (tgt := 50) hx hb dL_alike_46 (by decide) ?_
  refine lv_istore_n (lv' := [(2, .int 1), (3, .int 4), (0, .ref d1.1), (1, .ref d2.1)]) hx hb dL_alike_50 rfl hl (by decide) rfl (fun ls hl => ?_)
  refine lv_iinc (v := 5) (lv' := [(3, .int 5), (2, .int 1), (0, .ref d1.1), (1, .ref d2.1)]) hx hb dL_alike_51 hl (k := 1) rfl rfl (by decide) rfl (fun ls hl => ?_)
  refine lv_goto (tgt := 4) hx hb dL_alike_54 (by decide) ?_
  refine lv_iload_n hx hb dL_alike_4 rfl (lv_at hl 0 rfl) ?_
  refine lv_bipush (v := 16) hx hb dL_alike_5 (by decide) ?_
  refine lv_icmp_ge (tgt := 57) hx hb dL_alike_7 (by decide) (fun c9 => absurd c9 (by decide)) (fun c9 => ?_)
  refine lv_iload_n hx hb dL_alike_10 rfl (lv_at hl 1 rfl) ?_
  refine lv_if_eq (tgt := 49) hx hb dL_alike_11 (by decide) (fun c9 => absurd c9 (by decide)) (fun c9 => ?_)
  refine lv_aload_n hx hb dL_alike_14 rfl (lv_at hl 2 rfl) ?_
  refine lv_iload_n hx hb dL_alike_15 rfl (lv_at hl 0 rfl) ?_
  refine o_about hlt cx cl HQ1 J1 5 (r0 := (pg 5)) (ab_lo (j := 5) (by decide) (by decide) (by decide)) hP hD hS gL_alike_L_tryAbout ⟨Nat.le_of_ble_eq_true rfl, Nat.le_of_ble_eq_true rfl⟩ hl (Nat.le_of_ble_eq_true rfl) dL_alike_16 ⟨Nat.le_of_ble_eq_true rfl, Nat.le_of_ble_eq_true rfl⟩ (fun H locs hP hD hS => ?_)
  refine lv_aload_n hx hb dL_alike_19 rfl (lv_at hl 3 rfl) ?_
  refine lv_iload_n hx hb dL_alike_20 rfl (lv_at hl 0 rfl) ?_
  replace hP := kP_perm (wB_swap G d1 d2 x1 x2 []) hP
  replace hD := kD_perm (wB_swap G d1 d2 x1 x2 []) hD
  refine o_about hlt cx cl HQ2 J2 5 (r0 := (pg 5)) (ab_lo (j := 5) (by decide) (by decide) (by decide)) hP hD hS gL_alike_L_tryAbout ⟨Nat.le_of_ble_eq_true rfl, Nat.le_of_ble_eq_true rfl⟩ hl (Nat.le_of_ble_eq_true rfl) dL_alike_21 ⟨Nat.le_of_ble_eq_true rfl, Nat.le_of_ble_eq_true rfl⟩ (fun H locs hP hD hS => ?_)
  replace hP := kP_perm (wB_swap G d2 d1 x2 x1 []) hP
  replace hD := kD_perm (wB_swap G d2 d1 x2 x1 []) hD
  refine lv_icmp_ne (tgt := 49) hx hb dL_alike_24 (by decide) (fun c9 => absurd rfl c9) (fun c9 => ?_)
  refine lv_iload_n hx hb dL_alike_27 rfl (lv_at hl 0 rfl) ?_
  refine lv_iconst (v := 4) hx hb dL_alike_28 (by decide) ?_
  refine lv_icmp_gt (tgt := 45) hx hb dL_alike_29 (by decide) (fun c9 => ?_) (fun c9 => absurd (by decide) c9)
  refine lv_iconst (v := 1) hx hb dL_alike_45 (by decide) ?_
  refine lv_goto (tgt := 50) hx hb dL_alike_46 (by decide) ?_
  refine lv_istore_n (lv' := [(2, .int 1), (3, .int 5), (0, .ref d1.1), (1, .ref d2.1)]) hx hb dL_alike_50 rfl hl (by decide) rfl (fun ls hl => ?_)
  refine lv_iinc (v := 6) (lv' := [(3, .int 6), (2, .int 1), (0, .ref d1.1), (1, .ref d2.1)]) hx hb dL_alike_51 hl (k := 1) rfl rfl (by decide) rfl (fun ls hl => ?_)
  refine lv_goto (tgt := 4) hx hb dL_alike_54 (by decide) ?_
  refine lv_iload_n hx hb dL_alike_4 rfl (lv_at hl 0 rfl) ?_
  refine lv_bipush (v := 16) hx hb dL_alike_5 (by decide) ?_
  refine lv_icmp_ge (tgt := 57) hx hb dL_alike_7 (by decide) (fun c9 => absurd c9 (by decide)) (fun c9 => ?_)
  refine lv_iload_n hx hb dL_alike_10 rfl (lv_at hl 1 rfl) ?_
  refine lv_if_eq (tgt := 49) hx hb dL_alike_11 (by decide) (fun c9 => absurd c9 (by decide)) (fun c9 => ?_)
  refine lv_aload_n hx hb dL_alike_14 rfl (lv_at hl 2 rfl) ?_
  refine lv_iload_n hx hb dL_alike_15 rfl (lv_at hl 0 rfl) ?_
  refine o_about hlt cx cl HQ1 J1 6 (r0 := (pg 6)) (ab_lo (j := 6) (by decide) (by decide) (by decide)) hP hD hS gL_alike_L_tryAbout ⟨Nat.le_of_ble_eq_true rfl, Nat.le_of_ble_eq_true rfl⟩ hl (Nat.le_of_ble_eq_true rfl) dL_alike_16 ⟨Nat.le_of_ble_eq_true rfl, Nat.le_of_ble_eq_true rfl⟩ (fun H locs hP hD hS => ?_)
  refine lv_aload_n hx hb dL_alike_19 rfl (lv_at hl 3 rfl) ?_
  refine lv_iload_n hx hb dL_alike_20 rfl (lv_at hl 0 rfl) ?_
  replace hP := kP_perm (wB_swap G d1 d2 x1 x2 []) hP
  replace hD := kD_perm (wB_swap G d1 d2 x1 x2 []) hD
  refine o_about hlt cx cl HQ2 J2 6 (r0 := (pg 6)) (ab_lo (j := 6) (by decide) (by decide) (by decide)) hP hD hS gL_alike_L_tryAbout ⟨Nat.le_of_ble_eq_true rfl, Nat.le_of_ble_eq_true rfl⟩ hl (Nat.le_of_ble_eq_true rfl) dL_alike_21 ⟨Nat.le_of_ble_eq_true rfl, Nat.le_of_ble_eq_true rfl⟩ (fun H locs hP hD hS => ?_)
  replace hP := kP_perm (wB_swap G d2 d1 x2 x1 []) hP
  replace hD := kD_perm (wB_swap G d2 d1 x2 x1 []) hD
  refine lv_icmp_ne (tgt := 49) hx hb dL_alike_24 (by decide) (fun c9 => absurd rfl c9) (fun c9 => ?_)
  refine lv_iload_n hx hb dL_alike_27 rfl (lv_at hl 0 rfl) ?_
  refine lv_iconst (v := 4) hx hb dL_alike_28 (by decide) ?_
  refine lv_icmp_gt (tgt := 45) hx hb dL_alike_29 (by decide) (fun c9 => ?_) (fun c9 => absurd (by decide) c9)
  refine lv_iconst (v := 1) hx hb dL_alike_45 (by decide) ?_
  refine lv_goto (tgt := 50) hx hb dL_alike_46 (by decide) ?_
  refine lv_istore_n (lv' := [(2, .int 1), (3, .int 6), (0, .ref d1.1), (1, .ref d2.1)]) hx hb dL_alike_50 rfl hl (by decide) rfl (fun ls hl => ?_)
  refine lv_iinc (v := 7) (lv' := [(3, .int 7), (2, .int 1), (0, .ref d1.1), (1, .ref d2.1)]) hx hb dL_alike_51 hl (k := 1) rfl rfl (by decide) rfl (fun ls hl => ?_)
  refine lv_goto (tgt := 4) hx hb dL_alike_54 (by decide) ?_
  refine lv_iload_n hx hb dL_alike_4 rfl (lv_at hl 0 rfl) ?_
  refine lv_bipush (v := 16) hx hb dL_alike_5 (by decide) ?_
  refine lv_icmp_ge (tgt := 57) hx hb dL_alike_7 (by decide) (fun c9 => absurd c9 (by decide)) (fun c9 => ?_)
  refine lv_iload_n hx hb dL_alike_10 rfl (lv_at hl 1 rfl) ?_
  refine lv_if_eq (tgt := 49) hx hb dL_alike_11 (by decide) (fun c9 => absurd c9 (by decide)) (fun c9 => ?_)
  refine lv_aload_n hx hb dL_alike_14 rfl (lv_at hl 2 rfl) ?_
  refine lv_iload_n hx hb dL_alike_15 rfl (lv_at hl 0 rfl) ?_
  refine o_about hlt cx cl HQ1 J1 7 (r0 := (pg 7)) (ab_lo (j := 7) (by decide) (by decide) (by decide)) hP hD hS gL_alike_L_tryAbout ⟨Nat.le_of_ble_eq_true rfl, Nat.le_of_ble_eq_true rfl⟩ hl (Nat.le_of_ble_eq_true rfl) dL_alike_16 ⟨Nat.le_of_ble_eq_true rfl, Nat.le_of_ble_eq_true rfl⟩ (fun H locs hP hD hS => ?_)
  refine lv_aload_n hx hb dL_alike_19 rfl (lv_at hl 3 rfl) ?_
  refine lv_iload_n hx hb dL_alike_20 rfl (lv_at hl 0 rfl) ?_
  replace hP := kP_perm (wB_swap G d1 d2 x1 x2 []) hP
  replace hD := kD_perm (wB_swap G d1 d2 x1 x2 []) hD
  refine o_about hlt cx cl HQ2 J2 7 (r0 := (pg 7)) (ab_lo (j := 7) (by decide) (by decide) (by decide)) hP hD hS gL_alike_L_tryAbout ⟨Nat.le_of_ble_eq_true rfl, Nat.le_of_ble_eq_true rfl⟩ hl (Nat.le_of_ble_eq_true rfl) dL_alike_21 ⟨Nat.le_of_ble_eq_true rfl, Nat.le_of_ble_eq_true rfl⟩ (fun H locs hP hD hS => ?_)
  replace hP := kP_perm (wB_swap G d2 d1 x2 x1 []) hP
  replace hD := kD_perm (wB_swap G d2 d1 x2 x1 []) hD
  refine lv_icmp_ne (tgt := 49) hx hb dL_alike_24 (by decide) (fun c9 => absurd rfl c9) (fun c9 => ?_)
  refine lv_iload_n hx hb dL_alike_27 rfl (lv_at hl 0 rfl) ?_
  refine lv_iconst (v := 4) hx hb dL_alike_28 (by decide) ?_
  refine lv_icmp_gt (tgt := 45) hx hb dL_alike_29 (by decide) (fun c9 => ?_) (fun c9 => absurd (by decide) c9)
  refine lv_iconst (v := 1) hx hb dL_alike_45 (by decide) ?_
  refine lv_goto (tgt := 50) hx hb dL_alike_46 (by decide) ?_
  refine lv_istore_n (lv' := [(2, .int 1), (3, .int 7), (0, .ref d1.1), (1, .ref d2.1)]) hx hb dL_alike_50 rfl hl (by decide) rfl (fun ls hl => ?_)
  refine lv_iinc (v := 8) (lv' := [(3, .int 8), (2, .int 1), (0, .ref d1.1), (1, .ref d2.1)]) hx hb dL_alike_51 hl (k := 1) rfl rfl (by decide) rfl (fun ls hl => ?_)
  refine lv_goto (tgt := 4) hx hb dL_alike_54 (by decide) ?_
  refine lv_iload_n hx hb dL_alike_4 rfl (lv_at hl 0 rfl) ?_
  refine lv_bipush (v := 16) hx hb dL_alike_5 (by decide) ?_
  refine lv_icmp_ge (tgt := 57) hx hb dL_alike_7 (by decide) (fun c9 => absurd c9 (by decide)) (fun c9 => ?_)
  refine lv_iload_n hx hb dL_alike_10 rfl (lv_at hl 1 rfl) ?_
  refine lv_if_eq (tgt := 49) hx hb dL_alike_11 (by decide) (fun c9 => absurd c9 (by decide)) (fun c9 => ?_)
  refine lv_aload_n hx hb dL_alike_14 rfl (lv_at hl 2 rfl) ?_
  refine lv_iload_n hx hb dL_alike_15 rfl (lv_at hl 0 rfl) ?_
  refine o_about hlt cx cl HQ1 J1 8 (r0 := (P_X4_offsetOf pg)) ab_8 hP hD hS gL_alike_L_tryAbout ⟨Nat.le_of_ble_eq_true rfl, Nat.le_of_ble_eq_true rfl⟩ hl (Nat.le_of_ble_eq_true rfl) dL_alike_16 ⟨Nat.le_of_ble_eq_true rfl, Nat.le_of_ble_eq_true rfl⟩ (fun H locs hP hD hS => ?_)
  refine lv_aload_n hx hb dL_alike_19 rfl (lv_at hl 3 rfl) ?_
  refine lv_iload_n hx hb dL_alike_20 rfl (lv_at hl 0 rfl) ?_
  replace hP := kP_perm (wB_swap G d1 d2 x1 x2 []) hP
  replace hD := kD_perm (wB_swap G d1 d2 x1 x2 []) hD
  refine o_about hlt cx cl HQ2 J2 8 (r0 := (P_X4_offsetOf pg)) ab_8 hP hD hS gL_alike_L_tryAbout ⟨Nat.le_of_ble_eq_true rfl, Nat.le_of_ble_eq_true rfl⟩ hl (Nat.le_of_ble_eq_true rfl) dL_alike_21 ⟨Nat.le_of_ble_eq_true rfl, Nat.le_of_ble_eq_true rfl⟩ (fun H locs hP hD hS => ?_)
  replace hP := kP_perm (wB_swap G d2 d1 x2 x1 []) hP
  replace hD := kD_perm (wB_swap G d2 d1 x2 x1 []) hD
  refine lv_icmp_ne (tgt := 49) hx hb dL_alike_24 (by decide) (fun c9 => absurd rfl c9) (fun c9 => ?_)
  refine lv_iload_n hx hb dL_alike_27 rfl (lv_at hl 0 rfl) ?_
  refine lv_iconst (v := 4) hx hb dL_alike_28 (by decide) ?_
  refine lv_icmp_gt (tgt := 45) hx hb dL_alike_29 (by decide) (fun c9 => ?_) (fun c9 => absurd (by decide) c9)
  refine lv_iconst (v := 1) hx hb dL_alike_45 (by decide) ?_
  refine lv_goto (tgt := 50) hx hb dL_alike_46 (by decide) ?_
  refine lv_istore_n (lv' := [(2, .int 1), (3, .int 8), (0, .ref d1.1), (1, .ref d2.1)]) hx hb dL_alike_50 rfl hl (by decide) rfl (fun ls hl => ?_)
  refine lv_iinc (v := 9) (lv' := [(3, .int 9), (2, .int 1), (0, .ref d1.1), (1, .ref d2.1)]) hx hb dL_alike_51 hl (k := 1) rfl rfl (by decide) rfl (fun ls hl => ?_)
  refine lv_goto (tgt := 4) hx hb dL_alike_54 (by decide) ?_
  refine lv_iload_n hx hb dL_alike_4 rfl (lv_at hl 0 rfl) ?_
  refine lv_bipush (v := 16) hx hb dL_alike_5 (by decide) ?_
  refine lv_icmp_ge (tgt := 57) hx hb dL_alike_7 (by decide) (fun c9 => absurd c9 (by decide)) (fun c9 => ?_)
  refine lv_iload_n hx hb dL_alike_10 rfl (lv_at hl 1 rfl) ?_
  refine lv_if_eq (tgt := 49) hx hb dL_alike_11 (by decide) (fun c9 => absurd c9 (by decide)) (fun c9 => ?_)
  refine lv_aload_n hx hb dL_alike_14 rfl (lv_at hl 2 rfl) ?_
  refine lv_iload_n hx hb dL_alike_15 rfl (lv_at hl 0 rfl) ?_
  refine o_about hlt cx cl HQ1 J1 9 (r0 := (pg 8)) (ab_hi (j := 8) (by decide) (by decide) (by decide) (by decide)) hP hD hS gL_alike_L_tryAbout ⟨Nat.le_of_ble_eq_true rfl, Nat.le_of_ble_eq_true rfl⟩ hl (Nat.le_of_ble_eq_true rfl) dL_alike_16 ⟨Nat.le_of_ble_eq_true rfl, Nat.le_of_ble_eq_true rfl⟩ (fun H locs hP hD hS => ?_)
  refine lv_aload_n hx hb dL_alike_19 rfl (lv_at hl 3 rfl) ?_
  refine lv_iload_n hx hb dL_alike_20 rfl (lv_at hl 0 rfl) ?_
  replace hP := kP_perm (wB_swap G d1 d2 x1 x2 []) hP
  replace hD := kD_perm (wB_swap G d1 d2 x1 x2 []) hD
  refine o_about hlt cx cl HQ2 J2 9 (r0 := (pg 8)) (ab_hi (j := 8) (by decide) (by decide) (by decide) (by decide)) hP hD hS gL_alike_L_tryAbout ⟨Nat.le_of_ble_eq_true rfl, Nat.le_of_ble_eq_true rfl⟩ hl (Nat.le_of_ble_eq_true rfl) dL_alike_21 ⟨Nat.le_of_ble_eq_true rfl, Nat.le_of_ble_eq_true rfl⟩ (fun H locs hP hD hS => ?_)
  replace hP := kP_perm (wB_swap G d2 d1 x2 x1 []) hP
  replace hD := kD_perm (wB_swap G d2 d1 x2 x1 []) hD
  refine lv_icmp_ne (tgt := 49) hx hb dL_alike_24 (by decide) (fun c9 => absurd rfl c9) (fun c9 => ?_)
  refine lv_iload_n hx hb dL_alike_27 rfl (lv_at hl 0 rfl) ?_
  refine lv_iconst (v := 4) hx hb dL_alike_28 (by decide) ?_
  refine lv_icmp_gt (tgt := 45) hx hb dL_alike_29 (by decide) (fun c9 => ?_) (fun c9 => absurd (by decide) c9)
  refine lv_iconst (v := 1) hx hb dL_alike_45 (by decide) ?_
  refine lv_goto (tgt := 50) hx hb dL_alike_46 (by decide) ?_
  refine lv_istore_n (lv' := [(2, .int 1), (3, .int 9), (0, .ref d1.1), (1, .ref d2.1)]) hx hb dL_alike_50 rfl hl (by decide) rfl (fun ls hl => ?_)
  refine lv_iinc (v := 10) (lv' := [(3, .int 10), (2, .int 1), (0, .ref d1.1), (1, .ref d2.1)]) hx hb dL_alike_51 hl (k := 1) rfl rfl (by decide) rfl (fun ls hl => ?_)
  refine lv_goto (tgt := 4) hx hb dL_alike_54 (by decide) ?_
  refine lv_iload_n hx hb dL_alike_4 rfl (lv_at hl 0 rfl) ?_
  refine lv_bipush (v := 16) hx hb dL_alike_5 (by decide) ?_
  refine lv_icmp_ge (tgt := 57) hx hb dL_alike_7 (by decide) (fun c9 => absurd c9 (by decide)) (fun c9 => ?_)
  refine lv_iload_n hx hb dL_alike_10 rfl (lv_at hl 1 rfl) ?_
  refine lv_if_eq (tgt := 49) hx hb dL_alike_11 (by decide) (fun c9 => absurd c9 (by decide)) (fun c9 => ?_)
  refine lv_aload_n hx hb dL_alike_14 rfl (lv_at hl 2 rfl) ?_
  refine lv_iload_n hx hb dL_alike_15 rfl (lv_at hl 0 rfl) ?_
  refine o_about hlt cx cl HQ1 J1 10 (r0 := (pg 9)) (ab_hi (j := 9) (by decide) (by decide) (by decide) (by decide)) hP hD hS gL_alike_L_tryAbout ⟨Nat.le_of_ble_eq_true rfl, Nat.le_of_ble_eq_true rfl⟩ hl (Nat.le_of_ble_eq_true rfl) dL_alike_16 ⟨Nat.le_of_ble_eq_true rfl, Nat.le_of_ble_eq_true rfl⟩ (fun H locs hP hD hS => ?_)
  refine lv_aload_n hx hb dL_alike_19 rfl (lv_at hl 3 rfl) ?_
  refine lv_iload_n hx hb dL_alike_20 rfl (lv_at hl 0 rfl) ?_
  replace hP := kP_perm (wB_swap G d1 d2 x1 x2 []) hP
  replace hD := kD_perm (wB_swap G d1 d2 x1 x2 []) hD
  refine o_about hlt cx cl HQ2 J2 10 (r0 := (pg 9)) (ab_hi (j := 9) (by decide) (by decide) (by decide) (by decide)) hP hD hS gL_alike_L_tryAbout ⟨Nat.le_of_ble_eq_true rfl, Nat.le_of_ble_eq_true rfl⟩ hl (Nat.le_of_ble_eq_true rfl) dL_alike_21 ⟨Nat.le_of_ble_eq_true rfl, Nat.le_of_ble_eq_true rfl⟩ (fun H locs hP hD hS => ?_)
  replace hP := kP_perm (wB_swap G d2 d1 x2 x1 []) hP
  replace hD := kD_perm (wB_swap G d2 d1 x2 x1 []) hD
  refine lv_icmp_ne (tgt := 49) hx hb dL_alike_24 (by decide) (fun c9 => absurd rfl c9) (fun c9 => ?_)
  refine lv_iload_n hx hb dL_alike_27 rfl (lv_at hl 0 rfl) ?_
  refine lv_iconst (v := 4) hx hb dL_alike_28 (by decide) ?_
  refine lv_icmp_gt (tgt := 45) hx hb dL_alike_29 (by decide) (fun c9 => ?_) (fun c9 => absurd (by decide) c9)
  refine lv_iconst (v := 1) hx hb dL_alike_45 (by decide) ?_
  refine lv_goto (tgt := 50) hx hb dL_alike_46 (by decide) ?_
  refine lv_istore_n (lv' := [(2, .int 1), (3, .int 10), (0, .ref d1.1), (1, .ref d2.1)]) hx hb dL_alike_50 rfl hl (by decide) rfl (fun ls hl => ?_)
  refine lv_iinc (v := 11) (lv' := [(3, .int 11), (2, .int 1), (0, .ref d1.1), (1, .ref d2.1)]) hx hb dL_alike_51 hl (k := 1) rfl rfl (by decide) rfl (fun ls hl => ?_)
  refine lv_goto (tgt := 4) hx hb dL_alike_54 (by decide) ?_
  refine lv_iload_n hx hb dL_alike_4 rfl (lv_at hl 0 rfl) ?_
  refine lv_bipush (v := 16) hx hb dL_alike_5 (by decide) ?_
  refine lv_icmp_ge (tgt := 57) hx hb dL_alike_7 (by decide) (fun c9 => absurd c9 (by decide)) (fun c9 => ?_)
  refine lv_iload_n hx hb dL_alike_10 rfl (lv_at hl 1 rfl) ?_
  refine lv_if_eq (tgt := 49) hx hb dL_alike_11 (by decide) (fun c9 => absurd c9 (by decide)) (fun c9 => ?_)
  refine lv_aload_n hx hb dL_alike_14 rfl (lv_at hl 2 rfl) ?_
  refine lv_iload_n hx hb dL_alike_15 rfl (lv_at hl 0 rfl) ?_
  refine o_about hlt cx cl HQ1 J1 11 (r0 := (pg 10)) (ab_hi (j := 10) (by decide) (by decide) (by decide) (by decide)) hP hD hS gL_alike_L_tryAbout ⟨Nat.le_of_ble_eq_true rfl, Nat.le_of_ble_eq_true rfl⟩ hl (Nat.le_of_ble_eq_true rfl) dL_alike_16 ⟨Nat.le_of_ble_eq_true rfl, Nat.le_of_ble_eq_true rfl⟩ (fun H locs hP hD hS => ?_)
  refine lv_aload_n hx hb dL_alike_19 rfl (lv_at hl 3 rfl) ?_
  refine lv_iload_n hx hb dL_alike_20 rfl (lv_at hl 0 rfl) ?_
  replace hP := kP_perm (wB_swap G d1 d2 x1 x2 []) hP
  replace hD := kD_perm (wB_swap G d1 d2 x1 x2 []) hD
  refine o_about hlt cx cl HQ2 J2 11 (r0 := (pg 10)) (ab_hi (j := 10) (by decide) (by decide) (by decide) (by decide)) hP hD hS gL_alike_L_tryAbout ⟨Nat.le_of_ble_eq_true rfl, Nat.le_of_ble_eq_true rfl⟩ hl (Nat.le_of_ble_eq_true rfl) dL_alike_21 ⟨Nat.le_of_ble_eq_true rfl, Nat.le_of_ble_eq_true rfl⟩ (fun H locs hP hD hS => ?_)
  replace hP := kP_perm (wB_swap G d2 d1 x2 x1 []) hP
  replace hD := kD_perm (wB_swap G d2 d1 x2 x1 []) hD
  refine lv_icmp_ne (tgt := 49) hx hb dL_alike_24 (by decide) (fun c9 => absurd rfl c9) (fun c9 => ?_)
  refine lv_iload_n hx hb dL_alike_27 rfl (lv_at hl 0 rfl) ?_
  refine lv_iconst (v := 4) hx hb dL_alike_28 (by decide) ?_
  refine lv_icmp_gt (tgt := 45) hx hb dL_alike_29 (by decide) (fun c9 => ?_) (fun c9 => absurd (by decide) c9)
  refine lv_iconst (v := 1) hx hb dL_alike_45 (by decide) ?_
  refine lv_goto (tgt := 50) hx hb dL_alike_46 (by decide) ?_
  refine lv_istore_n (lv' := [(2, .int 1), (3, .int 11), (0, .ref d1.1), (1, .ref d2.1)]) hx hb dL_alike_50 rfl hl (by decide) rfl (fun ls hl => ?_)
  refine lv_iinc (v := 12) (lv' := [(3, .int 12), (2, .int 1), (0, .ref d1.1), (1, .ref d2.1)]) hx hb dL_alike_51 hl (k := 1) rfl rfl (by decide) rfl (fun ls hl => ?_)
  refine lv_goto (tgt := 4) hx hb dL_alike_54 (by decide) ?_
  refine lv_iload_n hx hb dL_alike_4 rfl (lv_at hl 0 rfl) ?_
  refine lv_bipush (v := 16) hx hb dL_alike_5 (by decide) ?_
  refine lv_icmp_ge (tgt := 57) hx hb dL_alike_7 (by decide) (fun c9 => absurd c9 (by decide)) (fun c9 => ?_)
  refine lv_iload_n hx hb dL_alike_10 rfl (lv_at hl 1 rfl) ?_
  refine lv_if_eq (tgt := 49) hx hb dL_alike_11 (by decide) (fun c9 => absurd c9 (by decide)) (fun c9 => ?_)
  refine lv_aload_n hx hb dL_alike_14 rfl (lv_at hl 2 rfl) ?_
  refine lv_iload_n hx hb dL_alike_15 rfl (lv_at hl 0 rfl) ?_
  refine o_about hlt cx cl HQ1 J1 12 (r0 := (pg 11)) (ab_hi (j := 11) (by decide) (by decide) (by decide) (by decide)) hP hD hS gL_alike_L_tryAbout ⟨Nat.le_of_ble_eq_true rfl, Nat.le_of_ble_eq_true rfl⟩ hl (Nat.le_of_ble_eq_true rfl) dL_alike_16 ⟨Nat.le_of_ble_eq_true rfl, Nat.le_of_ble_eq_true rfl⟩ (fun H locs hP hD hS => ?_)
  refine lv_aload_n hx hb dL_alike_19 rfl (lv_at hl 3 rfl) ?_
  refine lv_iload_n hx hb dL_alike_20 rfl (lv_at hl 0 rfl) ?_
  replace hP := kP_perm (wB_swap G d1 d2 x1 x2 []) hP
  replace hD := kD_perm (wB_swap G d1 d2 x1 x2 []) hD
  refine o_about hlt cx cl HQ2 J2 12 (r0 := (pg 11)) (ab_hi (j := 11) (by decide) (by decide) (by decide) (by decide)) hP hD hS gL_alike_L_tryAbout ⟨Nat.le_of_ble_eq_true rfl, Nat.le_of_ble_eq_true rfl⟩ hl (Nat.le_of_ble_eq_true rfl) dL_alike_21 ⟨Nat.le_of_ble_eq_true rfl, Nat.le_of_ble_eq_true rfl⟩ (fun H locs hP hD hS => ?_)
  replace hP := kP_perm (wB_swap G d2 d1 x2 x1 []) hP
  replace hD := kD_perm (wB_swap G d2 d1 x2 x1 []) hD
  refine lv_icmp_ne (tgt := 49) hx hb dL_alike_24 (by decide) (fun c9 => absurd rfl c9) (fun c9 => ?_)
  refine lv_iload_n hx hb dL_alike_27 rfl (lv_at hl 0 rfl) ?_
  refine lv_iconst (v := 4) hx hb dL_alike_28 (by decide) ?_
  refine lv_icmp_gt (tgt := 45) hx hb dL_alike_29 (by decide) (fun c9 => ?_) (fun c9 => absurd (by decide) c9)
  refine lv_iconst (v := 1) hx hb dL_alike_45 (by decide) ?_
  refine lv_goto (tgt := 50) hx hb dL_alike_46 (by decide) ?_
  refine lv_istore_n (lv' := [(2, .int 1), (3, .int 12), (0, .ref d1.1), (1, .ref d2.1)]) hx hb dL_alike_50 rfl hl (by decide) rfl (fun ls hl => ?_)
  refine lv_iinc (v := 13) (lv' := [(3, .int 13), (2, .int 1), (0, .ref d1.1), (1, .ref d2.1)]) hx hb dL_alike_51 hl (k := 1) rfl rfl (by decide) rfl (fun ls hl => ?_)
  refine lv_goto (tgt := 4) hx hb dL_alike_54 (by decide) ?_
  refine lv_iload_n hx hb dL_alike_4 rfl (lv_at hl 0 rfl) ?_
  refine lv_bipush (v := 16) hx hb dL_alike_5 (by decide) ?_
  refine lv_icmp_ge (tgt := 57) hx hb dL_alike_7 (by decide) (fun c9 => absurd c9 (by decide)) (fun c9 => ?_)
  refine lv_iload_n hx hb dL_alike_10 rfl (lv_at hl 1 rfl) ?_
  refine lv_if_eq (tgt := 49) hx hb dL_alike_11 (by decide) (fun c9 => absurd c9 (by decide)) (fun c9 => ?_)
  refine lv_aload_n hx hb dL_alike_14 rfl (lv_at hl 2 rfl) ?_
  refine lv_iload_n hx hb dL_alike_15 rfl (lv_at hl 0 rfl) ?_
  refine o_about hlt cx cl HQ1 J1 13 (r0 := (pg 12)) (ab_hi (j := 12) (by decide) (by decide) (by decide) (by decide)) hP hD hS gL_alike_L_tryAbout ⟨Nat.le_of_ble_eq_true rfl, Nat.le_of_ble_eq_true rfl⟩ hl (Nat.le_of_ble_eq_true rfl) dL_alike_16 ⟨Nat.le_of_ble_eq_true rfl, Nat.le_of_ble_eq_true rfl⟩ (fun H locs hP hD hS => ?_)
  refine lv_aload_n hx hb dL_alike_19 rfl (lv_at hl 3 rfl) ?_
  refine lv_iload_n hx hb dL_alike_20 rfl (lv_at hl 0 rfl) ?_
  replace hP := kP_perm (wB_swap G d1 d2 x1 x2 []) hP
  replace hD := kD_perm (wB_swap G d1 d2 x1 x2 []) hD
  refine o_about hlt cx cl HQ2 J2 13 (r0 := (pg 12)) (ab_hi (j := 12) (by decide) (by decide) (by decide) (by decide)) hP hD hS gL_alike_L_tryAbout ⟨Nat.le_of_ble_eq_true rfl, Nat.le_of_ble_eq_true rfl⟩ hl (Nat.le_of_ble_eq_true rfl) dL_alike_21 ⟨Nat.le_of_ble_eq_true rfl, Nat.le_of_ble_eq_true rfl⟩ (fun H locs hP hD hS => ?_)
  replace hP := kP_perm (wB_swap G d2 d1 x2 x1 []) hP
  replace hD := kD_perm (wB_swap G d2 d1 x2 x1 []) hD
  refine lv_icmp_ne (tgt := 49) hx hb dL_alike_24 (by decide) (fun c9 => absurd rfl c9) (fun c9 => ?_)
  refine lv_iload_n hx hb dL_alike_27 rfl (lv_at hl 0 rfl) ?_
  refine lv_iconst (v := 4) hx hb dL_alike_28 (by decide) ?_
  refine lv_icmp_gt (tgt := 45) hx hb dL_alike_29 (by decide) (fun c9 => ?_) (fun c9 => absurd (by decide) c9)
  refine lv_iconst (v := 1) hx hb dL_alike_45 (by decide) ?_
  refine lv_goto (tgt := 50) hx hb dL_alike_46 (by decide) ?_
  refine lv_istore_n (lv' := [(2, .int 1), (3, .int 13), (0, .ref d1.1), (1, .ref d2.1)]) hx hb dL_alike_50 rfl hl (by decide) rfl (fun ls hl => ?_)
  refine lv_iinc (v := 14) (lv' := [(3, .int 14), (2, .int 1), (0, .ref d1.1), (1, .ref d2.1)]) hx hb dL_alike_51 hl (k := 1) rfl rfl (by decide) rfl (fun ls hl => ?_)
  refine lv_goto (tgt := 4) hx hb dL_alike_54 (by decide) ?_
  refine lv_iload_n hx hb dL_alike_4 rfl (lv_at hl 0 rfl) ?_
  refine lv_bipush (v := 16) hx hb dL_alike_5 (by decide) ?_
  refine lv_icmp_ge (tgt := 57) hx hb dL_alike_7 (by decide) (fun c9 => absurd c9 (by decide)) (fun c9 => ?_)
  refine lv_iload_n hx hb dL_alike_10 rfl (lv_at hl 1 rfl) ?_
  refine lv_if_eq (tgt := 49) hx hb dL_alike_11 (by decide) (fun c9 => absurd c9 (by decide)) (fun c9 => ?_)
  refine lv_aload_n hx hb dL_alike_14 rfl (lv_at hl 2 rfl) ?_
  refine lv_iload_n hx hb dL_alike_15 rfl (lv_at hl 0 rfl) ?_
  refine o_about hlt cx cl HQ1 J1 14 (r0 := (pg 13)) (ab_hi (j := 13) (by decide) (by decide) (by decide) (by decide)) hP hD hS gL_alike_L_tryAbout ⟨Nat.le_of_ble_eq_true rfl, Nat.le_of_ble_eq_true rfl⟩ hl (Nat.le_of_ble_eq_true rfl) dL_alike_16 ⟨Nat.le_of_ble_eq_true rfl, Nat.le_of_ble_eq_true rfl⟩ (fun H locs hP hD hS => ?_)
  refine lv_aload_n hx hb dL_alike_19 rfl (lv_at hl 3 rfl) ?_
  refine lv_iload_n hx hb dL_alike_20 rfl (lv_at hl 0 rfl) ?_
  replace hP := kP_perm (wB_swap G d1 d2 x1 x2 []) hP
  replace hD := kD_perm (wB_swap G d1 d2 x1 x2 []) hD
  refine o_about hlt cx cl HQ2 J2 14 (r0 := (pg 13)) (ab_hi (j := 13) (by decide) (by decide) (by decide) (by decide)) hP hD hS gL_alike_L_tryAbout ⟨Nat.le_of_ble_eq_true rfl, Nat.le_of_ble_eq_true rfl⟩ hl (Nat.le_of_ble_eq_true rfl) dL_alike_21 ⟨Nat.le_of_ble_eq_true rfl, Nat.le_of_ble_eq_true rfl⟩ (fun H locs hP hD hS => ?_)
  replace hP := kP_perm (wB_swap G d2 d1 x2 x1 []) hP
  replace hD := kD_perm (wB_swap G d2 d1 x2 x1 []) hD
  refine lv_icmp_ne (tgt := 49) hx hb dL_alike_24 (by decide) (fun c9 => absurd rfl c9) (fun c9 => ?_)
  refine lv_iload_n hx hb dL_alike_27 rfl (lv_at hl 0 rfl) ?_
  refine lv_iconst (v := 4) hx hb dL_alike_28 (by decide) ?_
  refine lv_icmp_gt (tgt := 45) hx hb dL_alike_29 (by decide) (fun c9 => ?_) (fun c9 => absurd (by decide) c9)
  refine lv_iconst (v := 1) hx hb dL_alike_45 (by decide) ?_
  refine lv_goto (tgt := 50) hx hb dL_alike_46 (by decide) ?_
  refine lv_istore_n (lv' := [(2, .int 1), (3, .int 14), (0, .ref d1.1), (1, .ref d2.1)]) hx hb dL_alike_50 rfl hl (by decide) rfl (fun ls hl => ?_)
  refine lv_iinc (v := 15) (lv' := [(3, .int 15), (2, .int 1), (0, .ref d1.1), (1, .ref d2.1)]) hx hb dL_alike_51 hl (k := 1) rfl rfl (by decide) rfl (fun ls hl => ?_)
  refine lv_goto (tgt := 4) hx hb dL_alike_54 (by decide) ?_
  refine lv_iload_n hx hb dL_alike_4 rfl (lv_at hl 0 rfl) ?_
  refine lv_bipush (v := 16) hx hb dL_alike_5 (by decide) ?_
  refine lv_icmp_ge (tgt := 57) hx hb dL_alike_7 (by decide) (fun c9 => absurd c9 (by decide)) (fun c9 => ?_)
  refine lv_iload_n hx hb dL_alike_10 rfl (lv_at hl 1 rfl) ?_
  refine lv_if_eq (tgt := 49) hx hb dL_alike_11 (by decide) (fun c9 => absurd c9 (by decide)) (fun c9 => ?_)
  refine lv_aload_n hx hb dL_alike_14 rfl (lv_at hl 2 rfl) ?_
  refine lv_iload_n hx hb dL_alike_15 rfl (lv_at hl 0 rfl) ?_
  refine o_about hlt cx cl HQ1 J1 15 (r0 := (pg 14)) (ab_hi (j := 14) (by decide) (by decide) (by decide) (by decide)) hP hD hS gL_alike_L_tryAbout ⟨Nat.le_of_ble_eq_true rfl, Nat.le_of_ble_eq_true rfl⟩ hl (Nat.le_of_ble_eq_true rfl) dL_alike_16 ⟨Nat.le_of_ble_eq_true rfl, Nat.le_of_ble_eq_true rfl⟩ (fun H locs hP hD hS => ?_)
  refine lv_aload_n hx hb dL_alike_19 rfl (lv_at hl 3 rfl) ?_
  refine lv_iload_n hx hb dL_alike_20 rfl (lv_at hl 0 rfl) ?_
  replace hP := kP_perm (wB_swap G d1 d2 x1 x2 []) hP
  replace hD := kD_perm (wB_swap G d1 d2 x1 x2 []) hD
  refine o_about hlt cx cl HQ2 J2 15 (r0 := (pg 14)) (ab_hi (j := 14) (by decide) (by decide) (by decide) (by decide)) hP hD hS gL_alike_L_tryAbout ⟨Nat.le_of_ble_eq_true rfl, Nat.le_of_ble_eq_true rfl⟩ hl (Nat.le_of_ble_eq_true rfl) dL_alike_21 ⟨Nat.le_of_ble_eq_true rfl, Nat.le_of_ble_eq_true rfl⟩ (fun H locs hP hD hS => ?_)
  replace hP := kP_perm (wB_swap G d2 d1 x2 x1 []) hP
  replace hD := kD_perm (wB_swap G d2 d1 x2 x1 []) hD
  refine lv_icmp_ne (tgt := 49) hx hb dL_alike_24 (by decide) (fun c9 => absurd rfl c9) (fun c9 => ?_)
  refine lv_iload_n hx hb dL_alike_27 rfl (lv_at hl 0 rfl) ?_
  refine lv_iconst (v := 4) hx hb dL_alike_28 (by decide) ?_
  refine lv_icmp_gt (tgt := 45) hx hb dL_alike_29 (by decide) (fun c9 => ?_) (fun c9 => absurd (by decide) c9)
  refine lv_iconst (v := 1) hx hb dL_alike_45 (by decide) ?_
  refine lv_goto (tgt := 50) hx hb dL_alike_46 (by decide) ?_
  refine lv_istore_n (lv' := [(2, .int 1), (3, .int 15), (0, .ref d1.1), (1, .ref d2.1)]) hx hb dL_alike_50 rfl hl (by decide) rfl (fun ls hl => ?_)
  refine lv_iinc (v := 16) (lv' := [(3, .int 16), (2, .int 1), (0, .ref d1.1), (1, .ref d2.1)]) hx hb dL_alike_51 hl (k := 1) rfl rfl (by decide) rfl (fun ls hl => ?_)
  refine lv_goto (tgt := 4) hx hb dL_alike_54 (by decide) ?_
  refine lv_iload_n hx hb dL_alike_4 rfl (lv_at hl 0 rfl) ?_
  refine lv_bipush (v := 16) hx hb dL_alike_5 (by decide) ?_
  refine lv_icmp_ge (tgt := 57) hx hb dL_alike_7 (by decide) (fun c9 => ?_) (fun c9 => absurd (by decide) c9)
  refine lv_iconst (v := 0) hx hb dL_alike_57 (by decide) ?_
  refine lv_istore_n (lv' := [(3, .int 0), (2, .int 1), (0, .ref d1.1), (1, .ref d2.1)]) hx hb dL_alike_58 rfl hl (by decide) rfl (fun ls hl => ?_)
  exact al_lp hlt cx cl HQ1 HQ2 J1 J2 84 0 (by decide) hP hD hS (lv_sub hl [0, 1, 2, 3] rfl)
