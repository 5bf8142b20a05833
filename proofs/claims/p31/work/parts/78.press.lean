/-! the law's methods -/
abbrev rmL_presses : Room := { frames := 8, cells := 32, slots := 192, locals := 190 }

set_option maxRecDepth 100000 in
set_option maxHeartbeats 16000000 in
theorem c_L_presses_f (l : Launch) (hlt : l.stackTraces = false) (G : gG) (b L : Nat) (xs : Nat → Int32) (d : AD) (HQ : PQd d) (n : Int32) (tt pg : Pg) (hs : List Pg) (k0 k1 : Option Pg) (hc : pg 11 = 0) : kG l G yL_presses wsL_presses rmL_presses [.ref d.1, .int 0] b L xs (fun x : XT => wB G d x []) (fun x => JNV x n tt pg hs k0 k1) (fun r x => r = 1 ∧ JNV x n tt (P_X4_pressOn pg 0).2 (push hs pg) k0 k1) 32 192 := by
  refine k_bodyG (cc := cL_presses) (nL := 10) (ret := some .boolean) (by decide) rfl (Nat.le_of_ble_eq_true rfl) ?_
  intro x hI
  intro p e s m args below meth c A cx cl H locs hP hD hS ls hl
  obtain ⟨hx, hb, hml, hown, hts, hr, hlocks, hK, hA⟩ := id cx
  have hl : lv_has ls 10 [(0, .ref d.1), (1, .int 0)] := hl
  have hP : va_P G.1 vwCl (wB G d x []) H := hP
  have hD : va_D A (wB G d x []) := hD
  have J : JNV x n tt pg hs k0 k1 := hI
  have J0 := J
  refine lv_aload_n hx hb dL_presses_0 rfl (lv_at hl 0 rfl) ?_
  refine lv_bipush (v := 12) hx hb dL_presses_1 (by decide) ?_
  refine o_about hlt cx cl HQ J 12 (r0 := (pg 11)) (ab_hi (j := 11) (by decide) (by decide) (by decide) (by decide)) hP hD hS gL_presses_L_tryAbout ⟨Nat.le_of_ble_eq_true rfl, Nat.le_of_ble_eq_true rfl⟩ hl (Nat.le_of_ble_eq_true rfl) dL_presses_3 ⟨Nat.le_of_ble_eq_true rfl, Nat.le_of_ble_eq_true rfl⟩ (fun H locs hP hD hS => ?_)
  refine lv_iconst (v := 1) hx hb dL_presses_6 (by decide) ?_
  refine lv_icmp_ne (tgt := 26) hx hb dL_presses_7 (by decide) (fun c9 => ?_) (fun c9 => absurd c9 (by rw [hc]; decide))
  refine lv_aload_n hx hb dL_presses_26 rfl (lv_at hl 0 rfl) ?_
  refine lv_iload_n hx hb dL_presses_27 rfl (lv_at hl 1 rfl) ?_
  refine lv_if_eq (tgt := 35) hx hb dL_presses_28 (by decide) (fun c9 => ?_) (fun c9 => absurd (by decide) c9)
  refine lv_iconst (v := 3) hx hb dL_presses_35 (by decide) ?_
  refine o_bridge hlt cx cl HQ J 3 (r0 := (P_X4_rawOf pg 0 (pg 4))) br_3 hP hD hS gL_presses_L_tryBridge ⟨Nat.le_of_ble_eq_true rfl, Nat.le_of_ble_eq_true rfl⟩ hl (Nat.le_of_ble_eq_true rfl) dL_presses_36 ⟨Nat.le_of_ble_eq_true rfl, Nat.le_of_ble_eq_true rfl⟩ (fun H locs hP hD hS => ?_)
  refine lv_istore_n (lv' := [(2, .int (P_X4_rawOf pg 0 (pg 4))), (0, .ref d.1), (1, .int 0)]) hx hb dL_presses_39 rfl hl (by decide) rfl (fun ls hl => ?_)
  refine lv_aload_n hx hb dL_presses_40 rfl (lv_at hl 1 rfl) ?_
  refine lv_bipush (v := 9) hx hb dL_presses_41 (by decide) ?_
  refine o_about hlt cx cl HQ J 9 (r0 := (pg 8)) (ab_hi (j := 8) (by decide) (by decide) (by decide) (by decide)) hP hD hS gL_presses_L_tryAbout ⟨Nat.le_of_ble_eq_true rfl, Nat.le_of_ble_eq_true rfl⟩ hl (Nat.le_of_ble_eq_true rfl) dL_presses_43 ⟨Nat.le_of_ble_eq_true rfl, Nat.le_of_ble_eq_true rfl⟩ (fun H locs hP hD hS => ?_)
  refine lv_istore_n (lv' := [(3, .int (pg 8)), (2, .int (P_X4_rawOf pg 0 (pg 4))), (0, .ref d.1), (1, .int 0)]) hx hb dL_presses_46 rfl hl (by decide) rfl (fun ls hl => ?_)
  refine lv_aload_n hx hb dL_presses_47 rfl (lv_at hl 2 rfl) ?_
  refine lv_bipush (v := 7) hx hb dL_presses_48 (by decide) ?_
  refine o_about hlt cx cl HQ J 7 (r0 := (pg 7)) (ab_lo (j := 7) (by decide) (by decide) (by decide)) hP hD hS gL_presses_L_tryAbout ⟨Nat.le_of_ble_eq_true rfl, Nat.le_of_ble_eq_true rfl⟩ hl (Nat.le_of_ble_eq_true rfl) dL_presses_50 ⟨Nat.le_of_ble_eq_true rfl, Nat.le_of_ble_eq_true rfl⟩ (fun H locs hP hD hS => ?_)
  refine lv_aload_n hx hb dL_presses_53 rfl (lv_at hl 2 rfl) ?_
  refine lv_iconst (v := 3) hx hb dL_presses_54 (by decide) ?_
  refine o_about hlt cx cl HQ J 3 (r0 := (pg 3)) (ab_lo (j := 3) (by decide) (by decide) (by decide)) hP hD hS gL_presses_L_tryAbout ⟨Nat.le_of_ble_eq_true rfl, Nat.le_of_ble_eq_true rfl⟩ hl (Nat.le_of_ble_eq_true rfl) dL_presses_55 ⟨Nat.le_of_ble_eq_true rfl, Nat.le_of_ble_eq_true rfl⟩ (fun H locs hP hD hS => ?_)
  refine lv_iadd hx hb dL_presses_58 ?_
  refine lv_istore (lv' := [(4, .int ((pg 7) + (pg 3))), (3, .int (pg 8)), (2, .int (P_X4_rawOf pg 0 (pg 4))), (0, .ref d.1), (1, .int 0)]) hx hb dL_presses_59 hl (by decide) rfl (fun ls hl => ?_)
  refine lv_aload_n hx hb dL_presses_61 rfl (lv_at hl 3 rfl) ?_
  refine lv_bipush (v := 14) hx hb dL_presses_62 (by decide) ?_
  refine o_about hlt cx cl HQ J 14 (r0 := (pg 13)) (ab_hi (j := 13) (by decide) (by decide) (by decide) (by decide)) hP hD hS gL_presses_L_tryAbout ⟨Nat.le_of_ble_eq_true rfl, Nat.le_of_ble_eq_true rfl⟩ hl (Nat.le_of_ble_eq_true rfl) dL_presses_64 ⟨Nat.le_of_ble_eq_true rfl, Nat.le_of_ble_eq_true rfl⟩ (fun H locs hP hD hS => ?_)
  refine lv_istore (lv' := [(5, .int (pg 13)), (4, .int ((pg 7) + (pg 3))), (3, .int (pg 8)), (2, .int (P_X4_rawOf pg 0 (pg 4))), (0, .ref d.1), (1, .int 0)]) hx hb dL_presses_67 hl (by decide) rfl (fun ls hl => ?_)
  refine lv_aload_n hx hb dL_presses_69 rfl (lv_at hl 4 rfl) ?_
  refine lv_bipush (v := 15) hx hb dL_presses_70 (by decide) ?_
  refine o_about hlt cx cl HQ J 15 (r0 := (pg 14)) (ab_hi (j := 14) (by decide) (by decide) (by decide) (by decide)) hP hD hS gL_presses_L_tryAbout ⟨Nat.le_of_ble_eq_true rfl, Nat.le_of_ble_eq_true rfl⟩ hl (Nat.le_of_ble_eq_true rfl) dL_presses_72 ⟨Nat.le_of_ble_eq_true rfl, Nat.le_of_ble_eq_true rfl⟩ (fun H locs hP hD hS => ?_)
  refine lv_istore (lv' := [(6, .int (pg 14)), (5, .int (pg 13)), (4, .int ((pg 7) + (pg 3))), (3, .int (pg 8)), (2, .int (P_X4_rawOf pg 0 (pg 4))), (0, .ref d.1), (1, .int 0)]) hx hb dL_presses_75 hl (by decide) rfl (fun ls hl => ?_)
  refine lv_aload_n hx hb dL_presses_77 rfl (lv_at hl 5 rfl) ?_
  refine lv_iconst (v := 0) hx hb dL_presses_78 (by decide) ?_
  refine lv_iconst (v := 0) hx hb dL_presses_79 (by decide) ?_
  refine o_told hlt cx cl HQ J 0 0 (r0 := (if pg 12 ≤ 0 then (-9999) else (pg 21))) (td_0 (j := 21) (by decide) (by decide)) hP hD hS gL_presses_L_tryTold ⟨Nat.le_of_ble_eq_true rfl, Nat.le_of_ble_eq_true rfl⟩ hl (Nat.le_of_ble_eq_true rfl) dL_presses_80 ⟨Nat.le_of_ble_eq_true rfl, Nat.le_of_ble_eq_true rfl⟩ (fun H locs hP hD hS => ?_)
  refine lv_istore (lv' := [(7, .int (if pg 12 ≤ 0 then (-9999) else (pg 21))), (6, .int (pg 14)), (5, .int (pg 13)), (4, .int ((pg 7) + (pg 3))), (3, .int (pg 8)), (2, .int (P_X4_rawOf pg 0 (pg 4))), (0, .ref d.1), (1, .int 0)]) hx hb dL_presses_83 hl (by decide) rfl (fun ls hl => ?_)
  refine lv_iload_n hx hb dL_presses_85 rfl (lv_at hl 5 rfl) ?_
  refine lv_sipush (v := (-5000)) hx hb dL_presses_86 (by decide) ?_
  have hj104 : W p l e rmL_presses s m args below meth c H locs 8 48 (MQ below (qG G (fun x : XT => wB G d x []) (fun r x => r = 1 ∧ JNV x n tt (P_X4_pressOn pg 0).2 (push hs pg) k0 k1) A) args s 32 192 A) (F0 m 104 ls [.int (ovr (P_X4_rawOf pg 0 (pg 4)))]) := by
    refine lv_istore (lv' := [(8, .int (ovr (P_X4_rawOf pg 0 (pg 4)))), (7, .int (if pg 12 ≤ 0 then (-9999) else (pg 21))), (6, .int (pg 14)), (5, .int (pg 13)), (4, .int ((pg 7) + (pg 3))), (3, .int (pg 8)), (2, .int (P_X4_rawOf pg 0 (pg 4))), (0, .ref d.1), (1, .int 0)]) hx hb dL_presses_104 hl (by decide) rfl (fun ls hl => ?_)
    refine lv_aload_n hx hb dL_presses_106 rfl (lv_at hl 7 rfl) ?_
    refine lv_iconst (v := 3) hx hb dL_presses_107 (by decide) ?_
    refine o_bridge hlt cx cl HQ J 3 (r0 := (P_X4_rawOf pg 0 (pg 4))) br_3 hP hD hS gL_presses_L_tryBridge ⟨Nat.le_of_ble_eq_true rfl, Nat.le_of_ble_eq_true rfl⟩ hl (Nat.le_of_ble_eq_true rfl) dL_presses_108 ⟨Nat.le_of_ble_eq_true rfl, Nat.le_of_ble_eq_true rfl⟩ (fun H locs hP hD hS => ?_)
    refine lv_aload_n hx hb dL_presses_111 rfl (lv_at hl 7 rfl) ?_
    refine lv_iconst (v := 4) hx hb dL_presses_112 (by decide) ?_
    refine o_bridge hlt cx cl HQ J 4 (r0 := (P_X4_rawOf pg 1 (pg 4))) br_4 hP hD hS gL_presses_L_tryBridge ⟨Nat.le_of_ble_eq_true rfl, Nat.le_of_ble_eq_true rfl⟩ hl (Nat.le_of_ble_eq_true rfl) dL_presses_113 ⟨Nat.le_of_ble_eq_true rfl, Nat.le_of_ble_eq_true rfl⟩ (fun H locs hP hD hS => ?_)
    refine lv_iadd hx hb dL_presses_116 ?_
    refine lv_iconst (v := 2) hx hb dL_presses_117 (by decide) ?_
    refine lv_aload_n hx hb dL_presses_118 rfl (lv_at hl 7 rfl) ?_
    refine lv_bipush (v := 8) hx hb dL_presses_119 (by decide) ?_
    refine o_about hlt cx cl HQ J 8 (r0 := (P_X4_offsetOf pg)) ab_8 hP hD hS gL_presses_L_tryAbout ⟨Nat.le_of_ble_eq_true rfl, Nat.le_of_ble_eq_true rfl⟩ hl (Nat.le_of_ble_eq_true rfl) dL_presses_121 ⟨Nat.le_of_ble_eq_true rfl, Nat.le_of_ble_eq_true rfl⟩ (fun H locs hP hD hS => ?_)
    refine lv_imul hx hb dL_presses_124 ?_
    refine lv_icmp_ne (tgt := 153) hx hb dL_presses_125 (by decide) (fun c9 => absurd (pr_sum J0.pv J0.rg) c9) (fun c9 => ?_)
    refine lv_aload_n hx hb dL_presses_128 rfl (lv_at hl 7 rfl) ?_
    refine lv_iconst (v := 3) hx hb dL_presses_129 (by decide) ?_
    refine o_bridge hlt cx cl HQ J 3 (r0 := (P_X4_rawOf pg 0 (pg 4))) br_3 hP hD hS gL_presses_L_tryBridge ⟨Nat.le_of_ble_eq_true rfl, Nat.le_of_ble_eq_true rfl⟩ hl (Nat.le_of_ble_eq_true rfl) dL_presses_130 ⟨Nat.le_of_ble_eq_true rfl, Nat.le_of_ble_eq_true rfl⟩ (fun H locs hP hD hS => ?_)
    refine lv_aload_n hx hb dL_presses_133 rfl (lv_at hl 7 rfl) ?_
    refine lv_iconst (v := 4) hx hb dL_presses_134 (by decide) ?_
    refine o_bridge hlt cx cl HQ J 4 (r0 := (P_X4_rawOf pg 1 (pg 4))) br_4 hP hD hS gL_presses_L_tryBridge ⟨Nat.le_of_ble_eq_true rfl, Nat.le_of_ble_eq_true rfl⟩ hl (Nat.le_of_ble_eq_true rfl) dL_presses_135 ⟨Nat.le_of_ble_eq_true rfl, Nat.le_of_ble_eq_true rfl⟩ (fun H locs hP hD hS => ?_)
    refine lv_isub hx hb dL_presses_138 ?_
    refine lv_iconst (v := 2) hx hb dL_presses_139 (by decide) ?_
    refine lv_aload_n hx hb dL_presses_140 rfl (lv_at hl 7 rfl) ?_
    refine lv_iconst (v := 2) hx hb dL_presses_141 (by decide) ?_
    refine o_bridge hlt cx cl HQ J 2 (r0 := (P_X4_trueOf pg (pg 2) (pg 4))) br_2 hP hD hS gL_presses_L_tryBridge ⟨Nat.le_of_ble_eq_true rfl, Nat.le_of_ble_eq_true rfl⟩ hl (Nat.le_of_ble_eq_true rfl) dL_presses_142 ⟨Nat.le_of_ble_eq_true rfl, Nat.le_of_ble_eq_true rfl⟩ (fun H locs hP hD hS => ?_)
    refine lv_imul hx hb dL_presses_145 ?_
    refine lv_icmp_ne (tgt := 153) hx hb dL_presses_146 (by decide) (fun c9 => absurd (pr_dif J0.pv J0.rg) c9) (fun c9 => ?_)
    refine lv_iconst (v := 1) hx hb dL_presses_149 (by decide) ?_
    refine lv_goto (tgt := 154) hx hb dL_presses_150 (by decide) ?_
    refine lv_istore (lv' := [(9, .int 1), (8, .int (ovr (P_X4_rawOf pg 0 (pg 4)))), (7, .int (if pg 12 ≤ 0 then (-9999) else (pg 21))), (6, .int (pg 14)), (5, .int (pg 13)), (4, .int ((pg 7) + (pg 3))), (3, .int (pg 8)), (2, .int (P_X4_rawOf pg 0 (pg 4))), (0, .ref d.1), (1, .int 0)]) hx hb dL_presses_154 hl (by decide) rfl (fun ls hl => ?_)
    refine lv_iload hx hb dL_presses_156 (lv_at hl 0 rfl) ?_
    refine lv_if_eq (tgt := 365) hx hb dL_presses_158 (by decide) (fun c9 => absurd c9 (by decide)) (fun c9 => ?_)
    refine lv_aload_n hx hb dL_presses_161 rfl (lv_at hl 8 rfl) ?_
    refine lv_iload_n hx hb dL_presses_162 rfl (lv_at hl 9 rfl) ?_
    refine o_press hlt cx cl HQ J 0 hc (r0 := (rd500 (P_X4_rawOf pg 0 (pg 4)))) pk_r hP hD hS gL_presses_L_tryPress ⟨Nat.le_of_ble_eq_true rfl, Nat.le_of_ble_eq_true rfl⟩ hl (Nat.le_of_ble_eq_true rfl) dL_presses_163 ⟨Nat.le_of_ble_eq_true rfl, Nat.le_of_ble_eq_true rfl⟩ (fun x H locs J hP hD hS => ?_)
    have J : JNV x n tt ((P_X4_pressOn pg 0).2) (push hs pg) k0 k1 := J
    refine lv_iload_n hx hb dL_presses_166 rfl (lv_at hl 7 rfl) ?_
    refine kc0 (n := 1) (As := [.int (P_X4_rawOf pg 0 (pg 4))]) cx cl (c_L_limited l hlt G b L xs (P_X4_rawOf pg 0 (pg 4))) trivial hP hD hS gL_presses_L_limited rfl rfl rfl (by decide +kernel) ⟨Nat.le_of_ble_eq_true rfl, Nat.le_of_ble_eq_true rfl⟩ rfl rfl hl (Nat.le_of_ble_eq_true rfl) dL_presses_167 ⟨Nat.le_of_ble_eq_true rfl, Nat.le_of_ble_eq_true rfl⟩ (fun r9 H locs h9 hP hD hS => ?_)
    rw [h9]
    refine lv_icmp_ne (tgt := 365) hx hb dL_presses_170 (by decide) (fun c9 => absurd rfl c9) (fun c9 => ?_)
    refine lv_aload_n hx hb dL_presses_173 rfl (lv_at hl 8 rfl) ?_
    refine lv_iconst (v := 0) hx hb dL_presses_174 (by decide) ?_
    refine lv_iconst (v := 0) hx hb dL_presses_175 (by decide) ?_
    refine o_told hlt cx cl HQ J 0 0 (r0 := (rd500 (P_X4_rawOf pg 0 (pg 4)))) (pk_t (j := 21) J0.pv (by decide) (by decide) pk_21) hP hD hS gL_presses_L_tryTold ⟨Nat.le_of_ble_eq_true rfl, Nat.le_of_ble_eq_true rfl⟩ hl (Nat.le_of_ble_eq_true rfl) dL_presses_176 ⟨Nat.le_of_ble_eq_true rfl, Nat.le_of_ble_eq_true rfl⟩ (fun H locs hP hD hS => ?_)
    refine lv_iload_n hx hb dL_presses_179 rfl (lv_at hl 7 rfl) ?_
    refine kc0 (n := 1) (As := [.int (P_X4_rawOf pg 0 (pg 4))]) cx cl (c_L_limited l hlt G b L xs (P_X4_rawOf pg 0 (pg 4))) trivial hP hD hS gL_presses_L_limited rfl rfl rfl (by decide +kernel) ⟨Nat.le_of_ble_eq_true rfl, Nat.le_of_ble_eq_true rfl⟩ rfl rfl hl (Nat.le_of_ble_eq_true rfl) dL_presses_180 ⟨Nat.le_of_ble_eq_true rfl, Nat.le_of_ble_eq_true rfl⟩ (fun r9 H locs h9 hP hD hS => ?_)
    rw [h9]
    refine lv_icmp_ne (tgt := 365) hx hb dL_presses_183 (by decide) (fun c9 => absurd rfl c9) (fun c9 => ?_)
    refine lv_aload_n hx hb dL_presses_186 rfl (lv_at hl 8 rfl) ?_
    refine lv_iconst (v := 1) hx hb dL_presses_187 (by decide) ?_
    refine lv_iconst (v := 0) hx hb dL_presses_188 (by decide) ?_
    refine o_told hlt cx cl HQ J 1 0 (r0 := (if pg 12 ≤ 0 then (-9999) else (pg 21))) (pk_t1 J0.pv) hP hD hS gL_presses_L_tryTold ⟨Nat.le_of_ble_eq_true rfl, Nat.le_of_ble_eq_true rfl⟩ hl (Nat.le_of_ble_eq_true rfl) dL_presses_189 ⟨Nat.le_of_ble_eq_true rfl, Nat.le_of_ble_eq_true rfl⟩ (fun H locs hP hD hS => ?_)
    refine lv_iload hx hb dL_presses_192 (lv_at hl 2 rfl) ?_
    refine lv_icmp_ne (tgt := 365) hx hb dL_presses_194 (by decide) (fun c9 => absurd rfl c9) (fun c9 => ?_)
    refine lv_aload_n hx hb dL_presses_197 rfl (lv_at hl 8 rfl) ?_
    refine lv_iconst (v := 0) hx hb dL_presses_198 (by decide) ?_
    refine lv_iconst (v := 1) hx hb dL_presses_199 (by decide) ?_
    refine o_told hlt cx cl HQ J 0 1 (r0 := 1) (pk_t (j := 22) J0.pv (by decide) (by decide) (pk_22.trans (by decide))) hP hD hS gL_presses_L_tryTold ⟨Nat.le_of_ble_eq_true rfl, Nat.le_of_ble_eq_true rfl⟩ hl (Nat.le_of_ble_eq_true rfl) dL_presses_200 ⟨Nat.le_of_ble_eq_true rfl, Nat.le_of_ble_eq_true rfl⟩ (fun H locs hP hD hS => ?_)
    refine lv_iload_n hx hb dL_presses_203 rfl (lv_at hl 9 rfl) ?_
    refine lv_if_eq (tgt := 211) hx hb dL_presses_204 (by decide) (fun c9 => ?_) (fun c9 => absurd (by decide) c9)
    refine lv_iconst (v := 1) hx hb dL_presses_211 (by decide) ?_
    refine lv_icmp_ne (tgt := 365) hx hb dL_presses_212 (by decide) (fun c9 => absurd (by decide) c9) (fun c9 => ?_)
    refine lv_aload_n hx hb dL_presses_215 rfl (lv_at hl 8 rfl) ?_
    refine lv_iconst (v := 0) hx hb dL_presses_216 (by decide) ?_
    refine lv_iconst (v := 2) hx hb dL_presses_217 (by decide) ?_
    refine o_told hlt cx cl HQ J 0 2 (r0 := (pg 2)) (pk_t (j := 23) J0.pv (by decide) (by decide) pk_23) hP hD hS gL_presses_L_tryTold ⟨Nat.le_of_ble_eq_true rfl, Nat.le_of_ble_eq_true rfl⟩ hl (Nat.le_of_ble_eq_true rfl) dL_presses_218 ⟨Nat.le_of_ble_eq_true rfl, Nat.le_of_ble_eq_true rfl⟩ (fun H locs hP hD hS => ?_)
    refine lv_aload_n hx hb dL_presses_221 rfl (lv_at hl 8 rfl) ?_
    refine lv_iconst (v := 2) hx hb dL_presses_222 (by decide) ?_
    refine o_about hlt cx cl HQ J 2 (r0 := (pg 2)) ((ab_lo (j := 2) (by decide) (by decide) (by decide)).trans (pk_lo (j := 2) (by decide) (by decide) (by decide) (by decide) (by decide) (by decide) (by decide))) hP hD hS gL_presses_L_tryAbout ⟨Nat.le_of_ble_eq_true rfl, Nat.le_of_ble_eq_true rfl⟩ hl (Nat.le_of_ble_eq_true rfl) dL_presses_223 ⟨Nat.le_of_ble_eq_true rfl, Nat.le_of_ble_eq_true rfl⟩ (fun H locs hP hD hS => ?_)
    refine lv_icmp_ne (tgt := 365) hx hb dL_presses_226 (by decide) (fun c9 => absurd rfl c9) (fun c9 => ?_)
    refine lv_aload_n hx hb dL_presses_229 rfl (lv_at hl 8 rfl) ?_
    refine lv_iconst (v := 0) hx hb dL_presses_230 (by decide) ?_
    refine lv_iconst (v := 3) hx hb dL_presses_231 (by decide) ?_
    refine o_told hlt cx cl HQ J 0 3 (r0 := (pg 8)) (pk_t (j := 24) J0.pv (by decide) (by decide) pk_24) hP hD hS gL_presses_L_tryTold ⟨Nat.le_of_ble_eq_true rfl, Nat.le_of_ble_eq_true rfl⟩ hl (Nat.le_of_ble_eq_true rfl) dL_presses_232 ⟨Nat.le_of_ble_eq_true rfl, Nat.le_of_ble_eq_true rfl⟩ (fun H locs hP hD hS => ?_)
    refine lv_iload_n hx hb dL_presses_235 rfl (lv_at hl 6 rfl) ?_
    refine lv_icmp_ne (tgt := 365) hx hb dL_presses_236 (by decide) (fun c9 => absurd rfl c9) (fun c9 => ?_)
    refine lv_aload_n hx hb dL_presses_239 rfl (lv_at hl 8 rfl) ?_
    refine lv_bipush (v := 7) hx hb dL_presses_240 (by decide) ?_
    refine o_about hlt cx cl HQ J 7 (r0 := (if ((pg 7) + (pg 3)) ≤ 9999 then ((pg 7) + (pg 3)) else 9999)) ((ab_lo (j := 7) (by decide) (by decide) (by decide)).trans pk_7) hP hD hS gL_presses_L_tryAbout ⟨Nat.le_of_ble_eq_true rfl, Nat.le_of_ble_eq_true rfl⟩ hl (Nat.le_of_ble_eq_true rfl) dL_presses_242 ⟨Nat.le_of_ble_eq_true rfl, Nat.le_of_ble_eq_true rfl⟩ (fun H locs hP hD hS => ?_)
    refine lv_iload hx hb dL_presses_245 (lv_at hl 5 rfl) ?_
    refine lv_sipush (v := 9999) hx hb dL_presses_247 (by decide) ?_
    have hj261 : W p l e rmL_presses s m args below meth c H locs 22 132 (MQ below (qG G (fun x : XT => wB G d x []) (fun r x => r = 1 ∧ JNV x n tt (P_X4_pressOn pg 0).2 (push hs pg) k0 k1) A) args s 32 192 A) (F0 m 261 ls [.int (if ((pg 7) + (pg 3)) ≤ 9999 then ((pg 7) + (pg 3)) else 9999), .int (if ((pg 7) + (pg 3)) ≤ 9999 then ((pg 7) + (pg 3)) else 9999)]) := by
      refine lv_icmp_ne (tgt := 365) hx hb dL_presses_261 (by decide) (fun c9 => absurd rfl c9) (fun c9 => ?_)
      refine lv_aload_n hx hb dL_presses_264 rfl (lv_at hl 8 rfl) ?_
      refine lv_bipush (v := 9) hx hb dL_presses_265 (by decide) ?_
      refine o_about hlt cx cl HQ J 9 (r0 := ((pg 8) + 1)) ((ab_hi (j := 8) (by decide) (by decide) (by decide) (by decide)).trans pk_8) hP hD hS gL_presses_L_tryAbout ⟨Nat.le_of_ble_eq_true rfl, Nat.le_of_ble_eq_true rfl⟩ hl (Nat.le_of_ble_eq_true rfl) dL_presses_267 ⟨Nat.le_of_ble_eq_true rfl, Nat.le_of_ble_eq_true rfl⟩ (fun H locs hP hD hS => ?_)
      refine lv_iload_n hx hb dL_presses_270 rfl (lv_at hl 6 rfl) ?_
      refine lv_iconst (v := 1) hx hb dL_presses_271 (by decide) ?_
      refine lv_iadd hx hb dL_presses_272 ?_
      refine lv_icmp_ne (tgt := 365) hx hb dL_presses_273 (by decide) (fun c9 => absurd rfl c9) (fun c9 => ?_)
      refine lv_aload_n hx hb dL_presses_276 rfl (lv_at hl 8 rfl) ?_
      refine lv_bipush (v := 14) hx hb dL_presses_277 (by decide) ?_
      refine o_about hlt cx cl HQ J 14 (r0 := ((pg 13) + 1)) ((ab_hi (j := 13) (by decide) (by decide) (by decide) (by decide)).trans pk_13) hP hD hS gL_presses_L_tryAbout ⟨Nat.le_of_ble_eq_true rfl, Nat.le_of_ble_eq_true rfl⟩ hl (Nat.le_of_ble_eq_true rfl) dL_presses_279 ⟨Nat.le_of_ble_eq_true rfl, Nat.le_of_ble_eq_true rfl⟩ (fun H locs hP hD hS => ?_)
      refine lv_iload hx hb dL_presses_282 (lv_at hl 4 rfl) ?_
      refine lv_iconst (v := 1) hx hb dL_presses_284 (by decide) ?_
      refine lv_iadd hx hb dL_presses_285 ?_
      refine lv_icmp_ne (tgt := 365) hx hb dL_presses_286 (by decide) (fun c9 => absurd rfl c9) (fun c9 => ?_)
      refine lv_aload_n hx hb dL_presses_289 rfl (lv_at hl 8 rfl) ?_
      refine lv_bipush (v := 12) hx hb dL_presses_290 (by decide) ?_
      refine o_about hlt cx cl HQ J 12 (r0 := (ovr (P_X4_rawOf pg 0 (pg 4)))) ((ab_hi (j := 11) (by decide) (by decide) (by decide) (by decide)).trans (pk_11 hc)) hP hD hS gL_presses_L_tryAbout ⟨Nat.le_of_ble_eq_true rfl, Nat.le_of_ble_eq_true rfl⟩ hl (Nat.le_of_ble_eq_true rfl) dL_presses_292 ⟨Nat.le_of_ble_eq_true rfl, Nat.le_of_ble_eq_true rfl⟩ (fun H locs hP hD hS => ?_)
      refine lv_iload hx hb dL_presses_295 (lv_at hl 1 rfl) ?_
      have hj305 : W p l e rmL_presses s m args below meth c H locs 25 150 (MQ below (qG G (fun x : XT => wB G d x []) (fun r x => r = 1 ∧ JNV x n tt (P_X4_pressOn pg 0).2 (push hs pg) k0 k1) A) args s 32 192 A) (F0 m 305 ls [.int (ovr (P_X4_rawOf pg 0 (pg 4))), .int (ovr (P_X4_rawOf pg 0 (pg 4)))]) := by
        refine lv_icmp_ne (tgt := 365) hx hb dL_presses_305 (by decide) (fun c9 => absurd rfl c9) (fun c9 => ?_)
        refine lv_aload_n hx hb dL_presses_308 rfl (lv_at hl 8 rfl) ?_
        refine lv_bipush (v := 15) hx hb dL_presses_309 (by decide) ?_
        refine o_about hlt cx cl HQ J 15 (r0 := ((pg 14) + (ovr (P_X4_rawOf pg 0 (pg 4))))) ((ab_hi (j := 14) (by decide) (by decide) (by decide) (by decide)).trans pk_14) hP hD hS gL_presses_L_tryAbout ⟨Nat.le_of_ble_eq_true rfl, Nat.le_of_ble_eq_true rfl⟩ hl (Nat.le_of_ble_eq_true rfl) dL_presses_311 ⟨Nat.le_of_ble_eq_true rfl, Nat.le_of_ble_eq_true rfl⟩ (fun H locs hP hD hS => ?_)
        refine lv_iload hx hb dL_presses_314 (lv_at hl 3 rfl) ?_
        refine lv_iload hx hb dL_presses_316 (lv_at hl 1 rfl) ?_
        have hj326 : W p l e rmL_presses s m args below meth c H locs 26 156 (MQ below (qG G (fun x : XT => wB G d x []) (fun r x => r = 1 ∧ JNV x n tt (P_X4_pressOn pg 0).2 (push hs pg) k0 k1) A) args s 32 192 A) (F0 m 326 ls [.int (ovr (P_X4_rawOf pg 0 (pg 4))), .int (pg 14), .int ((pg 14) + (ovr (P_X4_rawOf pg 0 (pg 4))))]) := by
          refine lv_iadd hx hb dL_presses_326 ?_
          refine lv_icmp_ne (tgt := 365) hx hb dL_presses_327 (by decide) (fun c9 => absurd rfl c9) (fun c9 => ?_)
          refine lv_aload_n hx hb dL_presses_330 rfl (lv_at hl 8 rfl) ?_
          refine lv_bipush (v := 8) hx hb dL_presses_331 (by decide) ?_
          refine o_about hlt cx cl HQ J 8 (r0 := (P_X4_offsetOf ((P_X4_pressOn pg 0).2))) ab_8 hP hD hS gL_presses_L_tryAbout ⟨Nat.le_of_ble_eq_true rfl, Nat.le_of_ble_eq_true rfl⟩ hl (Nat.le_of_ble_eq_true rfl) dL_presses_333 ⟨Nat.le_of_ble_eq_true rfl, Nat.le_of_ble_eq_true rfl⟩ (fun H locs hP hD hS => ?_)
          refine lv_aload_n hx hb dL_presses_336 rfl (lv_at hl 8 rfl) ?_
          refine lv_iconst (v := 5) hx hb dL_presses_337 (by decide) ?_
          refine o_about hlt cx cl HQ J 5 (r0 := ((P_X4_pressOn pg 0).2 5)) (ab_lo (j := 5) (by decide) (by decide) (by decide)) hP hD hS gL_presses_L_tryAbout ⟨Nat.le_of_ble_eq_true rfl, Nat.le_of_ble_eq_true rfl⟩ hl (Nat.le_of_ble_eq_true rfl) dL_presses_338 ⟨Nat.le_of_ble_eq_true rfl, Nat.le_of_ble_eq_true rfl⟩ (fun H locs hP hD hS => ?_)
          refine lv_aload_n hx hb dL_presses_341 rfl (lv_at hl 8 rfl) ?_
          refine lv_bipush (v := 7) hx hb dL_presses_342 (by decide) ?_
          refine o_about hlt cx cl HQ J 7 (r0 := ((P_X4_pressOn pg 0).2 7)) (ab_lo (j := 7) (by decide) (by decide) (by decide)) hP hD hS gL_presses_L_tryAbout ⟨Nat.le_of_ble_eq_true rfl, Nat.le_of_ble_eq_true rfl⟩ hl (Nat.le_of_ble_eq_true rfl) dL_presses_344 ⟨Nat.le_of_ble_eq_true rfl, Nat.le_of_ble_eq_true rfl⟩ (fun H locs hP hD hS => ?_)
          refine lv_aload_n hx hb dL_presses_347 rfl (lv_at hl 8 rfl) ?_
          refine lv_bipush (v := 6) hx hb dL_presses_348 (by decide) ?_
          refine o_about hlt cx cl HQ J 6 (r0 := ((P_X4_pressOn pg 0).2 6)) (ab_lo (j := 6) (by decide) (by decide) (by decide)) hP hD hS gL_presses_L_tryAbout ⟨Nat.le_of_ble_eq_true rfl, Nat.le_of_ble_eq_true rfl⟩ hl (Nat.le_of_ble_eq_true rfl) dL_presses_350 ⟨Nat.le_of_ble_eq_true rfl, Nat.le_of_ble_eq_true rfl⟩ (fun H locs hP hD hS => ?_)
          refine lv_imul hx hb dL_presses_353 ?_
          refine lv_bipush (v := 100) hx hb dL_presses_354 (by decide) ?_
          refine lv_idiv hx hb dL_presses_356 (by decide) ?_
          refine lv_iadd hx hb dL_presses_357 ?_
          refine lv_icmp_ne (tgt := 365) hx hb dL_presses_358 (by decide) (fun c9 => absurd rfl c9) (fun c9 => ?_)
          refine lv_iconst (v := 1) hx hb dL_presses_361 (by decide) ?_
          refine lv_goto (tgt := 366) hx hb dL_presses_362 (by decide) ?_
          exact k_retG (u := x) cx (nz (Or.inr rfl)) ⟨rfl, J⟩ hP hS ⟨Nat.le_of_ble_eq_true rfl, Nat.le_of_ble_eq_true rfl⟩ dL_presses_366
        refine lv_if_eq (tgt := 325) hx hb dL_presses_318 (by decide) (fun c318 => ?_) (fun c318 => ?_)
        · refine lv_iconst (v := 0) hx hb dL_presses_325 (by decide) ?_
          exact k_top (v' := (ovr (P_X4_rawOf pg 0 (pg 4)))) c318.symm hj326
        · refine lv_iconst (v := 1) hx hb dL_presses_321 (by decide) ?_
          refine lv_goto (tgt := 326) hx hb dL_presses_322 (by decide) ?_
          exact k_top (v' := (ovr (P_X4_rawOf pg 0 (pg 4)))) (ovr_n c318) hj326
      refine lv_if_eq (tgt := 304) hx hb dL_presses_297 (by decide) (fun c297 => ?_) (fun c297 => ?_)
      · refine lv_iconst (v := 0) hx hb dL_presses_304 (by decide) ?_
        exact k_top (v' := (ovr (P_X4_rawOf pg 0 (pg 4)))) c297.symm hj305
      · refine lv_iconst (v := 1) hx hb dL_presses_300 (by decide) ?_
        refine lv_goto (tgt := 305) hx hb dL_presses_301 (by decide) ?_
        exact k_top (v' := (ovr (P_X4_rawOf pg 0 (pg 4)))) (ovr_n c297) hj305
    refine lv_icmp_le (tgt := 259) hx hb dL_presses_250 (by decide) (fun c250 => ?_) (fun c250 => ?_)
    · refine lv_iload hx hb dL_presses_259 (lv_at hl 5 rfl) ?_
      exact k_top (v' := (if ((pg 7) + (pg 3)) ≤ 9999 then ((pg 7) + (pg 3)) else 9999)) (by rw [if_pos c250]) hj261
    · refine lv_sipush (v := 9999) hx hb dL_presses_253 (by decide) ?_
      refine lv_goto (tgt := 261) hx hb dL_presses_256 (by decide) ?_
      exact k_top (v' := (if ((pg 7) + (pg 3)) ≤ 9999 then ((pg 7) + (pg 3)) else 9999)) (by rw [if_neg c250]) hj261
  refine lv_icmp_lt (tgt := 99) hx hb dL_presses_89 (by decide) (fun c86 => ?_) (fun c86 => ?_)
  · refine lv_iconst (v := 1) hx hb dL_presses_99 (by decide) ?_
    refine lv_goto (tgt := 104) hx hb dL_presses_100 (by decide) ?_
    exact k_top (v' := (ovr (P_X4_rawOf pg 0 (pg 4)))) (by unfold ovr; first | rw [if_pos c86] | rw [if_neg c86, if_neg c96] | rw [if_neg c86, if_pos c96]) hj104
  · refine lv_iload_n hx hb dL_presses_92 rfl (lv_at hl 5 rfl) ?_
    refine lv_sipush (v := 5000) hx hb dL_presses_93 (by decide) ?_
    refine lv_icmp_le (tgt := 103) hx hb dL_presses_96 (by decide) (fun c96 => ?_) (fun c96 => ?_)
    · refine lv_iconst (v := 0) hx hb dL_presses_103 (by decide) ?_
      exact k_top (v' := (ovr (P_X4_rawOf pg 0 (pg 4)))) (by unfold ovr; first | rw [if_pos c86] | rw [if_neg c86, if_neg c96] | rw [if_neg c86, if_pos c96]) hj104
    · refine lv_iconst (v := 1) hx hb dL_presses_99 (by decide) ?_
      refine lv_goto (tgt := 104) hx hb dL_presses_100 (by decide) ?_
      exact k_top (v' := (ovr (P_X4_rawOf pg 0 (pg 4)))) (by unfold ovr; first | rw [if_pos c86] | rw [if_neg c86, if_neg c96] | rw [if_neg c86, if_pos c96]) hj104

set_option maxRecDepth 100000 in
set_option maxHeartbeats 16000000 in
theorem c_L_presses_t (l : Launch) (hlt : l.stackTraces = false) (G : gG) (b L : Nat) (xs : Nat → Int32) (d : AD) (HQ : PQd d) (n : Int32) (tt pg : Pg) (hs : List Pg) (k0 k1 : Option Pg) (hc : pg 11 = 0) : kG l G yL_presses wsL_presses rmL_presses [.ref d.1, .int 1] b L xs (fun x : XT => wB G d x []) (fun x => JNV x n tt pg hs k0 k1) (fun r x => r = 1 ∧ JNV x n tt (P_X4_pressOn pg 1).2 (push hs pg) k0 k1) 32 192 := by
  refine k_bodyG (cc := cL_presses) (nL := 10) (ret := some .boolean) (by decide) rfl (Nat.le_of_ble_eq_true rfl) ?_
  intro x hI
  intro p e s m args below meth c A cx cl H locs hP hD hS ls hl
  obtain ⟨hx, hb, hml, hown, hts, hr, hlocks, hK, hA⟩ := id cx
  have hl : lv_has ls 10 [(0, .ref d.1), (1, .int 1)] := hl
  have hP : va_P G.1 vwCl (wB G d x []) H := hP
  have hD : va_D A (wB G d x []) := hD
  have J : JNV x n tt pg hs k0 k1 := hI
  have J0 := J
  refine lv_aload_n hx hb dL_presses_0 rfl (lv_at hl 0 rfl) ?_
  refine lv_bipush (v := 12) hx hb dL_presses_1 (by decide) ?_
  refine o_about hlt cx cl HQ J 12 (r0 := (pg 11)) (ab_hi (j := 11) (by decide) (by decide) (by decide) (by decide)) hP hD hS gL_presses_L_tryAbout ⟨Nat.le_of_ble_eq_true rfl, Nat.le_of_ble_eq_true rfl⟩ hl (Nat.le_of_ble_eq_true rfl) dL_presses_3 ⟨Nat.le_of_ble_eq_true rfl, Nat.le_of_ble_eq_true rfl⟩ (fun H locs hP hD hS => ?_)
  refine lv_iconst (v := 1) hx hb dL_presses_6 (by decide) ?_
  refine lv_icmp_ne (tgt := 26) hx hb dL_presses_7 (by decide) (fun c9 => ?_) (fun c9 => absurd c9 (by rw [hc]; decide))
  refine lv_aload_n hx hb dL_presses_26 rfl (lv_at hl 0 rfl) ?_
  refine lv_iload_n hx hb dL_presses_27 rfl (lv_at hl 1 rfl) ?_
  refine lv_if_eq (tgt := 35) hx hb dL_presses_28 (by decide) (fun c9 => absurd c9 (by decide)) (fun c9 => ?_)
  refine lv_iconst (v := 4) hx hb dL_presses_31 (by decide) ?_
  refine lv_goto (tgt := 36) hx hb dL_presses_32 (by decide) ?_
  refine o_bridge hlt cx cl HQ J 4 (r0 := (P_X4_rawOf pg 1 (pg 4))) br_4 hP hD hS gL_presses_L_tryBridge ⟨Nat.le_of_ble_eq_true rfl, Nat.le_of_ble_eq_true rfl⟩ hl (Nat.le_of_ble_eq_true rfl) dL_presses_36 ⟨Nat.le_of_ble_eq_true rfl, Nat.le_of_ble_eq_true rfl⟩ (fun H locs hP hD hS => ?_)
  refine lv_istore_n (lv' := [(2, .int (P_X4_rawOf pg 1 (pg 4))), (0, .ref d.1), (1, .int 1)]) hx hb dL_presses_39 rfl hl (by decide) rfl (fun ls hl => ?_)
  refine lv_aload_n hx hb dL_presses_40 rfl (lv_at hl 1 rfl) ?_
  refine lv_bipush (v := 9) hx hb dL_presses_41 (by decide) ?_
  refine o_about hlt cx cl HQ J 9 (r0 := (pg 8)) (ab_hi (j := 8) (by decide) (by decide) (by decide) (by decide)) hP hD hS gL_presses_L_tryAbout ⟨Nat.le_of_ble_eq_true rfl, Nat.le_of_ble_eq_true rfl⟩ hl (Nat.le_of_ble_eq_true rfl) dL_presses_43 ⟨Nat.le_of_ble_eq_true rfl, Nat.le_of_ble_eq_true rfl⟩ (fun H locs hP hD hS => ?_)
  refine lv_istore_n (lv' := [(3, .int (pg 8)), (2, .int (P_X4_rawOf pg 1 (pg 4))), (0, .ref d.1), (1, .int 1)]) hx hb dL_presses_46 rfl hl (by decide) rfl (fun ls hl => ?_)
  refine lv_aload_n hx hb dL_presses_47 rfl (lv_at hl 2 rfl) ?_
  refine lv_bipush (v := 7) hx hb dL_presses_48 (by decide) ?_
  refine o_about hlt cx cl HQ J 7 (r0 := (pg 7)) (ab_lo (j := 7) (by decide) (by decide) (by decide)) hP hD hS gL_presses_L_tryAbout ⟨Nat.le_of_ble_eq_true rfl, Nat.le_of_ble_eq_true rfl⟩ hl (Nat.le_of_ble_eq_true rfl) dL_presses_50 ⟨Nat.le_of_ble_eq_true rfl, Nat.le_of_ble_eq_true rfl⟩ (fun H locs hP hD hS => ?_)
  refine lv_aload_n hx hb dL_presses_53 rfl (lv_at hl 2 rfl) ?_
  refine lv_iconst (v := 3) hx hb dL_presses_54 (by decide) ?_
  refine o_about hlt cx cl HQ J 3 (r0 := (pg 3)) (ab_lo (j := 3) (by decide) (by decide) (by decide)) hP hD hS gL_presses_L_tryAbout ⟨Nat.le_of_ble_eq_true rfl, Nat.le_of_ble_eq_true rfl⟩ hl (Nat.le_of_ble_eq_true rfl) dL_presses_55 ⟨Nat.le_of_ble_eq_true rfl, Nat.le_of_ble_eq_true rfl⟩ (fun H locs hP hD hS => ?_)
  refine lv_iadd hx hb dL_presses_58 ?_
  refine lv_istore (lv' := [(4, .int ((pg 7) + (pg 3))), (3, .int (pg 8)), (2, .int (P_X4_rawOf pg 1 (pg 4))), (0, .ref d.1), (1, .int 1)]) hx hb dL_presses_59 hl (by decide) rfl (fun ls hl => ?_)
  refine lv_aload_n hx hb dL_presses_61 rfl (lv_at hl 3 rfl) ?_
  refine lv_bipush (v := 14) hx hb dL_presses_62 (by decide) ?_
  refine o_about hlt cx cl HQ J 14 (r0 := (pg 13)) (ab_hi (j := 13) (by decide) (by decide) (by decide) (by decide)) hP hD hS gL_presses_L_tryAbout ⟨Nat.le_of_ble_eq_true rfl, Nat.le_of_ble_eq_true rfl⟩ hl (Nat.le_of_ble_eq_true rfl) dL_presses_64 ⟨Nat.le_of_ble_eq_true rfl, Nat.le_of_ble_eq_true rfl⟩ (fun H locs hP hD hS => ?_)
  refine lv_istore (lv' := [(5, .int (pg 13)), (4, .int ((pg 7) + (pg 3))), (3, .int (pg 8)), (2, .int (P_X4_rawOf pg 1 (pg 4))), (0, .ref d.1), (1, .int 1)]) hx hb dL_presses_67 hl (by decide) rfl (fun ls hl => ?_)
  refine lv_aload_n hx hb dL_presses_69 rfl (lv_at hl 4 rfl) ?_
  refine lv_bipush (v := 15) hx hb dL_presses_70 (by decide) ?_
  refine o_about hlt cx cl HQ J 15 (r0 := (pg 14)) (ab_hi (j := 14) (by decide) (by decide) (by decide) (by decide)) hP hD hS gL_presses_L_tryAbout ⟨Nat.le_of_ble_eq_true rfl, Nat.le_of_ble_eq_true rfl⟩ hl (Nat.le_of_ble_eq_true rfl) dL_presses_72 ⟨Nat.le_of_ble_eq_true rfl, Nat.le_of_ble_eq_true rfl⟩ (fun H locs hP hD hS => ?_)
  refine lv_istore (lv' := [(6, .int (pg 14)), (5, .int (pg 13)), (4, .int ((pg 7) + (pg 3))), (3, .int (pg 8)), (2, .int (P_X4_rawOf pg 1 (pg 4))), (0, .ref d.1), (1, .int 1)]) hx hb dL_presses_75 hl (by decide) rfl (fun ls hl => ?_)
  refine lv_aload_n hx hb dL_presses_77 rfl (lv_at hl 5 rfl) ?_
  refine lv_iconst (v := 0) hx hb dL_presses_78 (by decide) ?_
  refine lv_iconst (v := 0) hx hb dL_presses_79 (by decide) ?_
  refine o_told hlt cx cl HQ J 0 0 (r0 := (if pg 12 ≤ 0 then (-9999) else (pg 21))) (td_0 (j := 21) (by decide) (by decide)) hP hD hS gL_presses_L_tryTold ⟨Nat.le_of_ble_eq_true rfl, Nat.le_of_ble_eq_true rfl⟩ hl (Nat.le_of_ble_eq_true rfl) dL_presses_80 ⟨Nat.le_of_ble_eq_true rfl, Nat.le_of_ble_eq_true rfl⟩ (fun H locs hP hD hS => ?_)
  refine lv_istore (lv' := [(7, .int (if pg 12 ≤ 0 then (-9999) else (pg 21))), (6, .int (pg 14)), (5, .int (pg 13)), (4, .int ((pg 7) + (pg 3))), (3, .int (pg 8)), (2, .int (P_X4_rawOf pg 1 (pg 4))), (0, .ref d.1), (1, .int 1)]) hx hb dL_presses_83 hl (by decide) rfl (fun ls hl => ?_)
  refine lv_iload_n hx hb dL_presses_85 rfl (lv_at hl 5 rfl) ?_
  refine lv_sipush (v := (-5000)) hx hb dL_presses_86 (by decide) ?_
  have hj104 : W p l e rmL_presses s m args below meth c H locs 8 48 (MQ below (qG G (fun x : XT => wB G d x []) (fun r x => r = 1 ∧ JNV x n tt (P_X4_pressOn pg 1).2 (push hs pg) k0 k1) A) args s 32 192 A) (F0 m 104 ls [.int (ovr (P_X4_rawOf pg 1 (pg 4)))]) := by
    refine lv_istore (lv' := [(8, .int (ovr (P_X4_rawOf pg 1 (pg 4)))), (7, .int (if pg 12 ≤ 0 then (-9999) else (pg 21))), (6, .int (pg 14)), (5, .int (pg 13)), (4, .int ((pg 7) + (pg 3))), (3, .int (pg 8)), (2, .int (P_X4_rawOf pg 1 (pg 4))), (0, .ref d.1), (1, .int 1)]) hx hb dL_presses_104 hl (by decide) rfl (fun ls hl => ?_)
    refine lv_aload_n hx hb dL_presses_106 rfl (lv_at hl 7 rfl) ?_
    refine lv_iconst (v := 3) hx hb dL_presses_107 (by decide) ?_
    refine o_bridge hlt cx cl HQ J 3 (r0 := (P_X4_rawOf pg 0 (pg 4))) br_3 hP hD hS gL_presses_L_tryBridge ⟨Nat.le_of_ble_eq_true rfl, Nat.le_of_ble_eq_true rfl⟩ hl (Nat.le_of_ble_eq_true rfl) dL_presses_108 ⟨Nat.le_of_ble_eq_true rfl, Nat.le_of_ble_eq_true rfl⟩ (fun H locs hP hD hS => ?_)
    refine lv_aload_n hx hb dL_presses_111 rfl (lv_at hl 7 rfl) ?_
    refine lv_iconst (v := 4) hx hb dL_presses_112 (by decide) ?_
    refine o_bridge hlt cx cl HQ J 4 (r0 := (P_X4_rawOf pg 1 (pg 4))) br_4 hP hD hS gL_presses_L_tryBridge ⟨Nat.le_of_ble_eq_true rfl, Nat.le_of_ble_eq_true rfl⟩ hl (Nat.le_of_ble_eq_true rfl) dL_presses_113 ⟨Nat.le_of_ble_eq_true rfl, Nat.le_of_ble_eq_true rfl⟩ (fun H locs hP hD hS => ?_)
    refine lv_iadd hx hb dL_presses_116 ?_
    refine lv_iconst (v := 2) hx hb dL_presses_117 (by decide) ?_
    refine lv_aload_n hx hb dL_presses_118 rfl (lv_at hl 7 rfl) ?_
    refine lv_bipush (v := 8) hx hb dL_presses_119 (by decide) ?_
    refine o_about hlt cx cl HQ J 8 (r0 := (P_X4_offsetOf pg)) ab_8 hP hD hS gL_presses_L_tryAbout ⟨Nat.le_of_ble_eq_true rfl, Nat.le_of_ble_eq_true rfl⟩ hl (Nat.le_of_ble_eq_true rfl) dL_presses_121 ⟨Nat.le_of_ble_eq_true rfl, Nat.le_of_ble_eq_true rfl⟩ (fun H locs hP hD hS => ?_)
    refine lv_imul hx hb dL_presses_124 ?_
    refine lv_icmp_ne (tgt := 153) hx hb dL_presses_125 (by decide) (fun c9 => absurd (pr_sum J0.pv J0.rg) c9) (fun c9 => ?_)
    refine lv_aload_n hx hb dL_presses_128 rfl (lv_at hl 7 rfl) ?_
    refine lv_iconst (v := 3) hx hb dL_presses_129 (by decide) ?_
    refine o_bridge hlt cx cl HQ J 3 (r0 := (P_X4_rawOf pg 0 (pg 4))) br_3 hP hD hS gL_presses_L_tryBridge ⟨Nat.le_of_ble_eq_true rfl, Nat.le_of_ble_eq_true rfl⟩ hl (Nat.le_of_ble_eq_true rfl) dL_presses_130 ⟨Nat.le_of_ble_eq_true rfl, Nat.le_of_ble_eq_true rfl⟩ (fun H locs hP hD hS => ?_)
    refine lv_aload_n hx hb dL_presses_133 rfl (lv_at hl 7 rfl) ?_
    refine lv_iconst (v := 4) hx hb dL_presses_134 (by decide) ?_
    refine o_bridge hlt cx cl HQ J 4 (r0 := (P_X4_rawOf pg 1 (pg 4))) br_4 hP hD hS gL_presses_L_tryBridge ⟨Nat.le_of_ble_eq_true rfl, Nat.le_of_ble_eq_true rfl⟩ hl (Nat.le_of_ble_eq_true rfl) dL_presses_135 ⟨Nat.le_of_ble_eq_true rfl, Nat.le_of_ble_eq_true rfl⟩ (fun H locs hP hD hS => ?_)
    refine lv_isub hx hb dL_presses_138 ?_
    refine lv_iconst (v := 2) hx hb dL_presses_139 (by decide) ?_
    refine lv_aload_n hx hb dL_presses_140 rfl (lv_at hl 7 rfl) ?_
    refine lv_iconst (v := 2) hx hb dL_presses_141 (by decide) ?_
    refine o_bridge hlt cx cl HQ J 2 (r0 := (P_X4_trueOf pg (pg 2) (pg 4))) br_2 hP hD hS gL_presses_L_tryBridge ⟨Nat.le_of_ble_eq_true rfl, Nat.le_of_ble_eq_true rfl⟩ hl (Nat.le_of_ble_eq_true rfl) dL_presses_142 ⟨Nat.le_of_ble_eq_true rfl, Nat.le_of_ble_eq_true rfl⟩ (fun H locs hP hD hS => ?_)
    refine lv_imul hx hb dL_presses_145 ?_
    refine lv_icmp_ne (tgt := 153) hx hb dL_presses_146 (by decide) (fun c9 => absurd (pr_dif J0.pv J0.rg) c9) (fun c9 => ?_)
    refine lv_iconst (v := 1) hx hb dL_presses_149 (by decide) ?_
    refine lv_goto (tgt := 154) hx hb dL_presses_150 (by decide) ?_
    refine lv_istore (lv' := [(9, .int 1), (8, .int (ovr (P_X4_rawOf pg 1 (pg 4)))), (7, .int (if pg 12 ≤ 0 then (-9999) else (pg 21))), (6, .int (pg 14)), (5, .int (pg 13)), (4, .int ((pg 7) + (pg 3))), (3, .int (pg 8)), (2, .int (P_X4_rawOf pg 1 (pg 4))), (0, .ref d.1), (1, .int 1)]) hx hb dL_presses_154 hl (by decide) rfl (fun ls hl => ?_)
    refine lv_iload hx hb dL_presses_156 (lv_at hl 0 rfl) ?_
    refine lv_if_eq (tgt := 365) hx hb dL_presses_158 (by decide) (fun c9 => absurd c9 (by decide)) (fun c9 => ?_)
    refine lv_aload_n hx hb dL_presses_161 rfl (lv_at hl 8 rfl) ?_
    refine lv_iload_n hx hb dL_presses_162 rfl (lv_at hl 9 rfl) ?_
    refine o_press hlt cx cl HQ J 1 hc (r0 := (rd500 (P_X4_rawOf pg 1 (pg 4)))) pk_r hP hD hS gL_presses_L_tryPress ⟨Nat.le_of_ble_eq_true rfl, Nat.le_of_ble_eq_true rfl⟩ hl (Nat.le_of_ble_eq_true rfl) dL_presses_163 ⟨Nat.le_of_ble_eq_true rfl, Nat.le_of_ble_eq_true rfl⟩ (fun x H locs J hP hD hS => ?_)
    have J : JNV x n tt ((P_X4_pressOn pg 1).2) (push hs pg) k0 k1 := J
    refine lv_iload_n hx hb dL_presses_166 rfl (lv_at hl 7 rfl) ?_
    refine kc0 (n := 1) (As := [.int (P_X4_rawOf pg 1 (pg 4))]) cx cl (c_L_limited l hlt G b L xs (P_X4_rawOf pg 1 (pg 4))) trivial hP hD hS gL_presses_L_limited rfl rfl rfl (by decide +kernel) ⟨Nat.le_of_ble_eq_true rfl, Nat.le_of_ble_eq_true rfl⟩ rfl rfl hl (Nat.le_of_ble_eq_true rfl) dL_presses_167 ⟨Nat.le_of_ble_eq_true rfl, Nat.le_of_ble_eq_true rfl⟩ (fun r9 H locs h9 hP hD hS => ?_)
    rw [h9]
    refine lv_icmp_ne (tgt := 365) hx hb dL_presses_170 (by decide) (fun c9 => absurd rfl c9) (fun c9 => ?_)
    refine lv_aload_n hx hb dL_presses_173 rfl (lv_at hl 8 rfl) ?_
    refine lv_iconst (v := 0) hx hb dL_presses_174 (by decide) ?_
    refine lv_iconst (v := 0) hx hb dL_presses_175 (by decide) ?_
    refine o_told hlt cx cl HQ J 0 0 (r0 := (rd500 (P_X4_rawOf pg 1 (pg 4)))) (pk_t (j := 21) J0.pv (by decide) (by decide) pk_21) hP hD hS gL_presses_L_tryTold ⟨Nat.le_of_ble_eq_true rfl, Nat.le_of_ble_eq_true rfl⟩ hl (Nat.le_of_ble_eq_true rfl) dL_presses_176 ⟨Nat.le_of_ble_eq_true rfl, Nat.le_of_ble_eq_true rfl⟩ (fun H locs hP hD hS => ?_)
    refine lv_iload_n hx hb dL_presses_179 rfl (lv_at hl 7 rfl) ?_
    refine kc0 (n := 1) (As := [.int (P_X4_rawOf pg 1 (pg 4))]) cx cl (c_L_limited l hlt G b L xs (P_X4_rawOf pg 1 (pg 4))) trivial hP hD hS gL_presses_L_limited rfl rfl rfl (by decide +kernel) ⟨Nat.le_of_ble_eq_true rfl, Nat.le_of_ble_eq_true rfl⟩ rfl rfl hl (Nat.le_of_ble_eq_true rfl) dL_presses_180 ⟨Nat.le_of_ble_eq_true rfl, Nat.le_of_ble_eq_true rfl⟩ (fun r9 H locs h9 hP hD hS => ?_)
    rw [h9]
    refine lv_icmp_ne (tgt := 365) hx hb dL_presses_183 (by decide) (fun c9 => absurd rfl c9) (fun c9 => ?_)
    refine lv_aload_n hx hb dL_presses_186 rfl (lv_at hl 8 rfl) ?_
    refine lv_iconst (v := 1) hx hb dL_presses_187 (by decide) ?_
    refine lv_iconst (v := 0) hx hb dL_presses_188 (by decide) ?_
    refine o_told hlt cx cl HQ J 1 0 (r0 := (if pg 12 ≤ 0 then (-9999) else (pg 21))) (pk_t1 J0.pv) hP hD hS gL_presses_L_tryTold ⟨Nat.le_of_ble_eq_true rfl, Nat.le_of_ble_eq_true rfl⟩ hl (Nat.le_of_ble_eq_true rfl) dL_presses_189 ⟨Nat.le_of_ble_eq_true rfl, Nat.le_of_ble_eq_true rfl⟩ (fun H locs hP hD hS => ?_)
    refine lv_iload hx hb dL_presses_192 (lv_at hl 2 rfl) ?_
    refine lv_icmp_ne (tgt := 365) hx hb dL_presses_194 (by decide) (fun c9 => absurd rfl c9) (fun c9 => ?_)
    refine lv_aload_n hx hb dL_presses_197 rfl (lv_at hl 8 rfl) ?_
    refine lv_iconst (v := 0) hx hb dL_presses_198 (by decide) ?_
    refine lv_iconst (v := 1) hx hb dL_presses_199 (by decide) ?_
    refine o_told hlt cx cl HQ J 0 1 (r0 := (-1)) (pk_t (j := 22) J0.pv (by decide) (by decide) (pk_22.trans (by decide))) hP hD hS gL_presses_L_tryTold ⟨Nat.le_of_ble_eq_true rfl, Nat.le_of_ble_eq_true rfl⟩ hl (Nat.le_of_ble_eq_true rfl) dL_presses_200 ⟨Nat.le_of_ble_eq_true rfl, Nat.le_of_ble_eq_true rfl⟩ (fun H locs hP hD hS => ?_)
    refine lv_iload_n hx hb dL_presses_203 rfl (lv_at hl 9 rfl) ?_
    refine lv_if_eq (tgt := 211) hx hb dL_presses_204 (by decide) (fun c9 => absurd c9 (by decide)) (fun c9 => ?_)
    refine lv_iconst (v := (-1)) hx hb dL_presses_207 (by decide) ?_
    refine lv_goto (tgt := 212) hx hb dL_presses_208 (by decide) ?_
    refine lv_icmp_ne (tgt := 365) hx hb dL_presses_212 (by decide) (fun c9 => absurd (by decide) c9) (fun c9 => ?_)
    refine lv_aload_n hx hb dL_presses_215 rfl (lv_at hl 8 rfl) ?_
    refine lv_iconst (v := 0) hx hb dL_presses_216 (by decide) ?_
    refine lv_iconst (v := 2) hx hb dL_presses_217 (by decide) ?_
    refine o_told hlt cx cl HQ J 0 2 (r0 := (pg 2)) (pk_t (j := 23) J0.pv (by decide) (by decide) pk_23) hP hD hS gL_presses_L_tryTold ⟨Nat.le_of_ble_eq_true rfl, Nat.le_of_ble_eq_true rfl⟩ hl (Nat.le_of_ble_eq_true rfl) dL_presses_218 ⟨Nat.le_of_ble_eq_true rfl, Nat.le_of_ble_eq_true rfl⟩ (fun H locs hP hD hS => ?_)
    refine lv_aload_n hx hb dL_presses_221 rfl (lv_at hl 8 rfl) ?_
    refine lv_iconst (v := 2) hx hb dL_presses_222 (by decide) ?_
    refine o_about hlt cx cl HQ J 2 (r0 := (pg 2)) ((ab_lo (j := 2) (by decide) (by decide) (by decide)).trans (pk_lo (j := 2) (by decide) (by decide) (by decide) (by decide) (by decide) (by decide) (by decide))) hP hD hS gL_presses_L_tryAbout ⟨Nat.le_of_ble_eq_true rfl, Nat.le_of_ble_eq_true rfl⟩ hl (Nat.le_of_ble_eq_true rfl) dL_presses_223 ⟨Nat.le_of_ble_eq_true rfl, Nat.le_of_ble_eq_true rfl⟩ (fun H locs hP hD hS => ?_)
    refine lv_icmp_ne (tgt := 365) hx hb dL_presses_226 (by decide) (fun c9 => absurd rfl c9) (fun c9 => ?_)
    refine lv_aload_n hx hb dL_presses_229 rfl (lv_at hl 8 rfl) ?_
    refine lv_iconst (v := 0) hx hb dL_presses_230 (by decide) ?_
    refine lv_iconst (v := 3) hx hb dL_presses_231 (by decide) ?_
    refine o_told hlt cx cl HQ J 0 3 (r0 := (pg 8)) (pk_t (j := 24) J0.pv (by decide) (by decide) pk_24) hP hD hS gL_presses_L_tryTold ⟨Nat.le_of_ble_eq_true rfl, Nat.le_of_ble_eq_true rfl⟩ hl (Nat.le_of_ble_eq_true rfl) dL_presses_232 ⟨Nat.le_of_ble_eq_true rfl, Nat.le_of_ble_eq_true rfl⟩ (fun H locs hP hD hS => ?_)
    refine lv_iload_n hx hb dL_presses_235 rfl (lv_at hl 6 rfl) ?_
    refine lv_icmp_ne (tgt := 365) hx hb dL_presses_236 (by decide) (fun c9 => absurd rfl c9) (fun c9 => ?_)
    refine lv_aload_n hx hb dL_presses_239 rfl (lv_at hl 8 rfl) ?_
    refine lv_bipush (v := 7) hx hb dL_presses_240 (by decide) ?_
    refine o_about hlt cx cl HQ J 7 (r0 := (if ((pg 7) + (pg 3)) ≤ 9999 then ((pg 7) + (pg 3)) else 9999)) ((ab_lo (j := 7) (by decide) (by decide) (by decide)).trans pk_7) hP hD hS gL_presses_L_tryAbout ⟨Nat.le_of_ble_eq_true rfl, Nat.le_of_ble_eq_true rfl⟩ hl (Nat.le_of_ble_eq_true rfl) dL_presses_242 ⟨Nat.le_of_ble_eq_true rfl, Nat.le_of_ble_eq_true rfl⟩ (fun H locs hP hD hS => ?_)
    refine lv_iload hx hb dL_presses_245 (lv_at hl 5 rfl) ?_
    refine lv_sipush (v := 9999) hx hb dL_presses_247 (by decide) ?_
    have hj261 : W p l e rmL_presses s m args below meth c H locs 22 132 (MQ below (qG G (fun x : XT => wB G d x []) (fun r x => r = 1 ∧ JNV x n tt (P_X4_pressOn pg 1).2 (push hs pg) k0 k1) A) args s 32 192 A) (F0 m 261 ls [.int (if ((pg 7) + (pg 3)) ≤ 9999 then ((pg 7) + (pg 3)) else 9999), .int (if ((pg 7) + (pg 3)) ≤ 9999 then ((pg 7) + (pg 3)) else 9999)]) := by
      refine lv_icmp_ne (tgt := 365) hx hb dL_presses_261 (by decide) (fun c9 => absurd rfl c9) (fun c9 => ?_)
      refine lv_aload_n hx hb dL_presses_264 rfl (lv_at hl 8 rfl) ?_
      refine lv_bipush (v := 9) hx hb dL_presses_265 (by decide) ?_
      refine o_about hlt cx cl HQ J 9 (r0 := ((pg 8) + 1)) ((ab_hi (j := 8) (by decide) (by decide) (by decide) (by decide)).trans pk_8) hP hD hS gL_presses_L_tryAbout ⟨Nat.le_of_ble_eq_true rfl, Nat.le_of_ble_eq_true rfl⟩ hl (Nat.le_of_ble_eq_true rfl) dL_presses_267 ⟨Nat.le_of_ble_eq_true rfl, Nat.le_of_ble_eq_true rfl⟩ (fun H locs hP hD hS => ?_)
      refine lv_iload_n hx hb dL_presses_270 rfl (lv_at hl 6 rfl) ?_
      refine lv_iconst (v := 1) hx hb dL_presses_271 (by decide) ?_
      refine lv_iadd hx hb dL_presses_272 ?_
      refine lv_icmp_ne (tgt := 365) hx hb dL_presses_273 (by decide) (fun c9 => absurd rfl c9) (fun c9 => ?_)
      refine lv_aload_n hx hb dL_presses_276 rfl (lv_at hl 8 rfl) ?_
      refine lv_bipush (v := 14) hx hb dL_presses_277 (by decide) ?_
      refine o_about hlt cx cl HQ J 14 (r0 := ((pg 13) + 1)) ((ab_hi (j := 13) (by decide) (by decide) (by decide) (by decide)).trans pk_13) hP hD hS gL_presses_L_tryAbout ⟨Nat.le_of_ble_eq_true rfl, Nat.le_of_ble_eq_true rfl⟩ hl (Nat.le_of_ble_eq_true rfl) dL_presses_279 ⟨Nat.le_of_ble_eq_true rfl, Nat.le_of_ble_eq_true rfl⟩ (fun H locs hP hD hS => ?_)
      refine lv_iload hx hb dL_presses_282 (lv_at hl 4 rfl) ?_
      refine lv_iconst (v := 1) hx hb dL_presses_284 (by decide) ?_
      refine lv_iadd hx hb dL_presses_285 ?_
      refine lv_icmp_ne (tgt := 365) hx hb dL_presses_286 (by decide) (fun c9 => absurd rfl c9) (fun c9 => ?_)
      refine lv_aload_n hx hb dL_presses_289 rfl (lv_at hl 8 rfl) ?_
      refine lv_bipush (v := 12) hx hb dL_presses_290 (by decide) ?_
      refine o_about hlt cx cl HQ J 12 (r0 := (ovr (P_X4_rawOf pg 1 (pg 4)))) ((ab_hi (j := 11) (by decide) (by decide) (by decide) (by decide)).trans (pk_11 hc)) hP hD hS gL_presses_L_tryAbout ⟨Nat.le_of_ble_eq_true rfl, Nat.le_of_ble_eq_true rfl⟩ hl (Nat.le_of_ble_eq_true rfl) dL_presses_292 ⟨Nat.le_of_ble_eq_true rfl, Nat.le_of_ble_eq_true rfl⟩ (fun H locs hP hD hS => ?_)
      refine lv_iload hx hb dL_presses_295 (lv_at hl 1 rfl) ?_
      have hj305 : W p l e rmL_presses s m args below meth c H locs 25 150 (MQ below (qG G (fun x : XT => wB G d x []) (fun r x => r = 1 ∧ JNV x n tt (P_X4_pressOn pg 1).2 (push hs pg) k0 k1) A) args s 32 192 A) (F0 m 305 ls [.int (ovr (P_X4_rawOf pg 1 (pg 4))), .int (ovr (P_X4_rawOf pg 1 (pg 4)))]) := by
        refine lv_icmp_ne (tgt := 365) hx hb dL_presses_305 (by decide) (fun c9 => absurd rfl c9) (fun c9 => ?_)
        refine lv_aload_n hx hb dL_presses_308 rfl (lv_at hl 8 rfl) ?_
        refine lv_bipush (v := 15) hx hb dL_presses_309 (by decide) ?_
        refine o_about hlt cx cl HQ J 15 (r0 := ((pg 14) + (ovr (P_X4_rawOf pg 1 (pg 4))))) ((ab_hi (j := 14) (by decide) (by decide) (by decide) (by decide)).trans pk_14) hP hD hS gL_presses_L_tryAbout ⟨Nat.le_of_ble_eq_true rfl, Nat.le_of_ble_eq_true rfl⟩ hl (Nat.le_of_ble_eq_true rfl) dL_presses_311 ⟨Nat.le_of_ble_eq_true rfl, Nat.le_of_ble_eq_true rfl⟩ (fun H locs hP hD hS => ?_)
        refine lv_iload hx hb dL_presses_314 (lv_at hl 3 rfl) ?_
        refine lv_iload hx hb dL_presses_316 (lv_at hl 1 rfl) ?_
        have hj326 : W p l e rmL_presses s m args below meth c H locs 26 156 (MQ below (qG G (fun x : XT => wB G d x []) (fun r x => r = 1 ∧ JNV x n tt (P_X4_pressOn pg 1).2 (push hs pg) k0 k1) A) args s 32 192 A) (F0 m 326 ls [.int (ovr (P_X4_rawOf pg 1 (pg 4))), .int (pg 14), .int ((pg 14) + (ovr (P_X4_rawOf pg 1 (pg 4))))]) := by
          refine lv_iadd hx hb dL_presses_326 ?_
          refine lv_icmp_ne (tgt := 365) hx hb dL_presses_327 (by decide) (fun c9 => absurd rfl c9) (fun c9 => ?_)
          refine lv_aload_n hx hb dL_presses_330 rfl (lv_at hl 8 rfl) ?_
          refine lv_bipush (v := 8) hx hb dL_presses_331 (by decide) ?_
          refine o_about hlt cx cl HQ J 8 (r0 := (P_X4_offsetOf ((P_X4_pressOn pg 1).2))) ab_8 hP hD hS gL_presses_L_tryAbout ⟨Nat.le_of_ble_eq_true rfl, Nat.le_of_ble_eq_true rfl⟩ hl (Nat.le_of_ble_eq_true rfl) dL_presses_333 ⟨Nat.le_of_ble_eq_true rfl, Nat.le_of_ble_eq_true rfl⟩ (fun H locs hP hD hS => ?_)
          refine lv_aload_n hx hb dL_presses_336 rfl (lv_at hl 8 rfl) ?_
          refine lv_iconst (v := 5) hx hb dL_presses_337 (by decide) ?_
          refine o_about hlt cx cl HQ J 5 (r0 := ((P_X4_pressOn pg 1).2 5)) (ab_lo (j := 5) (by decide) (by decide) (by decide)) hP hD hS gL_presses_L_tryAbout ⟨Nat.le_of_ble_eq_true rfl, Nat.le_of_ble_eq_true rfl⟩ hl (Nat.le_of_ble_eq_true rfl) dL_presses_338 ⟨Nat.le_of_ble_eq_true rfl, Nat.le_of_ble_eq_true rfl⟩ (fun H locs hP hD hS => ?_)
          refine lv_aload_n hx hb dL_presses_341 rfl (lv_at hl 8 rfl) ?_
          refine lv_bipush (v := 7) hx hb dL_presses_342 (by decide) ?_
          refine o_about hlt cx cl HQ J 7 (r0 := ((P_X4_pressOn pg 1).2 7)) (ab_lo (j := 7) (by decide) (by decide) (by decide)) hP hD hS gL_presses_L_tryAbout ⟨Nat.le_of_ble_eq_true rfl, Nat.le_of_ble_eq_true rfl⟩ hl (Nat.le_of_ble_eq_true rfl) dL_presses_344 ⟨Nat.le_of_ble_eq_true rfl, Nat.le_of_ble_eq_true rfl⟩ (fun H locs hP hD hS => ?_)
          refine lv_aload_n hx hb dL_presses_347 rfl (lv_at hl 8 rfl) ?_
          refine lv_bipush (v := 6) hx hb dL_presses_348 (by decide) ?_
          refine o_about hlt cx cl HQ J 6 (r0 := ((P_X4_pressOn pg 1).2 6)) (ab_lo (j := 6) (by decide) (by decide) (by decide)) hP hD hS gL_presses_L_tryAbout ⟨Nat.le_of_ble_eq_true rfl, Nat.le_of_ble_eq_true rfl⟩ hl (Nat.le_of_ble_eq_true rfl) dL_presses_350 ⟨Nat.le_of_ble_eq_true rfl, Nat.le_of_ble_eq_true rfl⟩ (fun H locs hP hD hS => ?_)
          refine lv_imul hx hb dL_presses_353 ?_
          refine lv_bipush (v := 100) hx hb dL_presses_354 (by decide) ?_
          refine lv_idiv hx hb dL_presses_356 (by decide) ?_
          refine lv_iadd hx hb dL_presses_357 ?_
          refine lv_icmp_ne (tgt := 365) hx hb dL_presses_358 (by decide) (fun c9 => absurd rfl c9) (fun c9 => ?_)
          refine lv_iconst (v := 1) hx hb dL_presses_361 (by decide) ?_
          refine lv_goto (tgt := 366) hx hb dL_presses_362 (by decide) ?_
          exact k_retG (u := x) cx (nz (Or.inr rfl)) ⟨rfl, J⟩ hP hS ⟨Nat.le_of_ble_eq_true rfl, Nat.le_of_ble_eq_true rfl⟩ dL_presses_366
        refine lv_if_eq (tgt := 325) hx hb dL_presses_318 (by decide) (fun c318 => ?_) (fun c318 => ?_)
        · refine lv_iconst (v := 0) hx hb dL_presses_325 (by decide) ?_
          exact k_top (v' := (ovr (P_X4_rawOf pg 1 (pg 4)))) c318.symm hj326
        · refine lv_iconst (v := 1) hx hb dL_presses_321 (by decide) ?_
          refine lv_goto (tgt := 326) hx hb dL_presses_322 (by decide) ?_
          exact k_top (v' := (ovr (P_X4_rawOf pg 1 (pg 4)))) (ovr_n c318) hj326
      refine lv_if_eq (tgt := 304) hx hb dL_presses_297 (by decide) (fun c297 => ?_) (fun c297 => ?_)
      · refine lv_iconst (v := 0) hx hb dL_presses_304 (by decide) ?_
        exact k_top (v' := (ovr (P_X4_rawOf pg 1 (pg 4)))) c297.symm hj305
      · refine lv_iconst (v := 1) hx hb dL_presses_300 (by decide) ?_
        refine lv_goto (tgt := 305) hx hb dL_presses_301 (by decide) ?_
        exact k_top (v' := (ovr (P_X4_rawOf pg 1 (pg 4)))) (ovr_n c297) hj305
    refine lv_icmp_le (tgt := 259) hx hb dL_presses_250 (by decide) (fun c250 => ?_) (fun c250 => ?_)
    · refine lv_iload hx hb dL_presses_259 (lv_at hl 5 rfl) ?_
      exact k_top (v' := (if ((pg 7) + (pg 3)) ≤ 9999 then ((pg 7) + (pg 3)) else 9999)) (by rw [if_pos c250]) hj261
    · refine lv_sipush (v := 9999) hx hb dL_presses_253 (by decide) ?_
      refine lv_goto (tgt := 261) hx hb dL_presses_256 (by decide) ?_
      exact k_top (v' := (if ((pg 7) + (pg 3)) ≤ 9999 then ((pg 7) + (pg 3)) else 9999)) (by rw [if_neg c250]) hj261
  refine lv_icmp_lt (tgt := 99) hx hb dL_presses_89 (by decide) (fun c86 => ?_) (fun c86 => ?_)
  · refine lv_iconst (v := 1) hx hb dL_presses_99 (by decide) ?_
    refine lv_goto (tgt := 104) hx hb dL_presses_100 (by decide) ?_
    exact k_top (v' := (ovr (P_X4_rawOf pg 1 (pg 4)))) (by unfold ovr; first | rw [if_pos c86] | rw [if_neg c86, if_neg c96] | rw [if_neg c86, if_pos c96]) hj104
  · refine lv_iload_n hx hb dL_presses_92 rfl (lv_at hl 5 rfl) ?_
    refine lv_sipush (v := 5000) hx hb dL_presses_93 (by decide) ?_
    refine lv_icmp_le (tgt := 103) hx hb dL_presses_96 (by decide) (fun c96 => ?_) (fun c96 => ?_)
    · refine lv_iconst (v := 0) hx hb dL_presses_103 (by decide) ?_
      exact k_top (v' := (ovr (P_X4_rawOf pg 1 (pg 4)))) (by unfold ovr; first | rw [if_pos c86] | rw [if_neg c86, if_neg c96] | rw [if_neg c86, if_pos c96]) hj104
    · refine lv_iconst (v := 1) hx hb dL_presses_99 (by decide) ?_
      refine lv_goto (tgt := 104) hx hb dL_presses_100 (by decide) ?_
      exact k_top (v' := (ovr (P_X4_rawOf pg 1 (pg 4)))) (by unfold ovr; first | rw [if_pos c86] | rw [if_neg c86, if_neg c96] | rw [if_neg c86, if_pos c96]) hj104

set_option maxRecDepth 100000 in
set_option maxHeartbeats 16000000 in
theorem c_L_presses_s (l : Launch) (hlt : l.stackTraces = false) (G : gG) (b L : Nat) (xs : Nat → Int32) (d : AD) (HQ : PQd d) (n : Int32) (tt pg : Pg) (hs : List Pg) (k0 k1 : Option Pg) (rv : Int32) (hc : pg 11 = 1) : kG l G yL_presses wsL_presses rmL_presses [.ref d.1, .int rv] b L xs (fun x : XT => wB G d x []) (fun x => JNV x n tt pg hs k0 k1) (fun r x => r = 1 ∧ JNV x n tt pg hs k0 k1) 32 192 := by
  refine k_bodyG (cc := cL_presses) (nL := 10) (ret := some .boolean) (by decide) rfl (Nat.le_of_ble_eq_true rfl) ?_
  intro x hI
  intro p e s m args below meth c A cx cl H locs hP hD hS ls hl
  obtain ⟨hx, hb, hml, hown, hts, hr, hlocks, hK, hA⟩ := id cx
  have hl : lv_has ls 10 [(0, .ref d.1), (1, .int rv)] := hl
  have hP : va_P G.1 vwCl (wB G d x []) H := hP
  have hD : va_D A (wB G d x []) := hD
  have J : JNV x n tt pg hs k0 k1 := hI
  refine lv_aload_n hx hb dL_presses_0 rfl (lv_at hl 0 rfl) ?_
  refine lv_bipush (v := 12) hx hb dL_presses_1 (by decide) ?_
  refine o_about hlt cx cl HQ J 12 (r0 := (pg 11)) (ab_hi (j := 11) (by decide) (by decide) (by decide) (by decide)) hP hD hS gL_presses_L_tryAbout ⟨Nat.le_of_ble_eq_true rfl, Nat.le_of_ble_eq_true rfl⟩ hl (Nat.le_of_ble_eq_true rfl) dL_presses_3 ⟨Nat.le_of_ble_eq_true rfl, Nat.le_of_ble_eq_true rfl⟩ (fun H locs hP hD hS => ?_)
  refine lv_iconst (v := 1) hx hb dL_presses_6 (by decide) ?_
  refine lv_icmp_ne (tgt := 26) hx hb dL_presses_7 (by decide) (fun c9 => absurd hc c9) (fun c9 => ?_)
  refine lv_aload_n hx hb dL_presses_10 rfl (lv_at hl 0 rfl) ?_
  refine lv_iload_n hx hb dL_presses_11 rfl (lv_at hl 1 rfl) ?_
  refine n_press hlt cx cl HQ J rv hc hP hD hS gL_presses_L_tryPress ⟨Nat.le_of_ble_eq_true rfl, Nat.le_of_ble_eq_true rfl⟩ hl (Nat.le_of_ble_eq_true rfl) dL_presses_12 ⟨Nat.le_of_ble_eq_true rfl, Nat.le_of_ble_eq_true rfl⟩ (fun H locs hP hD hS => ?_)
  refine k_ldc (v := (-999900003)) cx (by decide +kernel) dL_presses_15 ?_
  refine lv_icmp_ne (tgt := 24) hx hb dL_presses_17 (by decide) (fun c9 => absurd (by decide) c9) (fun c9 => ?_)
  refine lv_iconst (v := 1) hx hb dL_presses_20 (by decide) ?_
  refine lv_goto (tgt := 25) hx hb dL_presses_21 (by decide) ?_
  exact k_retG (u := x) cx (nz (Or.inr rfl)) ⟨rfl, J⟩ hP hS ⟨Nat.le_of_ble_eq_true rfl, Nat.le_of_ble_eq_true rfl⟩ dL_presses_25
