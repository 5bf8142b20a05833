/-! the law's methods -/
abbrev rmL_refuses : Room := { frames := 8, cells := 60, slots := 360, locals := 190 }
set_option maxRecDepth 100000 in
set_option maxHeartbeats 16000000 in
theorem c_L_refuses (l : Launch) (hlt : l.stackTraces = false) (G : gG) (b L : Nat) (xs : Nat → Int32) (d : AD) (HQ : PQd d) (n : Int32) (tt pg : Pg) (hs : List Pg) (k0 k1 : Option Pg)  : kG l G yL_refuses wsL_refuses rmL_refuses [.ref d.1] b L xs (fun x : XT => wB G d x []) (fun x => JNV x n tt pg hs k0 k1) (fun r x => r = 1 ∧ JNV x n tt pg hs k0 k1) 60 360 := by
  refine k_bodyG (cc := cL_refuses) (nL := 4) (ret := some .boolean) (by decide) rfl (Nat.le_of_ble_eq_true rfl) ?_
  intro x hI
  intro p e s m args below meth c A cx cl H locs hP hD hS ls hl
  obtain ⟨hx, hb, hml, hown, hts, hr, hlocks, hK, hA⟩ := id cx
  have hl : lv_has ls 4 [(0, .ref d.1)] := hl
  have hP : va_P G.1 vwCl (wB G d x []) H := hP
  have hD : va_D A (wB G d x []) := hD
  have J : JNV x n tt pg hs k0 k1 := hI
  refine lv_aload_n hx hb dL_refuses_0 rfl (lv_at hl 0 rfl) ?_
  refine lv_bipush (v := 10) hx hb dL_refuses_1 (by decide) ?_
  refine o_about hlt cx cl HQ J 10 (r0 := (pg 9)) (ab_hi (j := 9) (by decide) (by decide) (by decide) (by decide)) hP hD hS gL_refuses_L_tryAbout ⟨Nat.le_of_ble_eq_true rfl, Nat.le_of_ble_eq_true rfl⟩ hl (Nat.le_of_ble_eq_true rfl) dL_refuses_3 ⟨Nat.le_of_ble_eq_true rfl, Nat.le_of_ble_eq_true rfl⟩ (fun H locs hP hD hS => ?_)
  refine lv_istore_n (lv' := [(1, .int (pg 9)), (0, .ref d.1)]) hx hb dL_refuses_6 rfl hl (by decide) rfl (fun ls hl => ?_)
  refine lv_aload_n hx hb dL_refuses_7 rfl (lv_at hl 1 rfl) ?_
  refine lv_bipush (v := 12) hx hb dL_refuses_8 (by decide) ?_
  refine o_about hlt cx cl HQ J 12 (r0 := (pg 11)) (ab_hi (j := 11) (by decide) (by decide) (by decide) (by decide)) hP hD hS gL_refuses_L_tryAbout ⟨Nat.le_of_ble_eq_true rfl, Nat.le_of_ble_eq_true rfl⟩ hl (Nat.le_of_ble_eq_true rfl) dL_refuses_10 ⟨Nat.le_of_ble_eq_true rfl, Nat.le_of_ble_eq_true rfl⟩ (fun H locs hP hD hS => ?_)
  refine lv_iconst (v := 1) hx hb dL_refuses_13 (by decide) ?_
  refine lv_icmp_ne (tgt := 21) hx hb dL_refuses_14 (by decide) (fun c14 => ?_) (fun c14 => ?_)
  · refine lv_iconst (v := 0) hx hb dL_refuses_21 (by decide) ?_
    refine lv_istore_n (lv' := [(2, .int 0), (1, .int (pg 9)), (0, .ref d.1)]) hx hb dL_refuses_22 rfl hl (by decide) rfl (fun ls hl => ?_)
    refine lv_aload_n hx hb dL_refuses_23 rfl (lv_at hl 2 rfl) ?_
    refine lv_bipush (v := 16) hx hb dL_refuses_24 (by decide) ?_
    refine o_about hlt cx cl HQ J 16 (r0 := (-999900002)) ab_n hP hD hS gL_refuses_L_tryAbout ⟨Nat.le_of_ble_eq_true rfl, Nat.le_of_ble_eq_true rfl⟩ hl (Nat.le_of_ble_eq_true rfl) dL_refuses_26 ⟨Nat.le_of_ble_eq_true rfl, Nat.le_of_ble_eq_true rfl⟩ (fun H locs hP hD hS => ?_)
    refine k_ldc (v := (-999900002)) cx (by decide +kernel) dL_refuses_29 ?_
    refine lv_icmp_ne (tgt := 254) hx hb dL_refuses_31 (by decide) (fun c9 => absurd (by decide) c9) (fun c9 => ?_)
    refine lv_aload_n hx hb dL_refuses_34 rfl (lv_at hl 2 rfl) ?_
    refine lv_iconst (v := (-1)) hx hb dL_refuses_35 (by decide) ?_
    refine lv_iconst (v := 0) hx hb dL_refuses_36 (by decide) ?_
    refine o_told hlt cx cl HQ J (-1) 0 (r0 := (-999900002)) td_n1 hP hD hS gL_refuses_L_tryTold ⟨Nat.le_of_ble_eq_true rfl, Nat.le_of_ble_eq_true rfl⟩ hl (Nat.le_of_ble_eq_true rfl) dL_refuses_37 ⟨Nat.le_of_ble_eq_true rfl, Nat.le_of_ble_eq_true rfl⟩ (fun H locs hP hD hS => ?_)
    refine k_ldc (v := (-999900002)) cx (by decide +kernel) dL_refuses_40 ?_
    refine lv_icmp_ne (tgt := 254) hx hb dL_refuses_42 (by decide) (fun c9 => absurd (by decide) c9) (fun c9 => ?_)
    refine lv_aload_n hx hb dL_refuses_45 rfl (lv_at hl 2 rfl) ?_
    refine lv_iconst (v := 0) hx hb dL_refuses_46 (by decide) ?_
    refine lv_iconst (v := 4) hx hb dL_refuses_47 (by decide) ?_
    refine o_told hlt cx cl HQ J 0 4 (r0 := (-999900002)) td_n2 hP hD hS gL_refuses_L_tryTold ⟨Nat.le_of_ble_eq_true rfl, Nat.le_of_ble_eq_true rfl⟩ hl (Nat.le_of_ble_eq_true rfl) dL_refuses_48 ⟨Nat.le_of_ble_eq_true rfl, Nat.le_of_ble_eq_true rfl⟩ (fun H locs hP hD hS => ?_)
    refine k_ldc (v := (-999900002)) cx (by decide +kernel) dL_refuses_51 ?_
    refine lv_icmp_ne (tgt := 254) hx hb dL_refuses_53 (by decide) (fun c9 => absurd (by decide) c9) (fun c9 => ?_)
    refine lv_aload_n hx hb dL_refuses_56 rfl (lv_at hl 2 rfl) ?_
    refine lv_iconst (v := 5) hx hb dL_refuses_57 (by decide) ?_
    refine o_bridge hlt cx cl HQ J 5 (r0 := (-999900002)) br_n hP hD hS gL_refuses_L_tryBridge ⟨Nat.le_of_ble_eq_true rfl, Nat.le_of_ble_eq_true rfl⟩ hl (Nat.le_of_ble_eq_true rfl) dL_refuses_58 ⟨Nat.le_of_ble_eq_true rfl, Nat.le_of_ble_eq_true rfl⟩ (fun H locs hP hD hS => ?_)
    refine k_ldc (v := (-999900002)) cx (by decide +kernel) dL_refuses_61 ?_
    refine lv_icmp_ne (tgt := 254) hx hb dL_refuses_63 (by decide) (fun c9 => absurd (by decide) c9) (fun c9 => ?_)
    refine lv_iload_n hx hb dL_refuses_66 rfl (lv_at hl 0 rfl) ?_
    refine lv_if_eq (tgt := 98) hx hb dL_refuses_67 (by decide) (fun c9 => ?_) (fun c9 => absurd (by decide) c9)
    refine lv_aload_n hx hb dL_refuses_98 rfl (lv_at hl 2 rfl) ?_
    refine lv_iconst (v := 0) hx hb dL_refuses_99 (by decide) ?_
    refine n_pause hlt cx cl HQ J 0 (by decide) hP hD hS gL_refuses_L_tryPause ⟨Nat.le_of_ble_eq_true rfl, Nat.le_of_ble_eq_true rfl⟩ hl (Nat.le_of_ble_eq_true rfl) dL_refuses_100 ⟨Nat.le_of_ble_eq_true rfl, Nat.le_of_ble_eq_true rfl⟩ (fun H locs hP hD hS => ?_)
    refine k_ldc (v := (-999900002)) cx (by decide +kernel) dL_refuses_103 ?_
    refine lv_icmp_ne (tgt := 254) hx hb dL_refuses_105 (by decide) (fun c9 => absurd (by decide) c9) (fun c9 => ?_)
    refine lv_aload_n hx hb dL_refuses_108 rfl (lv_at hl 2 rfl) ?_
    refine lv_sipush (v := 201) hx hb dL_refuses_109 (by decide) ?_
    refine n_pause hlt cx cl HQ J 201 (by decide) hP hD hS gL_refuses_L_tryPause ⟨Nat.le_of_ble_eq_true rfl, Nat.le_of_ble_eq_true rfl⟩ hl (Nat.le_of_ble_eq_true rfl) dL_refuses_112 ⟨Nat.le_of_ble_eq_true rfl, Nat.le_of_ble_eq_true rfl⟩ (fun H locs hP hD hS => ?_)
    refine k_ldc (v := (-999900002)) cx (by decide +kernel) dL_refuses_115 ?_
    refine lv_icmp_ne (tgt := 254) hx hb dL_refuses_117 (by decide) (fun c9 => absurd (by decide) c9) (fun c9 => ?_)
    refine lv_aload_n hx hb dL_refuses_120 rfl (lv_at hl 2 rfl) ?_
    refine lv_iconst (v := 0) hx hb dL_refuses_121 (by decide) ?_
    refine lv_iconst (v := 4) hx hb dL_refuses_122 (by decide) ?_
    refine n_set hlt cx cl HQ J 0 4 (by decide) hP hD hS gL_refuses_L_trySet ⟨Nat.le_of_ble_eq_true rfl, Nat.le_of_ble_eq_true rfl⟩ hl (Nat.le_of_ble_eq_true rfl) dL_refuses_123 ⟨Nat.le_of_ble_eq_true rfl, Nat.le_of_ble_eq_true rfl⟩ (fun H locs hP hD hS => ?_)
    refine k_ldc (v := (-999900002)) cx (by decide +kernel) dL_refuses_126 ?_
    refine lv_icmp_ne (tgt := 254) hx hb dL_refuses_128 (by decide) (fun c9 => absurd (by decide) c9) (fun c9 => ?_)
    refine lv_aload_n hx hb dL_refuses_131 rfl (lv_at hl 2 rfl) ?_
    refine lv_iconst (v := 1) hx hb dL_refuses_132 (by decide) ?_
    refine lv_iconst (v := (-1)) hx hb dL_refuses_133 (by decide) ?_
    refine n_set hlt cx cl HQ J 1 (-1) (by decide) hP hD hS gL_refuses_L_trySet ⟨Nat.le_of_ble_eq_true rfl, Nat.le_of_ble_eq_true rfl⟩ hl (Nat.le_of_ble_eq_true rfl) dL_refuses_134 ⟨Nat.le_of_ble_eq_true rfl, Nat.le_of_ble_eq_true rfl⟩ (fun H locs hP hD hS => ?_)
    refine k_ldc (v := (-999900002)) cx (by decide +kernel) dL_refuses_137 ?_
    refine lv_icmp_ne (tgt := 254) hx hb dL_refuses_139 (by decide) (fun c9 => absurd (by decide) c9) (fun c9 => ?_)
    refine lv_aload_n hx hb dL_refuses_142 rfl (lv_at hl 2 rfl) ?_
    refine lv_iconst (v := 2) hx hb dL_refuses_143 (by decide) ?_
    refine lv_sipush (v := 10000) hx hb dL_refuses_144 (by decide) ?_
    refine n_set hlt cx cl HQ J 2 10000 (by decide) hP hD hS gL_refuses_L_trySet ⟨Nat.le_of_ble_eq_true rfl, Nat.le_of_ble_eq_true rfl⟩ hl (Nat.le_of_ble_eq_true rfl) dL_refuses_147 ⟨Nat.le_of_ble_eq_true rfl, Nat.le_of_ble_eq_true rfl⟩ (fun H locs hP hD hS => ?_)
    refine k_ldc (v := (-999900002)) cx (by decide +kernel) dL_refuses_150 ?_
    refine lv_icmp_ne (tgt := 254) hx hb dL_refuses_152 (by decide) (fun c9 => absurd (by decide) c9) (fun c9 => ?_)
    refine lv_aload_n hx hb dL_refuses_155 rfl (lv_at hl 2 rfl) ?_
    refine lv_iconst (v := 3) hx hb dL_refuses_156 (by decide) ?_
    refine lv_iconst (v := 0) hx hb dL_refuses_157 (by decide) ?_
    refine n_set hlt cx cl HQ J 3 0 (by decide) hP hD hS gL_refuses_L_trySet ⟨Nat.le_of_ble_eq_true rfl, Nat.le_of_ble_eq_true rfl⟩ hl (Nat.le_of_ble_eq_true rfl) dL_refuses_158 ⟨Nat.le_of_ble_eq_true rfl, Nat.le_of_ble_eq_true rfl⟩ (fun H locs hP hD hS => ?_)
    refine k_ldc (v := (-999900002)) cx (by decide +kernel) dL_refuses_161 ?_
    refine lv_icmp_ne (tgt := 254) hx hb dL_refuses_163 (by decide) (fun c9 => absurd (by decide) c9) (fun c9 => ?_)
    refine lv_aload_n hx hb dL_refuses_166 rfl (lv_at hl 2 rfl) ?_
    refine lv_iconst (v := 4) hx hb dL_refuses_167 (by decide) ?_
    refine lv_iconst (v := 4) hx hb dL_refuses_168 (by decide) ?_
    refine n_set hlt cx cl HQ J 4 4 (by decide) hP hD hS gL_refuses_L_trySet ⟨Nat.le_of_ble_eq_true rfl, Nat.le_of_ble_eq_true rfl⟩ hl (Nat.le_of_ble_eq_true rfl) dL_refuses_169 ⟨Nat.le_of_ble_eq_true rfl, Nat.le_of_ble_eq_true rfl⟩ (fun H locs hP hD hS => ?_)
    refine k_ldc (v := (-999900002)) cx (by decide +kernel) dL_refuses_172 ?_
    refine lv_icmp_ne (tgt := 254) hx hb dL_refuses_174 (by decide) (fun c9 => absurd (by decide) c9) (fun c9 => ?_)
    refine lv_aload_n hx hb dL_refuses_177 rfl (lv_at hl 2 rfl) ?_
    refine lv_iconst (v := 5) hx hb dL_refuses_178 (by decide) ?_
    refine lv_bipush (v := 51) hx hb dL_refuses_179 (by decide) ?_
    refine n_set hlt cx cl HQ J 5 51 (by decide) hP hD hS gL_refuses_L_trySet ⟨Nat.le_of_ble_eq_true rfl, Nat.le_of_ble_eq_true rfl⟩ hl (Nat.le_of_ble_eq_true rfl) dL_refuses_181 ⟨Nat.le_of_ble_eq_true rfl, Nat.le_of_ble_eq_true rfl⟩ (fun H locs hP hD hS => ?_)
    refine k_ldc (v := (-999900002)) cx (by decide +kernel) dL_refuses_184 ?_
    refine lv_icmp_ne (tgt := 254) hx hb dL_refuses_186 (by decide) (fun c9 => absurd (by decide) c9) (fun c9 => ?_)
    refine lv_aload_n hx hb dL_refuses_189 rfl (lv_at hl 2 rfl) ?_
    refine lv_bipush (v := 6) hx hb dL_refuses_190 (by decide) ?_
    refine lv_bipush (v := 21) hx hb dL_refuses_192 (by decide) ?_
    refine n_set hlt cx cl HQ J 6 21 (by decide) hP hD hS gL_refuses_L_trySet ⟨Nat.le_of_ble_eq_true rfl, Nat.le_of_ble_eq_true rfl⟩ hl (Nat.le_of_ble_eq_true rfl) dL_refuses_194 ⟨Nat.le_of_ble_eq_true rfl, Nat.le_of_ble_eq_true rfl⟩ (fun H locs hP hD hS => ?_)
    refine k_ldc (v := (-999900002)) cx (by decide +kernel) dL_refuses_197 ?_
    refine lv_icmp_ne (tgt := 254) hx hb dL_refuses_199 (by decide) (fun c9 => absurd (by decide) c9) (fun c9 => ?_)
    refine lv_aload_n hx hb dL_refuses_202 rfl (lv_at hl 2 rfl) ?_
    refine lv_bipush (v := 7) hx hb dL_refuses_203 (by decide) ?_
    refine lv_iconst (v := 0) hx hb dL_refuses_205 (by decide) ?_
    refine n_set hlt cx cl HQ J 7 0 (by decide) hP hD hS gL_refuses_L_trySet ⟨Nat.le_of_ble_eq_true rfl, Nat.le_of_ble_eq_true rfl⟩ hl (Nat.le_of_ble_eq_true rfl) dL_refuses_206 ⟨Nat.le_of_ble_eq_true rfl, Nat.le_of_ble_eq_true rfl⟩ (fun H locs hP hD hS => ?_)
    refine k_ldc (v := (-999900002)) cx (by decide +kernel) dL_refuses_209 ?_
    refine lv_icmp_ne (tgt := 254) hx hb dL_refuses_211 (by decide) (fun c9 => absurd (by decide) c9) (fun c9 => ?_)
    refine lv_aload_n hx hb dL_refuses_214 rfl (lv_at hl 2 rfl) ?_
    refine lv_iload_n hx hb dL_refuses_215 rfl (lv_at hl 1 rfl) ?_
    refine n_choose hlt cx cl HQ J (pg 9) (un_hi J.pv) hP hD hS gL_refuses_L_tryChoose ⟨Nat.le_of_ble_eq_true rfl, Nat.le_of_ble_eq_true rfl⟩ hl (Nat.le_of_ble_eq_true rfl) dL_refuses_216 ⟨Nat.le_of_ble_eq_true rfl, Nat.le_of_ble_eq_true rfl⟩ (fun H locs hP hD hS => ?_)
    refine k_ldc (v := (-999900001)) cx (by decide +kernel) dL_refuses_219 ?_
    refine lv_icmp_ne (tgt := 254) hx hb dL_refuses_221 (by decide) (fun c9 => absurd (by decide) c9) (fun c9 => ?_)
    refine lv_aload_n hx hb dL_refuses_224 rfl (lv_at hl 2 rfl) ?_
    refine lv_iconst (v := 0) hx hb dL_refuses_225 (by decide) ?_
    refine n_add hlt cx cl HQ J 0 (by decide) hP hD hS gL_refuses_L_tryAdd ⟨Nat.le_of_ble_eq_true rfl, Nat.le_of_ble_eq_true rfl⟩ hl (Nat.le_of_ble_eq_true rfl) dL_refuses_226 ⟨Nat.le_of_ble_eq_true rfl, Nat.le_of_ble_eq_true rfl⟩ (fun H locs hP hD hS => ?_)
    refine k_ldc (v := (-999900002)) cx (by decide +kernel) dL_refuses_229 ?_
    refine lv_icmp_ne (tgt := 254) hx hb dL_refuses_231 (by decide) (fun c9 => absurd (by decide) c9) (fun c9 => ?_)
    refine lv_iload_n hx hb dL_refuses_234 rfl (lv_at hl 1 rfl) ?_
    refine lv_bipush (v := 6) hx hb dL_refuses_235 (by decide) ?_
    refine lv_icmp_lt (tgt := 250) hx hb dL_refuses_237 (by decide) (fun c237 => ?_) (fun c237 => ?_)
    · refine lv_iconst (v := 1) hx hb dL_refuses_250 (by decide) ?_
      refine lv_goto (tgt := 255) hx hb dL_refuses_251 (by decide) ?_
      refine lv_istore_n (lv' := [(3, .int 1), (2, .int 0), (1, .int (pg 9)), (0, .ref d.1)]) hx hb dL_refuses_255 rfl hl (by decide) rfl (fun ls hl => ?_)
      refine lv_iload_n hx hb dL_refuses_256 rfl (lv_at hl 0 rfl) ?_
      refine lv_if_eq (tgt := 420) hx hb dL_refuses_257 (by decide) (fun c9 => absurd c9 (by decide)) (fun c9 => ?_)
      refine lv_aload_n hx hb dL_refuses_260 rfl (lv_at hl 3 rfl) ?_
      refine lv_iconst (v := 3) hx hb dL_refuses_261 (by decide) ?_
      refine o_value hlt cx cl HQ J 3 (r0 := (-999900002)) vl_n hP hD hS gL_refuses_L_tryValue ⟨Nat.le_of_ble_eq_true rfl, Nat.le_of_ble_eq_true rfl⟩ hl (Nat.le_of_ble_eq_true rfl) dL_refuses_262 ⟨Nat.le_of_ble_eq_true rfl, Nat.le_of_ble_eq_true rfl⟩ (fun H locs hP hD hS => ?_)
      refine k_ldc (v := (-999900002)) cx (by decide +kernel) dL_refuses_265 ?_
      refine lv_icmp_ne (tgt := 420) hx hb dL_refuses_267 (by decide) (fun c9 => absurd (by decide) c9) (fun c9 => ?_)
      refine lv_aload_n hx hb dL_refuses_270 rfl (lv_at hl 3 rfl) ?_
      refine lv_iload_n hx hb dL_refuses_271 rfl (lv_at hl 2 rfl) ?_
      refine o_bestR hlt cx cl HQ J (pg 9) (r0 := (-999900001)) (bR_n (un_hi J.pv)) hP hD hS gL_refuses_L_tryBestR ⟨Nat.le_of_ble_eq_true rfl, Nat.le_of_ble_eq_true rfl⟩ hl (Nat.le_of_ble_eq_true rfl) dL_refuses_272 ⟨Nat.le_of_ble_eq_true rfl, Nat.le_of_ble_eq_true rfl⟩ (fun H locs hP hD hS => ?_)
      refine k_ldc (v := (-999900001)) cx (by decide +kernel) dL_refuses_275 ?_
      refine lv_icmp_ne (tgt := 420) hx hb dL_refuses_277 (by decide) (fun c9 => absurd (by decide) c9) (fun c9 => ?_)
      refine lv_aload_n hx hb dL_refuses_280 rfl (lv_at hl 3 rfl) ?_
      refine lv_iconst (v := (-1)) hx hb dL_refuses_281 (by decide) ?_
      refine o_bestArms hlt cx cl HQ J (-1) (r0 := (-999900001)) (bA_n (un_lo (by decide))) hP hD hS gL_refuses_L_tryBestArms ⟨Nat.le_of_ble_eq_true rfl, Nat.le_of_ble_eq_true rfl⟩ hl (Nat.le_of_ble_eq_true rfl) dL_refuses_282 ⟨Nat.le_of_ble_eq_true rfl, Nat.le_of_ble_eq_true rfl⟩ (fun H locs hP hD hS => ?_)
      refine k_ldc (v := (-999900001)) cx (by decide +kernel) dL_refuses_285 ?_
      refine lv_icmp_ne (tgt := 420) hx hb dL_refuses_287 (by decide) (fun c9 => absurd (by decide) c9) (fun c9 => ?_)
      refine lv_aload_n hx hb dL_refuses_290 rfl (lv_at hl 3 rfl) ?_
      refine lv_bipush (v := 100) hx hb dL_refuses_291 (by decide) ?_
      refine lv_iconst (v := 0) hx hb dL_refuses_293 (by decide) ?_
      refine o_offsetAfter hlt cx cl HQ J 100 0 (r0 := (-999900002)) oA_n1 hP hD hS gL_refuses_L_tryOffsetAfter ⟨Nat.le_of_ble_eq_true rfl, Nat.le_of_ble_eq_true rfl⟩ hl (Nat.le_of_ble_eq_true rfl) dL_refuses_294 ⟨Nat.le_of_ble_eq_true rfl, Nat.le_of_ble_eq_true rfl⟩ (fun H locs hP hD hS => ?_)
      refine k_ldc (v := (-999900002)) cx (by decide +kernel) dL_refuses_297 ?_
      refine lv_icmp_ne (tgt := 420) hx hb dL_refuses_299 (by decide) (fun c9 => absurd (by decide) c9) (fun c9 => ?_)
      refine lv_aload_n hx hb dL_refuses_302 rfl (lv_at hl 3 rfl) ?_
      refine lv_iconst (v := 0) hx hb dL_refuses_303 (by decide) ?_
      refine lv_sipush (v := 201) hx hb dL_refuses_304 (by decide) ?_
      refine o_offsetAfter hlt cx cl HQ J 0 201 (r0 := (-999900002)) oA_n2 hP hD hS gL_refuses_L_tryOffsetAfter ⟨Nat.le_of_ble_eq_true rfl, Nat.le_of_ble_eq_true rfl⟩ hl (Nat.le_of_ble_eq_true rfl) dL_refuses_307 ⟨Nat.le_of_ble_eq_true rfl, Nat.le_of_ble_eq_true rfl⟩ (fun H locs hP hD hS => ?_)
      refine k_ldc (v := (-999900002)) cx (by decide +kernel) dL_refuses_310 ?_
      refine lv_icmp_ne (tgt := 420) hx hb dL_refuses_312 (by decide) (fun c9 => absurd (by decide) c9) (fun c9 => ?_)
      refine lv_aload_n hx hb dL_refuses_315 rfl (lv_at hl 3 rfl) ?_
      refine lv_bipush (v := (-51)) hx hb dL_refuses_316 (by decide) ?_
      refine o_waitFor hlt cx cl HQ J (-51) (r0 := (-999900002)) wF_n1 hP hD hS gL_refuses_L_tryWaitFor ⟨Nat.le_of_ble_eq_true rfl, Nat.le_of_ble_eq_true rfl⟩ hl (Nat.le_of_ble_eq_true rfl) dL_refuses_318 ⟨Nat.le_of_ble_eq_true rfl, Nat.le_of_ble_eq_true rfl⟩ (fun H locs hP hD hS => ?_)
      refine k_ldc (v := (-999900002)) cx (by decide +kernel) dL_refuses_321 ?_
      refine lv_icmp_ne (tgt := 420) hx hb dL_refuses_323 (by decide) (fun c9 => absurd (by decide) c9) (fun c9 => ?_)
      refine lv_aload_n hx hb dL_refuses_326 rfl (lv_at hl 3 rfl) ?_
      refine lv_sipush (v := 301) hx hb dL_refuses_327 (by decide) ?_
      refine o_waitFor hlt cx cl HQ J 301 (r0 := (-999900002)) wF_n2 hP hD hS gL_refuses_L_tryWaitFor ⟨Nat.le_of_ble_eq_true rfl, Nat.le_of_ble_eq_true rfl⟩ hl (Nat.le_of_ble_eq_true rfl) dL_refuses_330 ⟨Nat.le_of_ble_eq_true rfl, Nat.le_of_ble_eq_true rfl⟩ (fun H locs hP hD hS => ?_)
      refine k_ldc (v := (-999900002)) cx (by decide +kernel) dL_refuses_333 ?_
      refine lv_icmp_ne (tgt := 420) hx hb dL_refuses_335 (by decide) (fun c9 => absurd (by decide) c9) (fun c9 => ?_)
      refine lv_aload_n hx hb dL_refuses_338 rfl (lv_at hl 3 rfl) ?_
      refine lv_iconst (v := 4) hx hb dL_refuses_339 (by decide) ?_
      refine o_balanced hlt cx cl HQ J 4 (r0 := (-999900002)) bl_n hP hD hS gL_refuses_L_tryBalanced ⟨Nat.le_of_ble_eq_true rfl, Nat.le_of_ble_eq_true rfl⟩ hl (Nat.le_of_ble_eq_true rfl) dL_refuses_340 ⟨Nat.le_of_ble_eq_true rfl, Nat.le_of_ble_eq_true rfl⟩ (fun x H locs J hP hD hS => ?_)
      have J : JNV x n tt pg hs k0 k1 := J
      refine k_ldc (v := (-999900002)) cx (by decide +kernel) dL_refuses_343 ?_
      refine lv_icmp_ne (tgt := 420) hx hb dL_refuses_345 (by decide) (fun c9 => absurd (by decide) c9) (fun c9 => ?_)
      refine lv_aload_n hx hb dL_refuses_348 rfl (lv_at hl 3 rfl) ?_
      refine lv_iconst (v := 4) hx hb dL_refuses_349 (by decide) ?_
      refine lv_lconst (v := 0) hx hb dL_refuses_350 (by decide) ?_
      refine o_runScript hlt cx cl HQ J 4 0 (r0 := (-999900002)) sc_n1 hP hD hS gL_refuses_L_tryScript ⟨Nat.le_of_ble_eq_true rfl, Nat.le_of_ble_eq_true rfl⟩ hl (Nat.le_of_ble_eq_true rfl) dL_refuses_351 ⟨Nat.le_of_ble_eq_true rfl, Nat.le_of_ble_eq_true rfl⟩ (fun x H locs J hP hD hS => ?_)
      have J : JNV x n tt pg hs k0 k1 := J
      refine k_ldc (v := (-999900002)) cx (by decide +kernel) dL_refuses_354 ?_
      refine lv_icmp_ne (tgt := 420) hx hb dL_refuses_356 (by decide) (fun c9 => absurd (by decide) c9) (fun c9 => ?_)
      refine lv_aload_n hx hb dL_refuses_359 rfl (lv_at hl 3 rfl) ?_
      refine lv_iconst (v := 1) hx hb dL_refuses_360 (by decide) ?_
      refine k_ldc2 (v := 100000) cx (by decide +kernel) dL_refuses_361 ?_
      refine o_runScript hlt cx cl HQ J 1 100000 (r0 := (-999900002)) sc_n2 hP hD hS gL_refuses_L_tryScript ⟨Nat.le_of_ble_eq_true rfl, Nat.le_of_ble_eq_true rfl⟩ hl (Nat.le_of_ble_eq_true rfl) dL_refuses_364 ⟨Nat.le_of_ble_eq_true rfl, Nat.le_of_ble_eq_true rfl⟩ (fun x H locs J hP hD hS => ?_)
      have J : JNV x n tt pg hs k0 k1 := J
      refine k_ldc (v := (-999900002)) cx (by decide +kernel) dL_refuses_367 ?_
      refine lv_icmp_ne (tgt := 420) hx hb dL_refuses_369 (by decide) (fun c9 => absurd (by decide) c9) (fun c9 => ?_)
      refine lv_aload_n hx hb dL_refuses_372 rfl (lv_at hl 3 rfl) ?_
      refine lv_lconst (v := 1) hx hb dL_refuses_373 (by decide) ?_
      refine lv_bipush (v := 100) hx hb dL_refuses_374 (by decide) ?_
      refine o_simulate hlt cx cl HQ J 1 100 (r0 := (-999900002)) sm_n hP hD hS gL_refuses_L_trySimulate ⟨Nat.le_of_ble_eq_true rfl, Nat.le_of_ble_eq_true rfl⟩ hl (Nat.le_of_ble_eq_true rfl) dL_refuses_376 ⟨Nat.le_of_ble_eq_true rfl, Nat.le_of_ble_eq_true rfl⟩ (fun x H locs J hP hD hS => ?_)
      have J : JNV x n tt pg hs k0 k1 := J
      refine k_ldc (v := (-999900002)) cx (by decide +kernel) dL_refuses_379 ?_
      refine lv_icmp_ne (tgt := 420) hx hb dL_refuses_381 (by decide) (fun c9 => absurd (by decide) c9) (fun c9 => ?_)
      refine lv_aload_n hx hb dL_refuses_384 rfl (lv_at hl 3 rfl) ?_
      refine lv_iconst (v := 2) hx hb dL_refuses_385 (by decide) ?_
      refine n_save hlt cx cl HQ J   hP hD hS gL_refuses_L_trySave ⟨Nat.le_of_ble_eq_true rfl, Nat.le_of_ble_eq_true rfl⟩ hl (Nat.le_of_ble_eq_true rfl) dL_refuses_386 ⟨Nat.le_of_ble_eq_true rfl, Nat.le_of_ble_eq_true rfl⟩ (fun H locs hP hD hS => ?_)
      refine k_ldc (v := (-999900001)) cx (by decide +kernel) dL_refuses_389 ?_
      refine lv_icmp_ne (tgt := 420) hx hb dL_refuses_391 (by decide) (fun c9 => absurd (by decide) c9) (fun c9 => ?_)
      refine lv_aload_n hx hb dL_refuses_394 rfl (lv_at hl 3 rfl) ?_
      refine lv_iconst (v := (-1)) hx hb dL_refuses_395 (by decide) ?_
      refine n_restore hlt cx cl HQ J   hP hD hS gL_refuses_L_tryRestore ⟨Nat.le_of_ble_eq_true rfl, Nat.le_of_ble_eq_true rfl⟩ hl (Nat.le_of_ble_eq_true rfl) dL_refuses_396 ⟨Nat.le_of_ble_eq_true rfl, Nat.le_of_ble_eq_true rfl⟩ (fun H locs hP hD hS => ?_)
      refine k_ldc (v := (-999900001)) cx (by decide +kernel) dL_refuses_399 ?_
      refine lv_icmp_ne (tgt := 420) hx hb dL_refuses_401 (by decide) (fun c9 => absurd (by decide) c9) (fun c9 => ?_)
      refine lv_aload_n hx hb dL_refuses_404 rfl (lv_at hl 3 rfl) ?_
      refine lv_sipush (v := 256) hx hb dL_refuses_405 (by decide) ?_
      refine n_append hlt cx cl HQ J   hP hD hS gL_refuses_L_tryAppend ⟨Nat.le_of_ble_eq_true rfl, Nat.le_of_ble_eq_true rfl⟩ hl (Nat.le_of_ble_eq_true rfl) dL_refuses_408 ⟨Nat.le_of_ble_eq_true rfl, Nat.le_of_ble_eq_true rfl⟩ (fun H locs hP hD hS => ?_)
      refine k_ldc (v := (-999900002)) cx (by decide +kernel) dL_refuses_411 ?_
      refine lv_icmp_ne (tgt := 420) hx hb dL_refuses_413 (by decide) (fun c9 => absurd (by decide) c9) (fun c9 => ?_)
      refine lv_iconst (v := 1) hx hb dL_refuses_416 (by decide) ?_
      refine lv_goto (tgt := 421) hx hb dL_refuses_417 (by decide) ?_
      exact k_retG (u := x) cx (nz (Or.inr rfl)) ⟨rfl, J⟩ hP hS ⟨Nat.le_of_ble_eq_true rfl, Nat.le_of_ble_eq_true rfl⟩ dL_refuses_421
    · refine lv_aload_n hx hb dL_refuses_240 rfl (lv_at hl 2 rfl) ?_
      refine lv_iconst (v := 1) hx hb dL_refuses_241 (by decide) ?_
      refine m_add hlt cx cl HQ J 1 (by decide) (six J.pv c237) hP hD hS gL_refuses_L_tryAdd ⟨Nat.le_of_ble_eq_true rfl, Nat.le_of_ble_eq_true rfl⟩ hl (Nat.le_of_ble_eq_true rfl) dL_refuses_242 ⟨Nat.le_of_ble_eq_true rfl, Nat.le_of_ble_eq_true rfl⟩ (fun H locs hP hD hS => ?_)
      refine k_ldc (v := (-999900003)) cx (by decide +kernel) dL_refuses_245 ?_
      refine lv_icmp_ne (tgt := 254) hx hb dL_refuses_247 (by decide) (fun c9 => absurd (by decide) c9) (fun c9 => ?_)
      refine lv_iconst (v := 1) hx hb dL_refuses_250 (by decide) ?_
      refine lv_goto (tgt := 255) hx hb dL_refuses_251 (by decide) ?_
      refine lv_istore_n (lv' := [(3, .int 1), (2, .int 0), (1, .int (pg 9)), (0, .ref d.1)]) hx hb dL_refuses_255 rfl hl (by decide) rfl (fun ls hl => ?_)
      refine lv_iload_n hx hb dL_refuses_256 rfl (lv_at hl 0 rfl) ?_
      refine lv_if_eq (tgt := 420) hx hb dL_refuses_257 (by decide) (fun c9 => absurd c9 (by decide)) (fun c9 => ?_)
      refine lv_aload_n hx hb dL_refuses_260 rfl (lv_at hl 3 rfl) ?_
      refine lv_iconst (v := 3) hx hb dL_refuses_261 (by decide) ?_
      refine o_value hlt cx cl HQ J 3 (r0 := (-999900002)) vl_n hP hD hS gL_refuses_L_tryValue ⟨Nat.le_of_ble_eq_true rfl, Nat.le_of_ble_eq_true rfl⟩ hl (Nat.le_of_ble_eq_true rfl) dL_refuses_262 ⟨Nat.le_of_ble_eq_true rfl, Nat.le_of_ble_eq_true rfl⟩ (fun H locs hP hD hS => ?_)
      refine k_ldc (v := (-999900002)) cx (by decide +kernel) dL_refuses_265 ?_
      refine lv_icmp_ne (tgt := 420) hx hb dL_refuses_267 (by decide) (fun c9 => absurd (by decide) c9) (fun c9 => ?_)
      refine lv_aload_n hx hb dL_refuses_270 rfl (lv_at hl 3 rfl) ?_
      refine lv_iload_n hx hb dL_refuses_271 rfl (lv_at hl 2 rfl) ?_
      refine o_bestR hlt cx cl HQ J (pg 9) (r0 := (-999900001)) (bR_n (un_hi J.pv)) hP hD hS gL_refuses_L_tryBestR ⟨Nat.le_of_ble_eq_true rfl, Nat.le_of_ble_eq_true rfl⟩ hl (Nat.le_of_ble_eq_true rfl) dL_refuses_272 ⟨Nat.le_of_ble_eq_true rfl, Nat.le_of_ble_eq_true rfl⟩ (fun H locs hP hD hS => ?_)
      refine k_ldc (v := (-999900001)) cx (by decide +kernel) dL_refuses_275 ?_
      refine lv_icmp_ne (tgt := 420) hx hb dL_refuses_277 (by decide) (fun c9 => absurd (by decide) c9) (fun c9 => ?_)
      refine lv_aload_n hx hb dL_refuses_280 rfl (lv_at hl 3 rfl) ?_
      refine lv_iconst (v := (-1)) hx hb dL_refuses_281 (by decide) ?_
      refine o_bestArms hlt cx cl HQ J (-1) (r0 := (-999900001)) (bA_n (un_lo (by decide))) hP hD hS gL_refuses_L_tryBestArms ⟨Nat.le_of_ble_eq_true rfl, Nat.le_of_ble_eq_true rfl⟩ hl (Nat.le_of_ble_eq_true rfl) dL_refuses_282 ⟨Nat.le_of_ble_eq_true rfl, Nat.le_of_ble_eq_true rfl⟩ (fun H locs hP hD hS => ?_)
      refine k_ldc (v := (-999900001)) cx (by decide +kernel) dL_refuses_285 ?_
      refine lv_icmp_ne (tgt := 420) hx hb dL_refuses_287 (by decide) (fun c9 => absurd (by decide) c9) (fun c9 => ?_)
      refine lv_aload_n hx hb dL_refuses_290 rfl (lv_at hl 3 rfl) ?_
      refine lv_bipush (v := 100) hx hb dL_refuses_291 (by decide) ?_
      refine lv_iconst (v := 0) hx hb dL_refuses_293 (by decide) ?_
      refine o_offsetAfter hlt cx cl HQ J 100 0 (r0 := (-999900002)) oA_n1 hP hD hS gL_refuses_L_tryOffsetAfter ⟨Nat.le_of_ble_eq_true rfl, Nat.le_of_ble_eq_true rfl⟩ hl (Nat.le_of_ble_eq_true rfl) dL_refuses_294 ⟨Nat.le_of_ble_eq_true rfl, Nat.le_of_ble_eq_true rfl⟩ (fun H locs hP hD hS => ?_)
      refine k_ldc (v := (-999900002)) cx (by decide +kernel) dL_refuses_297 ?_
      refine lv_icmp_ne (tgt := 420) hx hb dL_refuses_299 (by decide) (fun c9 => absurd (by decide) c9) (fun c9 => ?_)
      refine lv_aload_n hx hb dL_refuses_302 rfl (lv_at hl 3 rfl) ?_
      refine lv_iconst (v := 0) hx hb dL_refuses_303 (by decide) ?_
      refine lv_sipush (v := 201) hx hb dL_refuses_304 (by decide) ?_
      refine o_offsetAfter hlt cx cl HQ J 0 201 (r0 := (-999900002)) oA_n2 hP hD hS gL_refuses_L_tryOffsetAfter ⟨Nat.le_of_ble_eq_true rfl, Nat.le_of_ble_eq_true rfl⟩ hl (Nat.le_of_ble_eq_true rfl) dL_refuses_307 ⟨Nat.le_of_ble_eq_true rfl, Nat.le_of_ble_eq_true rfl⟩ (fun H locs hP hD hS => ?_)
      refine k_ldc (v := (-999900002)) cx (by decide +kernel) dL_refuses_310 ?_
      refine lv_icmp_ne (tgt := 420) hx hb dL_refuses_312 (by decide) (fun c9 => absurd (by decide) c9) (fun c9 => ?_)
      refine lv_aload_n hx hb dL_refuses_315 rfl (lv_at hl 3 rfl) ?_
      refine lv_bipush (v := (-51)) hx hb dL_refuses_316 (by decide) ?_
      refine o_waitFor hlt cx cl HQ J (-51) (r0 := (-999900002)) wF_n1 hP hD hS gL_refuses_L_tryWaitFor ⟨Nat.le_of_ble_eq_true rfl, Nat.le_of_ble_eq_true rfl⟩ hl (Nat.le_of_ble_eq_true rfl) dL_refuses_318 ⟨Nat.le_of_ble_eq_true rfl, Nat.le_of_ble_eq_true rfl⟩ (fun H locs hP hD hS => ?_)
      refine k_ldc (v := (-999900002)) cx (by decide +kernel) dL_refuses_321 ?_
      refine lv_icmp_ne (tgt := 420) hx hb dL_refuses_323 (by decide) (fun c9 => absurd (by decide) c9) (fun c9 => ?_)
      refine lv_aload_n hx hb dL_refuses_326 rfl (lv_at hl 3 rfl) ?_
      refine lv_sipush (v := 301) hx hb dL_refuses_327 (by decide) ?_
      refine o_waitFor hlt cx cl HQ J 301 (r0 := (-999900002)) wF_n2 hP hD hS gL_refuses_L_tryWaitFor ⟨Nat.le_of_ble_eq_true rfl, Nat.le_of_ble_eq_true rfl⟩ hl (Nat.le_of_ble_eq_true rfl) dL_refuses_330 ⟨Nat.le_of_ble_eq_true rfl, Nat.le_of_ble_eq_true rfl⟩ (fun H locs hP hD hS => ?_)
      refine k_ldc (v := (-999900002)) cx (by decide +kernel) dL_refuses_333 ?_
      refine lv_icmp_ne (tgt := 420) hx hb dL_refuses_335 (by decide) (fun c9 => absurd (by decide) c9) (fun c9 => ?_)
      refine lv_aload_n hx hb dL_refuses_338 rfl (lv_at hl 3 rfl) ?_
      refine lv_iconst (v := 4) hx hb dL_refuses_339 (by decide) ?_
      refine o_balanced hlt cx cl HQ J 4 (r0 := (-999900002)) bl_n hP hD hS gL_refuses_L_tryBalanced ⟨Nat.le_of_ble_eq_true rfl, Nat.le_of_ble_eq_true rfl⟩ hl (Nat.le_of_ble_eq_true rfl) dL_refuses_340 ⟨Nat.le_of_ble_eq_true rfl, Nat.le_of_ble_eq_true rfl⟩ (fun x H locs J hP hD hS => ?_)
      have J : JNV x n tt pg hs k0 k1 := J
      refine k_ldc (v := (-999900002)) cx (by decide +kernel) dL_refuses_343 ?_
      refine lv_icmp_ne (tgt := 420) hx hb dL_refuses_345 (by decide) (fun c9 => absurd (by decide) c9) (fun c9 => ?_)
      refine lv_aload_n hx hb dL_refuses_348 rfl (lv_at hl 3 rfl) ?_
      refine lv_iconst (v := 4) hx hb dL_refuses_349 (by decide) ?_
      refine lv_lconst (v := 0) hx hb dL_refuses_350 (by decide) ?_
      refine o_runScript hlt cx cl HQ J 4 0 (r0 := (-999900002)) sc_n1 hP hD hS gL_refuses_L_tryScript ⟨Nat.le_of_ble_eq_true rfl, Nat.le_of_ble_eq_true rfl⟩ hl (Nat.le_of_ble_eq_true rfl) dL_refuses_351 ⟨Nat.le_of_ble_eq_true rfl, Nat.le_of_ble_eq_true rfl⟩ (fun x H locs J hP hD hS => ?_)
      have J : JNV x n tt pg hs k0 k1 := J
      refine k_ldc (v := (-999900002)) cx (by decide +kernel) dL_refuses_354 ?_
      refine lv_icmp_ne (tgt := 420) hx hb dL_refuses_356 (by decide) (fun c9 => absurd (by decide) c9) (fun c9 => ?_)
      refine lv_aload_n hx hb dL_refuses_359 rfl (lv_at hl 3 rfl) ?_
      refine lv_iconst (v := 1) hx hb dL_refuses_360 (by decide) ?_
      refine k_ldc2 (v := 100000) cx (by decide +kernel) dL_refuses_361 ?_
      refine o_runScript hlt cx cl HQ J 1 100000 (r0 := (-999900002)) sc_n2 hP hD hS gL_refuses_L_tryScript ⟨Nat.le_of_ble_eq_true rfl, Nat.le_of_ble_eq_true rfl⟩ hl (Nat.le_of_ble_eq_true rfl) dL_refuses_364 ⟨Nat.le_of_ble_eq_true rfl, Nat.le_of_ble_eq_true rfl⟩ (fun x H locs J hP hD hS => ?_)
      have J : JNV x n tt pg hs k0 k1 := J
      refine k_ldc (v := (-999900002)) cx (by decide +kernel) dL_refuses_367 ?_
      refine lv_icmp_ne (tgt := 420) hx hb dL_refuses_369 (by decide) (fun c9 => absurd (by decide) c9) (fun c9 => ?_)
      refine lv_aload_n hx hb dL_refuses_372 rfl (lv_at hl 3 rfl) ?_
      refine lv_lconst (v := 1) hx hb dL_refuses_373 (by decide) ?_
      refine lv_bipush (v := 100) hx hb dL_refuses_374 (by decide) ?_
      refine o_simulate hlt cx cl HQ J 1 100 (r0 := (-999900002)) sm_n hP hD hS gL_refuses_L_trySimulate ⟨Nat.le_of_ble_eq_true rfl, Nat.le_of_ble_eq_true rfl⟩ hl (Nat.le_of_ble_eq_true rfl) dL_refuses_376 ⟨Nat.le_of_ble_eq_true rfl, Nat.le_of_ble_eq_true rfl⟩ (fun x H locs J hP hD hS => ?_)
      have J : JNV x n tt pg hs k0 k1 := J
      refine k_ldc (v := (-999900002)) cx (by decide +kernel) dL_refuses_379 ?_
      refine lv_icmp_ne (tgt := 420) hx hb dL_refuses_381 (by decide) (fun c9 => absurd (by decide) c9) (fun c9 => ?_)
      refine lv_aload_n hx hb dL_refuses_384 rfl (lv_at hl 3 rfl) ?_
      refine lv_iconst (v := 2) hx hb dL_refuses_385 (by decide) ?_
      refine n_save hlt cx cl HQ J   hP hD hS gL_refuses_L_trySave ⟨Nat.le_of_ble_eq_true rfl, Nat.le_of_ble_eq_true rfl⟩ hl (Nat.le_of_ble_eq_true rfl) dL_refuses_386 ⟨Nat.le_of_ble_eq_true rfl, Nat.le_of_ble_eq_true rfl⟩ (fun H locs hP hD hS => ?_)
      refine k_ldc (v := (-999900001)) cx (by decide +kernel) dL_refuses_389 ?_
      refine lv_icmp_ne (tgt := 420) hx hb dL_refuses_391 (by decide) (fun c9 => absurd (by decide) c9) (fun c9 => ?_)
      refine lv_aload_n hx hb dL_refuses_394 rfl (lv_at hl 3 rfl) ?_
      refine lv_iconst (v := (-1)) hx hb dL_refuses_395 (by decide) ?_
      refine n_restore hlt cx cl HQ J   hP hD hS gL_refuses_L_tryRestore ⟨Nat.le_of_ble_eq_true rfl, Nat.le_of_ble_eq_true rfl⟩ hl (Nat.le_of_ble_eq_true rfl) dL_refuses_396 ⟨Nat.le_of_ble_eq_true rfl, Nat.le_of_ble_eq_true rfl⟩ (fun H locs hP hD hS => ?_)
      refine k_ldc (v := (-999900001)) cx (by decide +kernel) dL_refuses_399 ?_
      refine lv_icmp_ne (tgt := 420) hx hb dL_refuses_401 (by decide) (fun c9 => absurd (by decide) c9) (fun c9 => ?_)
      refine lv_aload_n hx hb dL_refuses_404 rfl (lv_at hl 3 rfl) ?_
      refine lv_sipush (v := 256) hx hb dL_refuses_405 (by decide) ?_
      refine n_append hlt cx cl HQ J   hP hD hS gL_refuses_L_tryAppend ⟨Nat.le_of_ble_eq_true rfl, Nat.le_of_ble_eq_true rfl⟩ hl (Nat.le_of_ble_eq_true rfl) dL_refuses_408 ⟨Nat.le_of_ble_eq_true rfl, Nat.le_of_ble_eq_true rfl⟩ (fun H locs hP hD hS => ?_)
      refine k_ldc (v := (-999900002)) cx (by decide +kernel) dL_refuses_411 ?_
      refine lv_icmp_ne (tgt := 420) hx hb dL_refuses_413 (by decide) (fun c9 => absurd (by decide) c9) (fun c9 => ?_)
      refine lv_iconst (v := 1) hx hb dL_refuses_416 (by decide) ?_
      refine lv_goto (tgt := 421) hx hb dL_refuses_417 (by decide) ?_
      exact k_retG (u := x) cx (nz (Or.inr rfl)) ⟨rfl, J⟩ hP hS ⟨Nat.le_of_ble_eq_true rfl, Nat.le_of_ble_eq_true rfl⟩ dL_refuses_421
  · refine lv_iconst (v := 1) hx hb dL_refuses_17 (by decide) ?_
    refine lv_goto (tgt := 22) hx hb dL_refuses_18 (by decide) ?_
    refine lv_istore_n (lv' := [(2, .int 1), (1, .int (pg 9)), (0, .ref d.1)]) hx hb dL_refuses_22 rfl hl (by decide) rfl (fun ls hl => ?_)
    refine lv_aload_n hx hb dL_refuses_23 rfl (lv_at hl 2 rfl) ?_
    refine lv_bipush (v := 16) hx hb dL_refuses_24 (by decide) ?_
    refine o_about hlt cx cl HQ J 16 (r0 := (-999900002)) ab_n hP hD hS gL_refuses_L_tryAbout ⟨Nat.le_of_ble_eq_true rfl, Nat.le_of_ble_eq_true rfl⟩ hl (Nat.le_of_ble_eq_true rfl) dL_refuses_26 ⟨Nat.le_of_ble_eq_true rfl, Nat.le_of_ble_eq_true rfl⟩ (fun H locs hP hD hS => ?_)
    refine k_ldc (v := (-999900002)) cx (by decide +kernel) dL_refuses_29 ?_
    refine lv_icmp_ne (tgt := 254) hx hb dL_refuses_31 (by decide) (fun c9 => absurd (by decide) c9) (fun c9 => ?_)
    refine lv_aload_n hx hb dL_refuses_34 rfl (lv_at hl 2 rfl) ?_
    refine lv_iconst (v := (-1)) hx hb dL_refuses_35 (by decide) ?_
    refine lv_iconst (v := 0) hx hb dL_refuses_36 (by decide) ?_
    refine o_told hlt cx cl HQ J (-1) 0 (r0 := (-999900002)) td_n1 hP hD hS gL_refuses_L_tryTold ⟨Nat.le_of_ble_eq_true rfl, Nat.le_of_ble_eq_true rfl⟩ hl (Nat.le_of_ble_eq_true rfl) dL_refuses_37 ⟨Nat.le_of_ble_eq_true rfl, Nat.le_of_ble_eq_true rfl⟩ (fun H locs hP hD hS => ?_)
    refine k_ldc (v := (-999900002)) cx (by decide +kernel) dL_refuses_40 ?_
    refine lv_icmp_ne (tgt := 254) hx hb dL_refuses_42 (by decide) (fun c9 => absurd (by decide) c9) (fun c9 => ?_)
    refine lv_aload_n hx hb dL_refuses_45 rfl (lv_at hl 2 rfl) ?_
    refine lv_iconst (v := 0) hx hb dL_refuses_46 (by decide) ?_
    refine lv_iconst (v := 4) hx hb dL_refuses_47 (by decide) ?_
    refine o_told hlt cx cl HQ J 0 4 (r0 := (-999900002)) td_n2 hP hD hS gL_refuses_L_tryTold ⟨Nat.le_of_ble_eq_true rfl, Nat.le_of_ble_eq_true rfl⟩ hl (Nat.le_of_ble_eq_true rfl) dL_refuses_48 ⟨Nat.le_of_ble_eq_true rfl, Nat.le_of_ble_eq_true rfl⟩ (fun H locs hP hD hS => ?_)
    refine k_ldc (v := (-999900002)) cx (by decide +kernel) dL_refuses_51 ?_
    refine lv_icmp_ne (tgt := 254) hx hb dL_refuses_53 (by decide) (fun c9 => absurd (by decide) c9) (fun c9 => ?_)
    refine lv_aload_n hx hb dL_refuses_56 rfl (lv_at hl 2 rfl) ?_
    refine lv_iconst (v := 5) hx hb dL_refuses_57 (by decide) ?_
    refine o_bridge hlt cx cl HQ J 5 (r0 := (-999900002)) br_n hP hD hS gL_refuses_L_tryBridge ⟨Nat.le_of_ble_eq_true rfl, Nat.le_of_ble_eq_true rfl⟩ hl (Nat.le_of_ble_eq_true rfl) dL_refuses_58 ⟨Nat.le_of_ble_eq_true rfl, Nat.le_of_ble_eq_true rfl⟩ (fun H locs hP hD hS => ?_)
    refine k_ldc (v := (-999900002)) cx (by decide +kernel) dL_refuses_61 ?_
    refine lv_icmp_ne (tgt := 254) hx hb dL_refuses_63 (by decide) (fun c9 => absurd (by decide) c9) (fun c9 => ?_)
    refine lv_iload_n hx hb dL_refuses_66 rfl (lv_at hl 0 rfl) ?_
    refine lv_if_eq (tgt := 98) hx hb dL_refuses_67 (by decide) (fun c9 => absurd c9 (by decide)) (fun c9 => ?_)
    refine lv_aload_n hx hb dL_refuses_70 rfl (lv_at hl 2 rfl) ?_
    refine lv_iconst (v := 1) hx hb dL_refuses_71 (by decide) ?_
    refine n_press hlt cx cl HQ J 1 c14 hP hD hS gL_refuses_L_tryPress ⟨Nat.le_of_ble_eq_true rfl, Nat.le_of_ble_eq_true rfl⟩ hl (Nat.le_of_ble_eq_true rfl) dL_refuses_72 ⟨Nat.le_of_ble_eq_true rfl, Nat.le_of_ble_eq_true rfl⟩ (fun H locs hP hD hS => ?_)
    refine k_ldc (v := (-999900003)) cx (by decide +kernel) dL_refuses_75 ?_
    refine lv_icmp_ne (tgt := 254) hx hb dL_refuses_77 (by decide) (fun c9 => absurd (by decide) c9) (fun c9 => ?_)
    refine lv_aload_n hx hb dL_refuses_80 rfl (lv_at hl 2 rfl) ?_
    refine n_pair hlt cx cl HQ J  c14 hP hD hS gL_refuses_L_tryPair ⟨Nat.le_of_ble_eq_true rfl, Nat.le_of_ble_eq_true rfl⟩ hl (Nat.le_of_ble_eq_true rfl) dL_refuses_81 ⟨Nat.le_of_ble_eq_true rfl, Nat.le_of_ble_eq_true rfl⟩ (fun H locs hP hD hS => ?_)
    refine k_ldc (v := (-999900003)) cx (by decide +kernel) dL_refuses_84 ?_
    refine lv_icmp_ne (tgt := 254) hx hb dL_refuses_86 (by decide) (fun c9 => absurd (by decide) c9) (fun c9 => ?_)
    refine lv_aload_n hx hb dL_refuses_89 rfl (lv_at hl 2 rfl) ?_
    refine n_balance hlt cx cl HQ J  c14 hP hD hS gL_refuses_L_tryBalance ⟨Nat.le_of_ble_eq_true rfl, Nat.le_of_ble_eq_true rfl⟩ hl (Nat.le_of_ble_eq_true rfl) dL_refuses_90 ⟨Nat.le_of_ble_eq_true rfl, Nat.le_of_ble_eq_true rfl⟩ (fun H locs hP hD hS => ?_)
    refine k_ldc (v := (-999900003)) cx (by decide +kernel) dL_refuses_93 ?_
    refine lv_icmp_ne (tgt := 254) hx hb dL_refuses_95 (by decide) (fun c9 => absurd (by decide) c9) (fun c9 => ?_)
    refine lv_aload_n hx hb dL_refuses_98 rfl (lv_at hl 2 rfl) ?_
    refine lv_iconst (v := 0) hx hb dL_refuses_99 (by decide) ?_
    refine n_pause hlt cx cl HQ J 0 (by decide) hP hD hS gL_refuses_L_tryPause ⟨Nat.le_of_ble_eq_true rfl, Nat.le_of_ble_eq_true rfl⟩ hl (Nat.le_of_ble_eq_true rfl) dL_refuses_100 ⟨Nat.le_of_ble_eq_true rfl, Nat.le_of_ble_eq_true rfl⟩ (fun H locs hP hD hS => ?_)
    refine k_ldc (v := (-999900002)) cx (by decide +kernel) dL_refuses_103 ?_
    refine lv_icmp_ne (tgt := 254) hx hb dL_refuses_105 (by decide) (fun c9 => absurd (by decide) c9) (fun c9 => ?_)
    refine lv_aload_n hx hb dL_refuses_108 rfl (lv_at hl 2 rfl) ?_
    refine lv_sipush (v := 201) hx hb dL_refuses_109 (by decide) ?_
    refine n_pause hlt cx cl HQ J 201 (by decide) hP hD hS gL_refuses_L_tryPause ⟨Nat.le_of_ble_eq_true rfl, Nat.le_of_ble_eq_true rfl⟩ hl (Nat.le_of_ble_eq_true rfl) dL_refuses_112 ⟨Nat.le_of_ble_eq_true rfl, Nat.le_of_ble_eq_true rfl⟩ (fun H locs hP hD hS => ?_)
    refine k_ldc (v := (-999900002)) cx (by decide +kernel) dL_refuses_115 ?_
    refine lv_icmp_ne (tgt := 254) hx hb dL_refuses_117 (by decide) (fun c9 => absurd (by decide) c9) (fun c9 => ?_)
    refine lv_aload_n hx hb dL_refuses_120 rfl (lv_at hl 2 rfl) ?_
    refine lv_iconst (v := 0) hx hb dL_refuses_121 (by decide) ?_
    refine lv_iconst (v := 4) hx hb dL_refuses_122 (by decide) ?_
    refine n_set hlt cx cl HQ J 0 4 (by decide) hP hD hS gL_refuses_L_trySet ⟨Nat.le_of_ble_eq_true rfl, Nat.le_of_ble_eq_true rfl⟩ hl (Nat.le_of_ble_eq_true rfl) dL_refuses_123 ⟨Nat.le_of_ble_eq_true rfl, Nat.le_of_ble_eq_true rfl⟩ (fun H locs hP hD hS => ?_)
    refine k_ldc (v := (-999900002)) cx (by decide +kernel) dL_refuses_126 ?_
    refine lv_icmp_ne (tgt := 254) hx hb dL_refuses_128 (by decide) (fun c9 => absurd (by decide) c9) (fun c9 => ?_)
    refine lv_aload_n hx hb dL_refuses_131 rfl (lv_at hl 2 rfl) ?_
    refine lv_iconst (v := 1) hx hb dL_refuses_132 (by decide) ?_
    refine lv_iconst (v := (-1)) hx hb dL_refuses_133 (by decide) ?_
    refine n_set hlt cx cl HQ J 1 (-1) (by decide) hP hD hS gL_refuses_L_trySet ⟨Nat.le_of_ble_eq_true rfl, Nat.le_of_ble_eq_true rfl⟩ hl (Nat.le_of_ble_eq_true rfl) dL_refuses_134 ⟨Nat.le_of_ble_eq_true rfl, Nat.le_of_ble_eq_true rfl⟩ (fun H locs hP hD hS => ?_)
    refine k_ldc (v := (-999900002)) cx (by decide +kernel) dL_refuses_137 ?_
    refine lv_icmp_ne (tgt := 254) hx hb dL_refuses_139 (by decide) (fun c9 => absurd (by decide) c9) (fun c9 => ?_)
    refine lv_aload_n hx hb dL_refuses_142 rfl (lv_at hl 2 rfl) ?_
    refine lv_iconst (v := 2) hx hb dL_refuses_143 (by decide) ?_
    refine lv_sipush (v := 10000) hx hb dL_refuses_144 (by decide) ?_
    refine n_set hlt cx cl HQ J 2 10000 (by decide) hP hD hS gL_refuses_L_trySet ⟨Nat.le_of_ble_eq_true rfl, Nat.le_of_ble_eq_true rfl⟩ hl (Nat.le_of_ble_eq_true rfl) dL_refuses_147 ⟨Nat.le_of_ble_eq_true rfl, Nat.le_of_ble_eq_true rfl⟩ (fun H locs hP hD hS => ?_)
    refine k_ldc (v := (-999900002)) cx (by decide +kernel) dL_refuses_150 ?_
    refine lv_icmp_ne (tgt := 254) hx hb dL_refuses_152 (by decide) (fun c9 => absurd (by decide) c9) (fun c9 => ?_)
    refine lv_aload_n hx hb dL_refuses_155 rfl (lv_at hl 2 rfl) ?_
    refine lv_iconst (v := 3) hx hb dL_refuses_156 (by decide) ?_
    refine lv_iconst (v := 0) hx hb dL_refuses_157 (by decide) ?_
    refine n_set hlt cx cl HQ J 3 0 (by decide) hP hD hS gL_refuses_L_trySet ⟨Nat.le_of_ble_eq_true rfl, Nat.le_of_ble_eq_true rfl⟩ hl (Nat.le_of_ble_eq_true rfl) dL_refuses_158 ⟨Nat.le_of_ble_eq_true rfl, Nat.le_of_ble_eq_true rfl⟩ (fun H locs hP hD hS => ?_)
    refine k_ldc (v := (-999900002)) cx (by decide +kernel) dL_refuses_161 ?_
    refine lv_icmp_ne (tgt := 254) hx hb dL_refuses_163 (by decide) (fun c9 => absurd (by decide) c9) (fun c9 => ?_)
    refine lv_aload_n hx hb dL_refuses_166 rfl (lv_at hl 2 rfl) ?_
    refine lv_iconst (v := 4) hx hb dL_refuses_167 (by decide) ?_
    refine lv_iconst (v := 4) hx hb dL_refuses_168 (by decide) ?_
    refine n_set hlt cx cl HQ J 4 4 (by decide) hP hD hS gL_refuses_L_trySet ⟨Nat.le_of_ble_eq_true rfl, Nat.le_of_ble_eq_true rfl⟩ hl (Nat.le_of_ble_eq_true rfl) dL_refuses_169 ⟨Nat.le_of_ble_eq_true rfl, Nat.le_of_ble_eq_true rfl⟩ (fun H locs hP hD hS => ?_)
    refine k_ldc (v := (-999900002)) cx (by decide +kernel) dL_refuses_172 ?_
    refine lv_icmp_ne (tgt := 254) hx hb dL_refuses_174 (by decide) (fun c9 => absurd (by decide) c9) (fun c9 => ?_)
    refine lv_aload_n hx hb dL_refuses_177 rfl (lv_at hl 2 rfl) ?_
    refine lv_iconst (v := 5) hx hb dL_refuses_178 (by decide) ?_
    refine lv_bipush (v := 51) hx hb dL_refuses_179 (by decide) ?_
    refine n_set hlt cx cl HQ J 5 51 (by decide) hP hD hS gL_refuses_L_trySet ⟨Nat.le_of_ble_eq_true rfl, Nat.le_of_ble_eq_true rfl⟩ hl (Nat.le_of_ble_eq_true rfl) dL_refuses_181 ⟨Nat.le_of_ble_eq_true rfl, Nat.le_of_ble_eq_true rfl⟩ (fun H locs hP hD hS => ?_)
    refine k_ldc (v := (-999900002)) cx (by decide +kernel) dL_refuses_184 ?_
    refine lv_icmp_ne (tgt := 254) hx hb dL_refuses_186 (by decide) (fun c9 => absurd (by decide) c9) (fun c9 => ?_)
    refine lv_aload_n hx hb dL_refuses_189 rfl (lv_at hl 2 rfl) ?_
    refine lv_bipush (v := 6) hx hb dL_refuses_190 (by decide) ?_
    refine lv_bipush (v := 21) hx hb dL_refuses_192 (by decide) ?_
    refine n_set hlt cx cl HQ J 6 21 (by decide) hP hD hS gL_refuses_L_trySet ⟨Nat.le_of_ble_eq_true rfl, Nat.le_of_ble_eq_true rfl⟩ hl (Nat.le_of_ble_eq_true rfl) dL_refuses_194 ⟨Nat.le_of_ble_eq_true rfl, Nat.le_of_ble_eq_true rfl⟩ (fun H locs hP hD hS => ?_)
    refine k_ldc (v := (-999900002)) cx (by decide +kernel) dL_refuses_197 ?_
    refine lv_icmp_ne (tgt := 254) hx hb dL_refuses_199 (by decide) (fun c9 => absurd (by decide) c9) (fun c9 => ?_)
    refine lv_aload_n hx hb dL_refuses_202 rfl (lv_at hl 2 rfl) ?_
    refine lv_bipush (v := 7) hx hb dL_refuses_203 (by decide) ?_
    refine lv_iconst (v := 0) hx hb dL_refuses_205 (by decide) ?_
    refine n_set hlt cx cl HQ J 7 0 (by decide) hP hD hS gL_refuses_L_trySet ⟨Nat.le_of_ble_eq_true rfl, Nat.le_of_ble_eq_true rfl⟩ hl (Nat.le_of_ble_eq_true rfl) dL_refuses_206 ⟨Nat.le_of_ble_eq_true rfl, Nat.le_of_ble_eq_true rfl⟩ (fun H locs hP hD hS => ?_)
    refine k_ldc (v := (-999900002)) cx (by decide +kernel) dL_refuses_209 ?_
    refine lv_icmp_ne (tgt := 254) hx hb dL_refuses_211 (by decide) (fun c9 => absurd (by decide) c9) (fun c9 => ?_)
    refine lv_aload_n hx hb dL_refuses_214 rfl (lv_at hl 2 rfl) ?_
    refine lv_iload_n hx hb dL_refuses_215 rfl (lv_at hl 1 rfl) ?_
    refine n_choose hlt cx cl HQ J (pg 9) (un_hi J.pv) hP hD hS gL_refuses_L_tryChoose ⟨Nat.le_of_ble_eq_true rfl, Nat.le_of_ble_eq_true rfl⟩ hl (Nat.le_of_ble_eq_true rfl) dL_refuses_216 ⟨Nat.le_of_ble_eq_true rfl, Nat.le_of_ble_eq_true rfl⟩ (fun H locs hP hD hS => ?_)
    refine k_ldc (v := (-999900001)) cx (by decide +kernel) dL_refuses_219 ?_
    refine lv_icmp_ne (tgt := 254) hx hb dL_refuses_221 (by decide) (fun c9 => absurd (by decide) c9) (fun c9 => ?_)
    refine lv_aload_n hx hb dL_refuses_224 rfl (lv_at hl 2 rfl) ?_
    refine lv_iconst (v := 0) hx hb dL_refuses_225 (by decide) ?_
    refine n_add hlt cx cl HQ J 0 (by decide) hP hD hS gL_refuses_L_tryAdd ⟨Nat.le_of_ble_eq_true rfl, Nat.le_of_ble_eq_true rfl⟩ hl (Nat.le_of_ble_eq_true rfl) dL_refuses_226 ⟨Nat.le_of_ble_eq_true rfl, Nat.le_of_ble_eq_true rfl⟩ (fun H locs hP hD hS => ?_)
    refine k_ldc (v := (-999900002)) cx (by decide +kernel) dL_refuses_229 ?_
    refine lv_icmp_ne (tgt := 254) hx hb dL_refuses_231 (by decide) (fun c9 => absurd (by decide) c9) (fun c9 => ?_)
    refine lv_iload_n hx hb dL_refuses_234 rfl (lv_at hl 1 rfl) ?_
    refine lv_bipush (v := 6) hx hb dL_refuses_235 (by decide) ?_
    refine lv_icmp_lt (tgt := 250) hx hb dL_refuses_237 (by decide) (fun c237 => ?_) (fun c237 => ?_)
    · refine lv_iconst (v := 1) hx hb dL_refuses_250 (by decide) ?_
      refine lv_goto (tgt := 255) hx hb dL_refuses_251 (by decide) ?_
      refine lv_istore_n (lv' := [(3, .int 1), (2, .int 1), (1, .int (pg 9)), (0, .ref d.1)]) hx hb dL_refuses_255 rfl hl (by decide) rfl (fun ls hl => ?_)
      refine lv_iload_n hx hb dL_refuses_256 rfl (lv_at hl 0 rfl) ?_
      refine lv_if_eq (tgt := 420) hx hb dL_refuses_257 (by decide) (fun c9 => absurd c9 (by decide)) (fun c9 => ?_)
      refine lv_aload_n hx hb dL_refuses_260 rfl (lv_at hl 3 rfl) ?_
      refine lv_iconst (v := 3) hx hb dL_refuses_261 (by decide) ?_
      refine o_value hlt cx cl HQ J 3 (r0 := (-999900002)) vl_n hP hD hS gL_refuses_L_tryValue ⟨Nat.le_of_ble_eq_true rfl, Nat.le_of_ble_eq_true rfl⟩ hl (Nat.le_of_ble_eq_true rfl) dL_refuses_262 ⟨Nat.le_of_ble_eq_true rfl, Nat.le_of_ble_eq_true rfl⟩ (fun H locs hP hD hS => ?_)
      refine k_ldc (v := (-999900002)) cx (by decide +kernel) dL_refuses_265 ?_
      refine lv_icmp_ne (tgt := 420) hx hb dL_refuses_267 (by decide) (fun c9 => absurd (by decide) c9) (fun c9 => ?_)
      refine lv_aload_n hx hb dL_refuses_270 rfl (lv_at hl 3 rfl) ?_
      refine lv_iload_n hx hb dL_refuses_271 rfl (lv_at hl 2 rfl) ?_
      refine o_bestR hlt cx cl HQ J (pg 9) (r0 := (-999900001)) (bR_n (un_hi J.pv)) hP hD hS gL_refuses_L_tryBestR ⟨Nat.le_of_ble_eq_true rfl, Nat.le_of_ble_eq_true rfl⟩ hl (Nat.le_of_ble_eq_true rfl) dL_refuses_272 ⟨Nat.le_of_ble_eq_true rfl, Nat.le_of_ble_eq_true rfl⟩ (fun H locs hP hD hS => ?_)
      refine k_ldc (v := (-999900001)) cx (by decide +kernel) dL_refuses_275 ?_
      refine lv_icmp_ne (tgt := 420) hx hb dL_refuses_277 (by decide) (fun c9 => absurd (by decide) c9) (fun c9 => ?_)
      refine lv_aload_n hx hb dL_refuses_280 rfl (lv_at hl 3 rfl) ?_
      refine lv_iconst (v := (-1)) hx hb dL_refuses_281 (by decide) ?_
      refine o_bestArms hlt cx cl HQ J (-1) (r0 := (-999900001)) (bA_n (un_lo (by decide))) hP hD hS gL_refuses_L_tryBestArms ⟨Nat.le_of_ble_eq_true rfl, Nat.le_of_ble_eq_true rfl⟩ hl (Nat.le_of_ble_eq_true rfl) dL_refuses_282 ⟨Nat.le_of_ble_eq_true rfl, Nat.le_of_ble_eq_true rfl⟩ (fun H locs hP hD hS => ?_)
      refine k_ldc (v := (-999900001)) cx (by decide +kernel) dL_refuses_285 ?_
      refine lv_icmp_ne (tgt := 420) hx hb dL_refuses_287 (by decide) (fun c9 => absurd (by decide) c9) (fun c9 => ?_)
      refine lv_aload_n hx hb dL_refuses_290 rfl (lv_at hl 3 rfl) ?_
      refine lv_bipush (v := 100) hx hb dL_refuses_291 (by decide) ?_
      refine lv_iconst (v := 0) hx hb dL_refuses_293 (by decide) ?_
      refine o_offsetAfter hlt cx cl HQ J 100 0 (r0 := (-999900002)) oA_n1 hP hD hS gL_refuses_L_tryOffsetAfter ⟨Nat.le_of_ble_eq_true rfl, Nat.le_of_ble_eq_true rfl⟩ hl (Nat.le_of_ble_eq_true rfl) dL_refuses_294 ⟨Nat.le_of_ble_eq_true rfl, Nat.le_of_ble_eq_true rfl⟩ (fun H locs hP hD hS => ?_)
      refine k_ldc (v := (-999900002)) cx (by decide +kernel) dL_refuses_297 ?_
      refine lv_icmp_ne (tgt := 420) hx hb dL_refuses_299 (by decide) (fun c9 => absurd (by decide) c9) (fun c9 => ?_)
      refine lv_aload_n hx hb dL_refuses_302 rfl (lv_at hl 3 rfl) ?_
      refine lv_iconst (v := 0) hx hb dL_refuses_303 (by decide) ?_
      refine lv_sipush (v := 201) hx hb dL_refuses_304 (by decide) ?_
      refine o_offsetAfter hlt cx cl HQ J 0 201 (r0 := (-999900002)) oA_n2 hP hD hS gL_refuses_L_tryOffsetAfter ⟨Nat.le_of_ble_eq_true rfl, Nat.le_of_ble_eq_true rfl⟩ hl (Nat.le_of_ble_eq_true rfl) dL_refuses_307 ⟨Nat.le_of_ble_eq_true rfl, Nat.le_of_ble_eq_true rfl⟩ (fun H locs hP hD hS => ?_)
      refine k_ldc (v := (-999900002)) cx (by decide +kernel) dL_refuses_310 ?_
      refine lv_icmp_ne (tgt := 420) hx hb dL_refuses_312 (by decide) (fun c9 => absurd (by decide) c9) (fun c9 => ?_)
      refine lv_aload_n hx hb dL_refuses_315 rfl (lv_at hl 3 rfl) ?_
      refine lv_bipush (v := (-51)) hx hb dL_refuses_316 (by decide) ?_
      refine o_waitFor hlt cx cl HQ J (-51) (r0 := (-999900002)) wF_n1 hP hD hS gL_refuses_L_tryWaitFor ⟨Nat.le_of_ble_eq_true rfl, Nat.le_of_ble_eq_true rfl⟩ hl (Nat.le_of_ble_eq_true rfl) dL_refuses_318 ⟨Nat.le_of_ble_eq_true rfl, Nat.le_of_ble_eq_true rfl⟩ (fun H locs hP hD hS => ?_)
      refine k_ldc (v := (-999900002)) cx (by decide +kernel) dL_refuses_321 ?_
      refine lv_icmp_ne (tgt := 420) hx hb dL_refuses_323 (by decide) (fun c9 => absurd (by decide) c9) (fun c9 => ?_)
      refine lv_aload_n hx hb dL_refuses_326 rfl (lv_at hl 3 rfl) ?_
      refine lv_sipush (v := 301) hx hb dL_refuses_327 (by decide) ?_
      refine o_waitFor hlt cx cl HQ J 301 (r0 := (-999900002)) wF_n2 hP hD hS gL_refuses_L_tryWaitFor ⟨Nat.le_of_ble_eq_true rfl, Nat.le_of_ble_eq_true rfl⟩ hl (Nat.le_of_ble_eq_true rfl) dL_refuses_330 ⟨Nat.le_of_ble_eq_true rfl, Nat.le_of_ble_eq_true rfl⟩ (fun H locs hP hD hS => ?_)
      refine k_ldc (v := (-999900002)) cx (by decide +kernel) dL_refuses_333 ?_
      refine lv_icmp_ne (tgt := 420) hx hb dL_refuses_335 (by decide) (fun c9 => absurd (by decide) c9) (fun c9 => ?_)
      refine lv_aload_n hx hb dL_refuses_338 rfl (lv_at hl 3 rfl) ?_
      refine lv_iconst (v := 4) hx hb dL_refuses_339 (by decide) ?_
      refine o_balanced hlt cx cl HQ J 4 (r0 := (-999900002)) bl_n hP hD hS gL_refuses_L_tryBalanced ⟨Nat.le_of_ble_eq_true rfl, Nat.le_of_ble_eq_true rfl⟩ hl (Nat.le_of_ble_eq_true rfl) dL_refuses_340 ⟨Nat.le_of_ble_eq_true rfl, Nat.le_of_ble_eq_true rfl⟩ (fun x H locs J hP hD hS => ?_)
      have J : JNV x n tt pg hs k0 k1 := J
      refine k_ldc (v := (-999900002)) cx (by decide +kernel) dL_refuses_343 ?_
      refine lv_icmp_ne (tgt := 420) hx hb dL_refuses_345 (by decide) (fun c9 => absurd (by decide) c9) (fun c9 => ?_)
      refine lv_aload_n hx hb dL_refuses_348 rfl (lv_at hl 3 rfl) ?_
      refine lv_iconst (v := 4) hx hb dL_refuses_349 (by decide) ?_
      refine lv_lconst (v := 0) hx hb dL_refuses_350 (by decide) ?_
      refine o_runScript hlt cx cl HQ J 4 0 (r0 := (-999900002)) sc_n1 hP hD hS gL_refuses_L_tryScript ⟨Nat.le_of_ble_eq_true rfl, Nat.le_of_ble_eq_true rfl⟩ hl (Nat.le_of_ble_eq_true rfl) dL_refuses_351 ⟨Nat.le_of_ble_eq_true rfl, Nat.le_of_ble_eq_true rfl⟩ (fun x H locs J hP hD hS => ?_)
      have J : JNV x n tt pg hs k0 k1 := J
      refine k_ldc (v := (-999900002)) cx (by decide +kernel) dL_refuses_354 ?_
      refine lv_icmp_ne (tgt := 420) hx hb dL_refuses_356 (by decide) (fun c9 => absurd (by decide) c9) (fun c9 => ?_)
      refine lv_aload_n hx hb dL_refuses_359 rfl (lv_at hl 3 rfl) ?_
      refine lv_iconst (v := 1) hx hb dL_refuses_360 (by decide) ?_
      refine k_ldc2 (v := 100000) cx (by decide +kernel) dL_refuses_361 ?_
      refine o_runScript hlt cx cl HQ J 1 100000 (r0 := (-999900002)) sc_n2 hP hD hS gL_refuses_L_tryScript ⟨Nat.le_of_ble_eq_true rfl, Nat.le_of_ble_eq_true rfl⟩ hl (Nat.le_of_ble_eq_true rfl) dL_refuses_364 ⟨Nat.le_of_ble_eq_true rfl, Nat.le_of_ble_eq_true rfl⟩ (fun x H locs J hP hD hS => ?_)
      have J : JNV x n tt pg hs k0 k1 := J
      refine k_ldc (v := (-999900002)) cx (by decide +kernel) dL_refuses_367 ?_
      refine lv_icmp_ne (tgt := 420) hx hb dL_refuses_369 (by decide) (fun c9 => absurd (by decide) c9) (fun c9 => ?_)
      refine lv_aload_n hx hb dL_refuses_372 rfl (lv_at hl 3 rfl) ?_
      refine lv_lconst (v := 1) hx hb dL_refuses_373 (by decide) ?_
      refine lv_bipush (v := 100) hx hb dL_refuses_374 (by decide) ?_
      refine o_simulate hlt cx cl HQ J 1 100 (r0 := (-999900002)) sm_n hP hD hS gL_refuses_L_trySimulate ⟨Nat.le_of_ble_eq_true rfl, Nat.le_of_ble_eq_true rfl⟩ hl (Nat.le_of_ble_eq_true rfl) dL_refuses_376 ⟨Nat.le_of_ble_eq_true rfl, Nat.le_of_ble_eq_true rfl⟩ (fun x H locs J hP hD hS => ?_)
      have J : JNV x n tt pg hs k0 k1 := J
      refine k_ldc (v := (-999900002)) cx (by decide +kernel) dL_refuses_379 ?_
      refine lv_icmp_ne (tgt := 420) hx hb dL_refuses_381 (by decide) (fun c9 => absurd (by decide) c9) (fun c9 => ?_)
      refine lv_aload_n hx hb dL_refuses_384 rfl (lv_at hl 3 rfl) ?_
      refine lv_iconst (v := 2) hx hb dL_refuses_385 (by decide) ?_
      refine n_save hlt cx cl HQ J   hP hD hS gL_refuses_L_trySave ⟨Nat.le_of_ble_eq_true rfl, Nat.le_of_ble_eq_true rfl⟩ hl (Nat.le_of_ble_eq_true rfl) dL_refuses_386 ⟨Nat.le_of_ble_eq_true rfl, Nat.le_of_ble_eq_true rfl⟩ (fun H locs hP hD hS => ?_)
      refine k_ldc (v := (-999900001)) cx (by decide +kernel) dL_refuses_389 ?_
      refine lv_icmp_ne (tgt := 420) hx hb dL_refuses_391 (by decide) (fun c9 => absurd (by decide) c9) (fun c9 => ?_)
      refine lv_aload_n hx hb dL_refuses_394 rfl (lv_at hl 3 rfl) ?_
      refine lv_iconst (v := (-1)) hx hb dL_refuses_395 (by decide) ?_
      refine n_restore hlt cx cl HQ J   hP hD hS gL_refuses_L_tryRestore ⟨Nat.le_of_ble_eq_true rfl, Nat.le_of_ble_eq_true rfl⟩ hl (Nat.le_of_ble_eq_true rfl) dL_refuses_396 ⟨Nat.le_of_ble_eq_true rfl, Nat.le_of_ble_eq_true rfl⟩ (fun H locs hP hD hS => ?_)
      refine k_ldc (v := (-999900001)) cx (by decide +kernel) dL_refuses_399 ?_
      refine lv_icmp_ne (tgt := 420) hx hb dL_refuses_401 (by decide) (fun c9 => absurd (by decide) c9) (fun c9 => ?_)
      refine lv_aload_n hx hb dL_refuses_404 rfl (lv_at hl 3 rfl) ?_
      refine lv_sipush (v := 256) hx hb dL_refuses_405 (by decide) ?_
      refine n_append hlt cx cl HQ J   hP hD hS gL_refuses_L_tryAppend ⟨Nat.le_of_ble_eq_true rfl, Nat.le_of_ble_eq_true rfl⟩ hl (Nat.le_of_ble_eq_true rfl) dL_refuses_408 ⟨Nat.le_of_ble_eq_true rfl, Nat.le_of_ble_eq_true rfl⟩ (fun H locs hP hD hS => ?_)
      refine k_ldc (v := (-999900002)) cx (by decide +kernel) dL_refuses_411 ?_
      refine lv_icmp_ne (tgt := 420) hx hb dL_refuses_413 (by decide) (fun c9 => absurd (by decide) c9) (fun c9 => ?_)
      refine lv_iconst (v := 1) hx hb dL_refuses_416 (by decide) ?_
      refine lv_goto (tgt := 421) hx hb dL_refuses_417 (by decide) ?_
      exact k_retG (u := x) cx (nz (Or.inr rfl)) ⟨rfl, J⟩ hP hS ⟨Nat.le_of_ble_eq_true rfl, Nat.le_of_ble_eq_true rfl⟩ dL_refuses_421
    · refine lv_aload_n hx hb dL_refuses_240 rfl (lv_at hl 2 rfl) ?_
      refine lv_iconst (v := 1) hx hb dL_refuses_241 (by decide) ?_
      refine m_add hlt cx cl HQ J 1 (by decide) (six J.pv c237) hP hD hS gL_refuses_L_tryAdd ⟨Nat.le_of_ble_eq_true rfl, Nat.le_of_ble_eq_true rfl⟩ hl (Nat.le_of_ble_eq_true rfl) dL_refuses_242 ⟨Nat.le_of_ble_eq_true rfl, Nat.le_of_ble_eq_true rfl⟩ (fun H locs hP hD hS => ?_)
      refine k_ldc (v := (-999900003)) cx (by decide +kernel) dL_refuses_245 ?_
      refine lv_icmp_ne (tgt := 254) hx hb dL_refuses_247 (by decide) (fun c9 => absurd (by decide) c9) (fun c9 => ?_)
      refine lv_iconst (v := 1) hx hb dL_refuses_250 (by decide) ?_
      refine lv_goto (tgt := 255) hx hb dL_refuses_251 (by decide) ?_
      refine lv_istore_n (lv' := [(3, .int 1), (2, .int 1), (1, .int (pg 9)), (0, .ref d.1)]) hx hb dL_refuses_255 rfl hl (by decide) rfl (fun ls hl => ?_)
      refine lv_iload_n hx hb dL_refuses_256 rfl (lv_at hl 0 rfl) ?_
      refine lv_if_eq (tgt := 420) hx hb dL_refuses_257 (by decide) (fun c9 => absurd c9 (by decide)) (fun c9 => ?_)
      refine lv_aload_n hx hb dL_refuses_260 rfl (lv_at hl 3 rfl) ?_
      refine lv_iconst (v := 3) hx hb dL_refuses_261 (by decide) ?_
      refine o_value hlt cx cl HQ J 3 (r0 := (-999900002)) vl_n hP hD hS gL_refuses_L_tryValue ⟨Nat.le_of_ble_eq_true rfl, Nat.le_of_ble_eq_true rfl⟩ hl (Nat.le_of_ble_eq_true rfl) dL_refuses_262 ⟨Nat.le_of_ble_eq_true rfl, Nat.le_of_ble_eq_true rfl⟩ (fun H locs hP hD hS => ?_)
      refine k_ldc (v := (-999900002)) cx (by decide +kernel) dL_refuses_265 ?_
      refine lv_icmp_ne (tgt := 420) hx hb dL_refuses_267 (by decide) (fun c9 => absurd (by decide) c9) (fun c9 => ?_)
      refine lv_aload_n hx hb dL_refuses_270 rfl (lv_at hl 3 rfl) ?_
      refine lv_iload_n hx hb dL_refuses_271 rfl (lv_at hl 2 rfl) ?_
      refine o_bestR hlt cx cl HQ J (pg 9) (r0 := (-999900001)) (bR_n (un_hi J.pv)) hP hD hS gL_refuses_L_tryBestR ⟨Nat.le_of_ble_eq_true rfl, Nat.le_of_ble_eq_true rfl⟩ hl (Nat.le_of_ble_eq_true rfl) dL_refuses_272 ⟨Nat.le_of_ble_eq_true rfl, Nat.le_of_ble_eq_true rfl⟩ (fun H locs hP hD hS => ?_)
      refine k_ldc (v := (-999900001)) cx (by decide +kernel) dL_refuses_275 ?_
      refine lv_icmp_ne (tgt := 420) hx hb dL_refuses_277 (by decide) (fun c9 => absurd (by decide) c9) (fun c9 => ?_)
      refine lv_aload_n hx hb dL_refuses_280 rfl (lv_at hl 3 rfl) ?_
      refine lv_iconst (v := (-1)) hx hb dL_refuses_281 (by decide) ?_
      refine o_bestArms hlt cx cl HQ J (-1) (r0 := (-999900001)) (bA_n (un_lo (by decide))) hP hD hS gL_refuses_L_tryBestArms ⟨Nat.le_of_ble_eq_true rfl, Nat.le_of_ble_eq_true rfl⟩ hl (Nat.le_of_ble_eq_true rfl) dL_refuses_282 ⟨Nat.le_of_ble_eq_true rfl, Nat.le_of_ble_eq_true rfl⟩ (fun H locs hP hD hS => ?_)
      refine k_ldc (v := (-999900001)) cx (by decide +kernel) dL_refuses_285 ?_
      refine lv_icmp_ne (tgt := 420) hx hb dL_refuses_287 (by decide) (fun c9 => absurd (by decide) c9) (fun c9 => ?_)
      refine lv_aload_n hx hb dL_refuses_290 rfl (lv_at hl 3 rfl) ?_
      refine lv_bipush (v := 100) hx hb dL_refuses_291 (by decide) ?_
      refine lv_iconst (v := 0) hx hb dL_refuses_293 (by decide) ?_
      refine o_offsetAfter hlt cx cl HQ J 100 0 (r0 := (-999900002)) oA_n1 hP hD hS gL_refuses_L_tryOffsetAfter ⟨Nat.le_of_ble_eq_true rfl, Nat.le_of_ble_eq_true rfl⟩ hl (Nat.le_of_ble_eq_true rfl) dL_refuses_294 ⟨Nat.le_of_ble_eq_true rfl, Nat.le_of_ble_eq_true rfl⟩ (fun H locs hP hD hS => ?_)
      refine k_ldc (v := (-999900002)) cx (by decide +kernel) dL_refuses_297 ?_
      refine lv_icmp_ne (tgt := 420) hx hb dL_refuses_299 (by decide) (fun c9 => absurd (by decide) c9) (fun c9 => ?_)
      refine lv_aload_n hx hb dL_refuses_302 rfl (lv_at hl 3 rfl) ?_
      refine lv_iconst (v := 0) hx hb dL_refuses_303 (by decide) ?_
      refine lv_sipush (v := 201) hx hb dL_refuses_304 (by decide) ?_
      refine o_offsetAfter hlt cx cl HQ J 0 201 (r0 := (-999900002)) oA_n2 hP hD hS gL_refuses_L_tryOffsetAfter ⟨Nat.le_of_ble_eq_true rfl, Nat.le_of_ble_eq_true rfl⟩ hl (Nat.le_of_ble_eq_true rfl) dL_refuses_307 ⟨Nat.le_of_ble_eq_true rfl, Nat.le_of_ble_eq_true rfl⟩ (fun H locs hP hD hS => ?_)
      refine k_ldc (v := (-999900002)) cx (by decide +kernel) dL_refuses_310 ?_
      refine lv_icmp_ne (tgt := 420) hx hb dL_refuses_312 (by decide) (fun c9 => absurd (by decide) c9) (fun c9 => ?_)
      refine lv_aload_n hx hb dL_refuses_315 rfl (lv_at hl 3 rfl) ?_
      refine lv_bipush (v := (-51)) hx hb dL_refuses_316 (by decide) ?_
      refine o_waitFor hlt cx cl HQ J (-51) (r0 := (-999900002)) wF_n1 hP hD hS gL_refuses_L_tryWaitFor ⟨Nat.le_of_ble_eq_true rfl, Nat.le_of_ble_eq_true rfl⟩ hl (Nat.le_of_ble_eq_true rfl) dL_refuses_318 ⟨Nat.le_of_ble_eq_true rfl, Nat.le_of_ble_eq_true rfl⟩ (fun H locs hP hD hS => ?_)
      refine k_ldc (v := (-999900002)) cx (by decide +kernel) dL_refuses_321 ?_
      refine lv_icmp_ne (tgt := 420) hx hb dL_refuses_323 (by decide) (fun c9 => absurd (by decide) c9) (fun c9 => ?_)
      refine lv_aload_n hx hb dL_refuses_326 rfl (lv_at hl 3 rfl) ?_
      refine lv_sipush (v := 301) hx hb dL_refuses_327 (by decide) ?_
      refine o_waitFor hlt cx cl HQ J 301 (r0 := (-999900002)) wF_n2 hP hD hS gL_refuses_L_tryWaitFor ⟨Nat.le_of_ble_eq_true rfl, Nat.le_of_ble_eq_true rfl⟩ hl (Nat.le_of_ble_eq_true rfl) dL_refuses_330 ⟨Nat.le_of_ble_eq_true rfl, Nat.le_of_ble_eq_true rfl⟩ (fun H locs hP hD hS => ?_)
      refine k_ldc (v := (-999900002)) cx (by decide +kernel) dL_refuses_333 ?_
      refine lv_icmp_ne (tgt := 420) hx hb dL_refuses_335 (by decide) (fun c9 => absurd (by decide) c9) (fun c9 => ?_)
      refine lv_aload_n hx hb dL_refuses_338 rfl (lv_at hl 3 rfl) ?_
      refine lv_iconst (v := 4) hx hb dL_refuses_339 (by decide) ?_
      refine o_balanced hlt cx cl HQ J 4 (r0 := (-999900002)) bl_n hP hD hS gL_refuses_L_tryBalanced ⟨Nat.le_of_ble_eq_true rfl, Nat.le_of_ble_eq_true rfl⟩ hl (Nat.le_of_ble_eq_true rfl) dL_refuses_340 ⟨Nat.le_of_ble_eq_true rfl, Nat.le_of_ble_eq_true rfl⟩ (fun x H locs J hP hD hS => ?_)
      have J : JNV x n tt pg hs k0 k1 := J
      refine k_ldc (v := (-999900002)) cx (by decide +kernel) dL_refuses_343 ?_
      refine lv_icmp_ne (tgt := 420) hx hb dL_refuses_345 (by decide) (fun c9 => absurd (by decide) c9) (fun c9 => ?_)
      refine lv_aload_n hx hb dL_refuses_348 rfl (lv_at hl 3 rfl) ?_
      refine lv_iconst (v := 4) hx hb dL_refuses_349 (by decide) ?_
      refine lv_lconst (v := 0) hx hb dL_refuses_350 (by decide) ?_
      refine o_runScript hlt cx cl HQ J 4 0 (r0 := (-999900002)) sc_n1 hP hD hS gL_refuses_L_tryScript ⟨Nat.le_of_ble_eq_true rfl, Nat.le_of_ble_eq_true rfl⟩ hl (Nat.le_of_ble_eq_true rfl) dL_refuses_351 ⟨Nat.le_of_ble_eq_true rfl, Nat.le_of_ble_eq_true rfl⟩ (fun x H locs J hP hD hS => ?_)
      have J : JNV x n tt pg hs k0 k1 := J
      refine k_ldc (v := (-999900002)) cx (by decide +kernel) dL_refuses_354 ?_
      refine lv_icmp_ne (tgt := 420) hx hb dL_refuses_356 (by decide) (fun c9 => absurd (by decide) c9) (fun c9 => ?_)
      refine lv_aload_n hx hb dL_refuses_359 rfl (lv_at hl 3 rfl) ?_
      refine lv_iconst (v := 1) hx hb dL_refuses_360 (by decide) ?_
      refine k_ldc2 (v := 100000) cx (by decide +kernel) dL_refuses_361 ?_
      refine o_runScript hlt cx cl HQ J 1 100000 (r0 := (-999900002)) sc_n2 hP hD hS gL_refuses_L_tryScript ⟨Nat.le_of_ble_eq_true rfl, Nat.le_of_ble_eq_true rfl⟩ hl (Nat.le_of_ble_eq_true rfl) dL_refuses_364 ⟨Nat.le_of_ble_eq_true rfl, Nat.le_of_ble_eq_true rfl⟩ (fun x H locs J hP hD hS => ?_)
      have J : JNV x n tt pg hs k0 k1 := J
      refine k_ldc (v := (-999900002)) cx (by decide +kernel) dL_refuses_367 ?_
      refine lv_icmp_ne (tgt := 420) hx hb dL_refuses_369 (by decide) (fun c9 => absurd (by decide) c9) (fun c9 => ?_)
      refine lv_aload_n hx hb dL_refuses_372 rfl (lv_at hl 3 rfl) ?_
      refine lv_lconst (v := 1) hx hb dL_refuses_373 (by decide) ?_
      refine lv_bipush (v := 100) hx hb dL_refuses_374 (by decide) ?_
      refine o_simulate hlt cx cl HQ J 1 100 (r0 := (-999900002)) sm_n hP hD hS gL_refuses_L_trySimulate ⟨Nat.le_of_ble_eq_true rfl, Nat.le_of_ble_eq_true rfl⟩ hl (Nat.le_of_ble_eq_true rfl) dL_refuses_376 ⟨Nat.le_of_ble_eq_true rfl, Nat.le_of_ble_eq_true rfl⟩ (fun x H locs J hP hD hS => ?_)
      have J : JNV x n tt pg hs k0 k1 := J
      refine k_ldc (v := (-999900002)) cx (by decide +kernel) dL_refuses_379 ?_
      refine lv_icmp_ne (tgt := 420) hx hb dL_refuses_381 (by decide) (fun c9 => absurd (by decide) c9) (fun c9 => ?_)
      refine lv_aload_n hx hb dL_refuses_384 rfl (lv_at hl 3 rfl) ?_
      refine lv_iconst (v := 2) hx hb dL_refuses_385 (by decide) ?_
      refine n_save hlt cx cl HQ J   hP hD hS gL_refuses_L_trySave ⟨Nat.le_of_ble_eq_true rfl, Nat.le_of_ble_eq_true rfl⟩ hl (Nat.le_of_ble_eq_true rfl) dL_refuses_386 ⟨Nat.le_of_ble_eq_true rfl, Nat.le_of_ble_eq_true rfl⟩ (fun H locs hP hD hS => ?_)
      refine k_ldc (v := (-999900001)) cx (by decide +kernel) dL_refuses_389 ?_
      refine lv_icmp_ne (tgt := 420) hx hb dL_refuses_391 (by decide) (fun c9 => absurd (by decide) c9) (fun c9 => ?_)
      refine lv_aload_n hx hb dL_refuses_394 rfl (lv_at hl 3 rfl) ?_
      refine lv_iconst (v := (-1)) hx hb dL_refuses_395 (by decide) ?_
      refine n_restore hlt cx cl HQ J   hP hD hS gL_refuses_L_tryRestore ⟨Nat.le_of_ble_eq_true rfl, Nat.le_of_ble_eq_true rfl⟩ hl (Nat.le_of_ble_eq_true rfl) dL_refuses_396 ⟨Nat.le_of_ble_eq_true rfl, Nat.le_of_ble_eq_true rfl⟩ (fun H locs hP hD hS => ?_)
      refine k_ldc (v := (-999900001)) cx (by decide +kernel) dL_refuses_399 ?_
      refine lv_icmp_ne (tgt := 420) hx hb dL_refuses_401 (by decide) (fun c9 => absurd (by decide) c9) (fun c9 => ?_)
      refine lv_aload_n hx hb dL_refuses_404 rfl (lv_at hl 3 rfl) ?_
      refine lv_sipush (v := 256) hx hb dL_refuses_405 (by decide) ?_
      refine n_append hlt cx cl HQ J   hP hD hS gL_refuses_L_tryAppend ⟨Nat.le_of_ble_eq_true rfl, Nat.le_of_ble_eq_true rfl⟩ hl (Nat.le_of_ble_eq_true rfl) dL_refuses_408 ⟨Nat.le_of_ble_eq_true rfl, Nat.le_of_ble_eq_true rfl⟩ (fun H locs hP hD hS => ?_)
      refine k_ldc (v := (-999900002)) cx (by decide +kernel) dL_refuses_411 ?_
      refine lv_icmp_ne (tgt := 420) hx hb dL_refuses_413 (by decide) (fun c9 => absurd (by decide) c9) (fun c9 => ?_)
      refine lv_iconst (v := 1) hx hb dL_refuses_416 (by decide) ?_
      refine lv_goto (tgt := 421) hx hb dL_refuses_417 (by decide) ?_
      exact k_retG (u := x) cx (nz (Or.inr rfl)) ⟨rfl, J⟩ hP hS ⟨Nat.le_of_ble_eq_true rfl, Nat.le_of_ble_eq_true rfl⟩ dL_refuses_421
