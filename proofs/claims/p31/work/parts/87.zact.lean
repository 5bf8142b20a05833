/-! the law's method act -/
abbrev rmL_act : Room := { frames := 9, cells := 2, slots := 12, locals := 240 }
theorem md_b {x k : Int32} {K : Int} (h : 0 ≤ x.toInt) (hk : k.toInt = K) (hK : 0 < K) : 0 ≤ (x - x / k * k).toInt ∧ (x - x / k * k).toInt < K := by
  rw [mdi h hk hK]
  exact ⟨Int.emod_nonneg _ (by omega), Int.emod_lt_of_pos _ hK⟩
theorem set_3 {v : Int32} (h : 1 ≤ v.toInt ∧ v.toInt ≤ 99) : ¬ P_X4_isSetting 3 v = 0 := by
  unfold P_X4_isSetting
  rw [if_neg (by decide), if_neg (by decide), if_neg (by decide), if_pos rfl]
  exact in_yes32 h.1 h.2
theorem set_0v {v : Int32} (h : 0 ≤ v.toInt ∧ v.toInt < 4) : ¬ P_X4_isSetting 0 v = 0 := by
  unfold P_X4_isSetting
  rw [if_pos rfl]
  exact in_yes32 h.1 (Int.le_of_lt_add_one h.2)
theorem set_1v {v : Int32} (h : 0 ≤ v.toInt ∧ v.toInt < 4) : ¬ P_X4_isSetting 1 v = 0 := by
  unfold P_X4_isSetting
  rw [if_neg (by decide), if_pos rfl]
  exact in_yes32 h.1 (Int.le_of_lt_add_one h.2)
theorem set_4v {v : Int32} (h : 0 ≤ v.toInt ∧ v.toInt < 4) : ¬ P_X4_isSetting 4 v = 0 := by
  unfold P_X4_isSetting
  rw [if_neg (by decide), if_neg (by decide), if_neg (by decide), if_neg (by decide), if_pos rfl]
  exact in_yes32 h.1 (Int.le_of_lt_add_one h.2)
theorem set_5v {v : Int32} (h : -50 ≤ v.toInt ∧ v.toInt ≤ 50) : ¬ P_X4_isSetting 5 v = 0 := by
  unfold P_X4_isSetting
  rw [if_neg (by decide), if_neg (by decide), if_neg (by decide), if_neg (by decide), if_neg (by decide), if_pos rfl]
  exact in_yes32 h.1 h.2
theorem set_6v {v : Int32} (h : 0 ≤ v.toInt ∧ v.toInt < 21) : ¬ P_X4_isSetting 6 v = 0 := by
  unfold P_X4_isSetting
  rw [if_neg (by decide), if_neg (by decide), if_neg (by decide), if_neg (by decide), if_neg (by decide), if_neg (by decide), if_pos rfl, if_neg (in_yes32 (lo := 0) (hi := 20) h.1 (Int.le_of_lt_add_one h.2))]
  decide
theorem ad_1 {x : Int32} {K : Int} (h : 0 ≤ x.toInt ∧ x.toInt < K) (hK : K ≤ 10000) : 1 ≤ (1 + x).toInt ∧ (1 + x).toInt ≤ K := by
  rw [adi (k := 1) (K := 1) (by decide) (by decide) (by omega)]
  omega
theorem sb_50 {x : Int32} (h : 0 ≤ x.toInt ∧ x.toInt < 101) : -50 ≤ (x - 50).toInt ∧ (x - 50).toInt ≤ 50 := by
  have z : (50 : Int32).toInt = 50 := by decide
  rw [toI_sub (by omega) (by omega)]
  omega
theorem n9_ne {pg : Pg} (h : PV pg) : ¬ pg 9 = 0 := fun q => by
  have b := h.1.1
  rw [q] at b
  exact absurd b (by decide)
theorem n9_p {pg : Pg} (h : PV pg) : 0 < (pg 9).toInt := by
  have b := h.1.1
  omega
/-! what is kept -/
theorem okp_cg {a b : Pg} (h : OKP a) (e0 : b 0 = a 0) (e1 : b 1 = a 1) (e4 : b 4 = a 4) (e12 : b 12 = a 12) (e21 : b 21 = a 21) : OKP b := by
  obtain ⟨h1, h2, h3, h4⟩ := h
  refine ⟨?_, by rw [e0]; exact h2, by rw [e1]; exact h3, by rw [e4]; exact h4⟩
  intro q
  rw [e12] at q
  rw [e21]
  exact h1 q
theorem okp_z : OKP (fun _ => 0) := ⟨fun q => absurd (by decide : ((fun _ => 0 : Pg) 12) ≤ 0) q, by decide, by decide, by decide⟩
theorem okp_press {a : Pg} {rv : Int32} (h : OKP a) : OKP (P_X4_pressOn a rv).2 := by
  obtain ⟨h1, h2, h3, h4⟩ := h
  refine ⟨fun _ => ?_, ?_, ?_, ?_⟩
  · rw [pk_21]; exact rd_b _
  · rw [pk_lo (by decide) (by decide) (by decide) (by decide) (by decide) (by decide) (by decide)]; exact h2
  · rw [pk_lo (by decide) (by decide) (by decide) (by decide) (by decide) (by decide) (by decide)]; exact h3
  · rw [pk_lo (by decide) (by decide) (by decide) (by decide) (by decide) (by decide) (by decide)]; exact h4
theorem okp_pair {a : Pg} (h : OKP a) : OKP (P_X4_pairOn a).2 := by
  rw [pair_eq]
  by_cases c : (P_X4_pressOn a 0).2 11 = 1
  · rw [if_pos c]; exact okp_press h
  · rw [if_neg c]
    exact okp_press (a := (P_X4_pressOn a 0).2) (rv := 1) (okp_press h)
theorem okp_up {a : Pg} {k : Nat} {v : Int32} (h : OKP a) (hk : k ≠ 0 ∧ k ≠ 1 ∧ k ≠ 4 ∧ k ≠ 12 ∧ k ≠ 21) : OKP (upd a k v) :=
  okp_cg h (upd_o hk.1.symm) (upd_o hk.2.1.symm) (upd_o hk.2.2.1.symm) (upd_o hk.2.2.2.1.symm) (upd_o hk.2.2.2.2.symm)
theorem okp_u0 {a : Pg} {v : Int32} (h : OKP a) (hv : 0 ≤ v.toInt) : OKP (upd a 0 v) := ⟨h.1, hv, h.2.2.1, h.2.2.2⟩
theorem okp_u1 {a : Pg} {v : Int32} (h : OKP a) (hv : 0 ≤ v.toInt) : OKP (upd a 1 v) := ⟨h.1, h.2.1, hv, h.2.2.2⟩
theorem okp_u4 {a : Pg} {v : Int32} (h : OKP a) (hv : 0 ≤ v.toInt) : OKP (upd a 4 v) := ⟨h.1, h.2.1, h.2.2.1, hv⟩
theorem okp_wait {a : Pg} {m : Int32} (h : OKP a) (hm : 0 ≤ m.toInt) : OKP (P_X4_waitOn a m) :=
  okp_cg h (wt_o hm (by decide) (by decide)) (wt_o hm (by decide) (by decide)) (wt_o hm (by decide) (by decide)) (wt_o hm (by decide) (by decide)) (wt_o hm (by decide) (by decide))
theorem okp_free {a : Pg} (h : OKP a) : OKP (P_X4_freeOn a) := okp_wait (a := upd a 11 0) (m := 5) (okp_up h (by decide)) (by decide)
theorem okp_bal {pg : Pg} (h : OKP pg) : OKP (P_X4_balanceOn pg) := by
  unfold P_X4_balanceOn
  have inner : ∀ (K : Int32 → Pg → Pg) (d : Int32), (∀ q, OKP q → OKP (K (d / 10) q)) → ∀ (n : Nat) (v : Int32) (q : Pg), OKP q → OKP (P_X4_balanceOn_14 K d n v q) := by
    intro K d hK n
    induction n with
    | zero => intro v q hq; exact okp_z
    | succ n ih =>
      intro v q hq
      unfold P_X4_balanceOn_14
      by_cases c1 : v = 0
      · show OKP (if v = 0 then _ else _)
        rw [if_pos c1]; exact hK q hq
      · show OKP (if v = 0 then _ else _)
        rw [if_neg c1]
        by_cases c2 : 9999 < q 2 + d
        · rw [if_pos c2]; exact hK q hq
        · rw [if_neg c2]
          have hr := okp_pair (a := upd q 2 (q 2 + d)) (okp_up hq (by decide))
          obtain ⟨u, hu⟩ : ∃ u, P_X4_pairOn (upd q 2 (q 2 + d)) = u := ⟨_, rfl⟩
          rw [hu] at hr ⊢
          show OKP (if u.2 11 = 1 then _ else _)
          by_cases c3 : u.2 11 = 1
          · rw [if_pos c3]; exact hr
          · rw [if_neg c3]
            by_cases c4 : u.1 < 0
            · rw [if_pos c4]; exact ih _ _ (okp_up hr (by decide))
            · rw [if_neg c4]; exact ih _ _ (okp_up hr (by decide))
  have outer : ∀ (n : Nat) (v : Int32) (q : Pg), OKP q → OKP (P_X4_balanceOn_8 n v q) := by
    intro n
    induction n with
    | zero => intro v q hq; exact okp_z
    | succ n ih =>
      intro v q hq
      unfold P_X4_balanceOn_8
      by_cases c1 : v ≤ 0
      · rw [if_pos c1]; exact hq
      · rw [if_neg c1]
        exact inner _ v (fun q' hq' => ih _ _ hq') _ _ _ hq
  exact outer _ _ _ (okp_up h (by decide))
theorem okp_add {pg : Pg} {v : Int32} (h : OKP pg) (hpv : PV pg) (h6 : ¬ pg 9 = 6) : OKP (upd (upd pg (15 + (pg 9)).toNatClampNeg v) 9 (((upd pg (15 + (pg 9)).toNatClampNeg v) 9) + 1)) := by
  have z15 : (15 : Int32).toInt = 15 := by decide
  have z6 : (6 : Int32).toInt = 6 := by decide
  have b1 := hpv.1.1
  have b2 := hpv.1.2
  have b3 : ¬ (pg 9).toInt = 6 := fun q => h6 (Int32.toInt_inj.mp (by omega))
  have a := toI_add (a := 15) (b := pg 9) (by omega) (by omega)
  have e : (15 + pg 9).toNatClampNeg = (15 + pg 9).toInt.toNat := rfl
  exact okp_up (okp_up h (by rw [e]; omega)) (by decide)
/-- all pages that an object may come back to -/
def OKS (pg : Pg) (hs : List Pg) (k1 : Option Pg) : Prop := OKP pg ∧ (∀ q ∈ hs, OKP q) ∧ ∀ q : Pg, k1 = some q → OKP q
theorem oks_p {pg pg' : Pg} {hs : List Pg} {k1 : Option Pg} (h : OKS pg hs k1) (h' : OKP pg') : OKS pg' (push hs pg) k1 := by
  refine ⟨h', fun q hq => ?_, h.2.2⟩
  unfold push at hq
  rcases List.mem_append.mp hq with hq | hq
  · by_cases c : hs.length = 14
    · rw [if_pos c] at hq; exact h.2.1 q (List.mem_of_mem_tail hq)
    · rw [if_neg c] at hq; exact h.2.1 q hq
  · rw [List.mem_singleton.mp hq]; exact h.1

set_option maxRecDepth 100000 in
set_option maxHeartbeats 4000000 in
theorem c_A_0f (l : Launch) (hlt : l.stackTraces = false) (G : gG) (b L : Nat) (xs : Nat → Int32) (d : AD) (HQ : PQd d) (n : Int32) (tt pg : Pg) (hs : List Pg) (k0 k1 : Option Pg) (x9 y9 : Int32) (hv : (x9 - x9 / 16 * 16) = 0) (hy9 : 0 ≤ y9.toInt) (hpv : PV pg) (hc : pg 11 = 0) (hp : ¬ (y9 - y9 / 2 * 2) = 1) : kG l G yL_act wsL_act rmL_act [.ref d.1, .int x9, .int y9] b L xs (fun x : XT => wB G d x []) (fun x => JNV x n tt pg hs k0 k1) (fun r x => r = (P_X4_pressOn pg 0).1 ∧ JNV x n tt ((P_X4_pressOn pg 0).2) (push hs pg) k0 k1) 2 12 := by
  refine k_bodyG (cc := cL_act) (nL := 3) (ret := some .int) (by decide) rfl (Nat.le_of_ble_eq_true rfl) ?_
  intro x hI
  intro p e s m args below meth c A cx cl H locs hP hD hS ls hl
  obtain ⟨hx, hb, hml, hown, hts, hr, hlocks, hK, hA⟩ := id cx
  have hl : lv_has ls 3 [(0, .ref d.1), (1, .int x9), (2, .int y9)] := hl
  have hP : va_P G.1 vwCl (wB G d x []) H := hP
  have hD : va_D A (wB G d x []) := hD
  have J : JNV x n tt pg hs k0 k1 := hI
  refine lv_iload_n hx hb dL_act_0 rfl (lv_at hl 1 rfl) ?_
  refine lv_bipush (v := 16) hx hb dL_act_1 (by decide) ?_
  refine lv_irem hx hb dL_act_3 (by decide) ?_
  refine lv_tableIn (tgt := 80) (off := 76) hx hb dL_act_4 (sw_lo hv (by decide)) (sw_hi hv (by decide)) (sw_at hv (by decide)) (by decide) ?_
  refine lv_aload_n hx hb dL_act_80 rfl (lv_at hl 0 rfl) ?_
  refine lv_iload_n hx hb dL_act_81 rfl (lv_at hl 2 rfl) ?_
  refine lv_iconst (v := 2) hx hb dL_act_82 (by decide) ?_
  refine lv_irem hx hb dL_act_83 (by decide) ?_
  refine lv_iconst (v := 1) hx hb dL_act_84 (by decide) ?_
  refine lv_icmp_ne (tgt := 92) hx hb dL_act_85 (by decide) (fun c9 => ?_) (fun c9 => absurd c9 hp)
  refine lv_iconst (v := 0) hx hb dL_act_92 (by decide) ?_
  refine o_press hlt cx cl HQ J 0 hc (r0 := (P_X4_pressOn pg 0).1) rfl hP hD hS gL_act_L_tryPress ⟨Nat.le_of_ble_eq_true rfl, Nat.le_of_ble_eq_true rfl⟩ hl (Nat.le_of_ble_eq_true rfl) dL_act_93 ⟨Nat.le_of_ble_eq_true rfl, Nat.le_of_ble_eq_true rfl⟩ (fun x H locs J hP hD hS => ?_)
  have J : JNV x n tt ((P_X4_pressOn pg 0).2) (push hs pg) k0 k1 := J
  exact k_retG (u := x) cx rfl ⟨rfl, J⟩ hP hS ⟨Nat.le_of_ble_eq_true rfl, Nat.le_of_ble_eq_true rfl⟩ dL_act_96

set_option maxRecDepth 100000 in
set_option maxHeartbeats 4000000 in
theorem c_A_0t (l : Launch) (hlt : l.stackTraces = false) (G : gG) (b L : Nat) (xs : Nat → Int32) (d : AD) (HQ : PQd d) (n : Int32) (tt pg : Pg) (hs : List Pg) (k0 k1 : Option Pg) (x9 y9 : Int32) (hv : (x9 - x9 / 16 * 16) = 0) (hy9 : 0 ≤ y9.toInt) (hpv : PV pg) (hc : pg 11 = 0) (hp : (y9 - y9 / 2 * 2) = 1) : kG l G yL_act wsL_act rmL_act [.ref d.1, .int x9, .int y9] b L xs (fun x : XT => wB G d x []) (fun x => JNV x n tt pg hs k0 k1) (fun r x => r = (P_X4_pressOn pg 1).1 ∧ JNV x n tt ((P_X4_pressOn pg 1).2) (push hs pg) k0 k1) 2 12 := by
  refine k_bodyG (cc := cL_act) (nL := 3) (ret := some .int) (by decide) rfl (Nat.le_of_ble_eq_true rfl) ?_
  intro x hI
  intro p e s m args below meth c A cx cl H locs hP hD hS ls hl
  obtain ⟨hx, hb, hml, hown, hts, hr, hlocks, hK, hA⟩ := id cx
  have hl : lv_has ls 3 [(0, .ref d.1), (1, .int x9), (2, .int y9)] := hl
  have hP : va_P G.1 vwCl (wB G d x []) H := hP
  have hD : va_D A (wB G d x []) := hD
  have J : JNV x n tt pg hs k0 k1 := hI
  refine lv_iload_n hx hb dL_act_0 rfl (lv_at hl 1 rfl) ?_
  refine lv_bipush (v := 16) hx hb dL_act_1 (by decide) ?_
  refine lv_irem hx hb dL_act_3 (by decide) ?_
  refine lv_tableIn (tgt := 80) (off := 76) hx hb dL_act_4 (sw_lo hv (by decide)) (sw_hi hv (by decide)) (sw_at hv (by decide)) (by decide) ?_
  refine lv_aload_n hx hb dL_act_80 rfl (lv_at hl 0 rfl) ?_
  refine lv_iload_n hx hb dL_act_81 rfl (lv_at hl 2 rfl) ?_
  refine lv_iconst (v := 2) hx hb dL_act_82 (by decide) ?_
  refine lv_irem hx hb dL_act_83 (by decide) ?_
  refine lv_iconst (v := 1) hx hb dL_act_84 (by decide) ?_
  refine lv_icmp_ne (tgt := 92) hx hb dL_act_85 (by decide) (fun c9 => absurd hp c9) (fun c9 => ?_)
  refine lv_iconst (v := 1) hx hb dL_act_88 (by decide) ?_
  refine lv_goto (tgt := 93) hx hb dL_act_89 (by decide) ?_
  refine o_press hlt cx cl HQ J 1 hc (r0 := (P_X4_pressOn pg 1).1) rfl hP hD hS gL_act_L_tryPress ⟨Nat.le_of_ble_eq_true rfl, Nat.le_of_ble_eq_true rfl⟩ hl (Nat.le_of_ble_eq_true rfl) dL_act_93 ⟨Nat.le_of_ble_eq_true rfl, Nat.le_of_ble_eq_true rfl⟩ (fun x H locs J hP hD hS => ?_)
  have J : JNV x n tt ((P_X4_pressOn pg 1).2) (push hs pg) k0 k1 := J
  exact k_retG (u := x) cx rfl ⟨rfl, J⟩ hP hS ⟨Nat.le_of_ble_eq_true rfl, Nat.le_of_ble_eq_true rfl⟩ dL_act_96

set_option maxRecDepth 100000 in
set_option maxHeartbeats 4000000 in
theorem c_A_0s (l : Launch) (hlt : l.stackTraces = false) (G : gG) (b L : Nat) (xs : Nat → Int32) (d : AD) (HQ : PQd d) (n : Int32) (tt pg : Pg) (hs : List Pg) (k0 k1 : Option Pg) (x9 y9 : Int32) (hv : (x9 - x9 / 16 * 16) = 0) (hy9 : 0 ≤ y9.toInt) (hpv : PV pg) (hc : pg 11 = 1) : kG l G yL_act wsL_act rmL_act [.ref d.1, .int x9, .int y9] b L xs (fun x : XT => wB G d x []) (fun x => JNV x n tt pg hs k0 k1) (fun r x => r = (-999900003) ∧ JNV x n tt pg hs k0 k1) 2 12 := by
  refine k_bodyG (cc := cL_act) (nL := 3) (ret := some .int) (by decide) rfl (Nat.le_of_ble_eq_true rfl) ?_
  intro x hI
  intro p e s m args below meth c A cx cl H locs hP hD hS ls hl
  obtain ⟨hx, hb, hml, hown, hts, hr, hlocks, hK, hA⟩ := id cx
  have hl : lv_has ls 3 [(0, .ref d.1), (1, .int x9), (2, .int y9)] := hl
  have hP : va_P G.1 vwCl (wB G d x []) H := hP
  have hD : va_D A (wB G d x []) := hD
  have J : JNV x n tt pg hs k0 k1 := hI
  refine lv_iload_n hx hb dL_act_0 rfl (lv_at hl 1 rfl) ?_
  refine lv_bipush (v := 16) hx hb dL_act_1 (by decide) ?_
  refine lv_irem hx hb dL_act_3 (by decide) ?_
  refine lv_tableIn (tgt := 80) (off := 76) hx hb dL_act_4 (sw_lo hv (by decide)) (sw_hi hv (by decide)) (sw_at hv (by decide)) (by decide) ?_
  refine lv_aload_n hx hb dL_act_80 rfl (lv_at hl 0 rfl) ?_
  refine lv_iload_n hx hb dL_act_81 rfl (lv_at hl 2 rfl) ?_
  refine lv_iconst (v := 2) hx hb dL_act_82 (by decide) ?_
  refine lv_irem hx hb dL_act_83 (by decide) ?_
  refine lv_iconst (v := 1) hx hb dL_act_84 (by decide) ?_
  refine lv_icmp_ne (tgt := 92) hx hb dL_act_85 (by decide) (fun c85 => ?_) (fun c85 => ?_)
  · refine lv_iconst (v := 0) hx hb dL_act_92 (by decide) ?_
    refine n_press hlt cx cl HQ J 0 hc hP hD hS gL_act_L_tryPress ⟨Nat.le_of_ble_eq_true rfl, Nat.le_of_ble_eq_true rfl⟩ hl (Nat.le_of_ble_eq_true rfl) dL_act_93 ⟨Nat.le_of_ble_eq_true rfl, Nat.le_of_ble_eq_true rfl⟩ (fun H locs hP hD hS => ?_)
    exact k_retG (u := x) cx rfl ⟨rfl, J⟩ hP hS ⟨Nat.le_of_ble_eq_true rfl, Nat.le_of_ble_eq_true rfl⟩ dL_act_96
  · refine lv_iconst (v := 1) hx hb dL_act_88 (by decide) ?_
    refine lv_goto (tgt := 93) hx hb dL_act_89 (by decide) ?_
    refine n_press hlt cx cl HQ J 1 hc hP hD hS gL_act_L_tryPress ⟨Nat.le_of_ble_eq_true rfl, Nat.le_of_ble_eq_true rfl⟩ hl (Nat.le_of_ble_eq_true rfl) dL_act_93 ⟨Nat.le_of_ble_eq_true rfl, Nat.le_of_ble_eq_true rfl⟩ (fun H locs hP hD hS => ?_)
    exact k_retG (u := x) cx rfl ⟨rfl, J⟩ hP hS ⟨Nat.le_of_ble_eq_true rfl, Nat.le_of_ble_eq_true rfl⟩ dL_act_96

set_option maxRecDepth 100000 in
set_option maxHeartbeats 4000000 in
theorem c_A_1f (l : Launch) (hlt : l.stackTraces = false) (G : gG) (b L : Nat) (xs : Nat → Int32) (d : AD) (HQ : PQd d) (n : Int32) (tt pg : Pg) (hs : List Pg) (k0 k1 : Option Pg) (x9 y9 : Int32) (hv : (x9 - x9 / 16 * 16) = 1) (hy9 : 0 ≤ y9.toInt) (hpv : PV pg) (hc : pg 11 = 0) (hp : ¬ (y9 - y9 / 2 * 2) = 1) : kG l G yL_act wsL_act rmL_act [.ref d.1, .int x9, .int y9] b L xs (fun x : XT => wB G d x []) (fun x => JNV x n tt pg hs k0 k1) (fun r x => r = (P_X4_pressOn pg 0).1 ∧ JNV x n tt ((P_X4_pressOn pg 0).2) (push hs pg) k0 k1) 2 12 := by
  refine k_bodyG (cc := cL_act) (nL := 3) (ret := some .int) (by decide) rfl (Nat.le_of_ble_eq_true rfl) ?_
  intro x hI
  intro p e s m args below meth c A cx cl H locs hP hD hS ls hl
  obtain ⟨hx, hb, hml, hown, hts, hr, hlocks, hK, hA⟩ := id cx
  have hl : lv_has ls 3 [(0, .ref d.1), (1, .int x9), (2, .int y9)] := hl
  have hP : va_P G.1 vwCl (wB G d x []) H := hP
  have hD : va_D A (wB G d x []) := hD
  have J : JNV x n tt pg hs k0 k1 := hI
  refine lv_iload_n hx hb dL_act_0 rfl (lv_at hl 1 rfl) ?_
  refine lv_bipush (v := 16) hx hb dL_act_1 (by decide) ?_
  refine lv_irem hx hb dL_act_3 (by decide) ?_
  refine lv_tableIn (tgt := 80) (off := 76) hx hb dL_act_4 (sw_lo hv (by decide)) (sw_hi hv (by decide)) (sw_at hv (by decide)) (by decide) ?_
  refine lv_aload_n hx hb dL_act_80 rfl (lv_at hl 0 rfl) ?_
  refine lv_iload_n hx hb dL_act_81 rfl (lv_at hl 2 rfl) ?_
  refine lv_iconst (v := 2) hx hb dL_act_82 (by decide) ?_
  refine lv_irem hx hb dL_act_83 (by decide) ?_
  refine lv_iconst (v := 1) hx hb dL_act_84 (by decide) ?_
  refine lv_icmp_ne (tgt := 92) hx hb dL_act_85 (by decide) (fun c9 => ?_) (fun c9 => absurd c9 hp)
  refine lv_iconst (v := 0) hx hb dL_act_92 (by decide) ?_
  refine o_press hlt cx cl HQ J 0 hc (r0 := (P_X4_pressOn pg 0).1) rfl hP hD hS gL_act_L_tryPress ⟨Nat.le_of_ble_eq_true rfl, Nat.le_of_ble_eq_true rfl⟩ hl (Nat.le_of_ble_eq_true rfl) dL_act_93 ⟨Nat.le_of_ble_eq_true rfl, Nat.le_of_ble_eq_true rfl⟩ (fun x H locs J hP hD hS => ?_)
  have J : JNV x n tt ((P_X4_pressOn pg 0).2) (push hs pg) k0 k1 := J
  exact k_retG (u := x) cx rfl ⟨rfl, J⟩ hP hS ⟨Nat.le_of_ble_eq_true rfl, Nat.le_of_ble_eq_true rfl⟩ dL_act_96

set_option maxRecDepth 100000 in
set_option maxHeartbeats 4000000 in
theorem c_A_1t (l : Launch) (hlt : l.stackTraces = false) (G : gG) (b L : Nat) (xs : Nat → Int32) (d : AD) (HQ : PQd d) (n : Int32) (tt pg : Pg) (hs : List Pg) (k0 k1 : Option Pg) (x9 y9 : Int32) (hv : (x9 - x9 / 16 * 16) = 1) (hy9 : 0 ≤ y9.toInt) (hpv : PV pg) (hc : pg 11 = 0) (hp : (y9 - y9 / 2 * 2) = 1) : kG l G yL_act wsL_act rmL_act [.ref d.1, .int x9, .int y9] b L xs (fun x : XT => wB G d x []) (fun x => JNV x n tt pg hs k0 k1) (fun r x => r = (P_X4_pressOn pg 1).1 ∧ JNV x n tt ((P_X4_pressOn pg 1).2) (push hs pg) k0 k1) 2 12 := by
  refine k_bodyG (cc := cL_act) (nL := 3) (ret := some .int) (by decide) rfl (Nat.le_of_ble_eq_true rfl) ?_
  intro x hI
  intro p e s m args below meth c A cx cl H locs hP hD hS ls hl
  obtain ⟨hx, hb, hml, hown, hts, hr, hlocks, hK, hA⟩ := id cx
  have hl : lv_has ls 3 [(0, .ref d.1), (1, .int x9), (2, .int y9)] := hl
  have hP : va_P G.1 vwCl (wB G d x []) H := hP
  have hD : va_D A (wB G d x []) := hD
  have J : JNV x n tt pg hs k0 k1 := hI
  refine lv_iload_n hx hb dL_act_0 rfl (lv_at hl 1 rfl) ?_
  refine lv_bipush (v := 16) hx hb dL_act_1 (by decide) ?_
  refine lv_irem hx hb dL_act_3 (by decide) ?_
  refine lv_tableIn (tgt := 80) (off := 76) hx hb dL_act_4 (sw_lo hv (by decide)) (sw_hi hv (by decide)) (sw_at hv (by decide)) (by decide) ?_
  refine lv_aload_n hx hb dL_act_80 rfl (lv_at hl 0 rfl) ?_
  refine lv_iload_n hx hb dL_act_81 rfl (lv_at hl 2 rfl) ?_
  refine lv_iconst (v := 2) hx hb dL_act_82 (by decide) ?_
  refine lv_irem hx hb dL_act_83 (by decide) ?_
  refine lv_iconst (v := 1) hx hb dL_act_84 (by decide) ?_
  refine lv_icmp_ne (tgt := 92) hx hb dL_act_85 (by decide) (fun c9 => absurd hp c9) (fun c9 => ?_)
  refine lv_iconst (v := 1) hx hb dL_act_88 (by decide) ?_
  refine lv_goto (tgt := 93) hx hb dL_act_89 (by decide) ?_
  refine o_press hlt cx cl HQ J 1 hc (r0 := (P_X4_pressOn pg 1).1) rfl hP hD hS gL_act_L_tryPress ⟨Nat.le_of_ble_eq_true rfl, Nat.le_of_ble_eq_true rfl⟩ hl (Nat.le_of_ble_eq_true rfl) dL_act_93 ⟨Nat.le_of_ble_eq_true rfl, Nat.le_of_ble_eq_true rfl⟩ (fun x H locs J hP hD hS => ?_)
  have J : JNV x n tt ((P_X4_pressOn pg 1).2) (push hs pg) k0 k1 := J
  exact k_retG (u := x) cx rfl ⟨rfl, J⟩ hP hS ⟨Nat.le_of_ble_eq_true rfl, Nat.le_of_ble_eq_true rfl⟩ dL_act_96

set_option maxRecDepth 100000 in
set_option maxHeartbeats 4000000 in
theorem c_A_1s (l : Launch) (hlt : l.stackTraces = false) (G : gG) (b L : Nat) (xs : Nat → Int32) (d : AD) (HQ : PQd d) (n : Int32) (tt pg : Pg) (hs : List Pg) (k0 k1 : Option Pg) (x9 y9 : Int32) (hv : (x9 - x9 / 16 * 16) = 1) (hy9 : 0 ≤ y9.toInt) (hpv : PV pg) (hc : pg 11 = 1) : kG l G yL_act wsL_act rmL_act [.ref d.1, .int x9, .int y9] b L xs (fun x : XT => wB G d x []) (fun x => JNV x n tt pg hs k0 k1) (fun r x => r = (-999900003) ∧ JNV x n tt pg hs k0 k1) 2 12 := by
  refine k_bodyG (cc := cL_act) (nL := 3) (ret := some .int) (by decide) rfl (Nat.le_of_ble_eq_true rfl) ?_
  intro x hI
  intro p e s m args below meth c A cx cl H locs hP hD hS ls hl
  obtain ⟨hx, hb, hml, hown, hts, hr, hlocks, hK, hA⟩ := id cx
  have hl : lv_has ls 3 [(0, .ref d.1), (1, .int x9), (2, .int y9)] := hl
  have hP : va_P G.1 vwCl (wB G d x []) H := hP
  have hD : va_D A (wB G d x []) := hD
  have J : JNV x n tt pg hs k0 k1 := hI
  refine lv_iload_n hx hb dL_act_0 rfl (lv_at hl 1 rfl) ?_
  refine lv_bipush (v := 16) hx hb dL_act_1 (by decide) ?_
  refine lv_irem hx hb dL_act_3 (by decide) ?_
  refine lv_tableIn (tgt := 80) (off := 76) hx hb dL_act_4 (sw_lo hv (by decide)) (sw_hi hv (by decide)) (sw_at hv (by decide)) (by decide) ?_
  refine lv_aload_n hx hb dL_act_80 rfl (lv_at hl 0 rfl) ?_
  refine lv_iload_n hx hb dL_act_81 rfl (lv_at hl 2 rfl) ?_
  refine lv_iconst (v := 2) hx hb dL_act_82 (by decide) ?_
  refine lv_irem hx hb dL_act_83 (by decide) ?_
  refine lv_iconst (v := 1) hx hb dL_act_84 (by decide) ?_
  refine lv_icmp_ne (tgt := 92) hx hb dL_act_85 (by decide) (fun c85 => ?_) (fun c85 => ?_)
  · refine lv_iconst (v := 0) hx hb dL_act_92 (by decide) ?_
    refine n_press hlt cx cl HQ J 0 hc hP hD hS gL_act_L_tryPress ⟨Nat.le_of_ble_eq_true rfl, Nat.le_of_ble_eq_true rfl⟩ hl (Nat.le_of_ble_eq_true rfl) dL_act_93 ⟨Nat.le_of_ble_eq_true rfl, Nat.le_of_ble_eq_true rfl⟩ (fun H locs hP hD hS => ?_)
    exact k_retG (u := x) cx rfl ⟨rfl, J⟩ hP hS ⟨Nat.le_of_ble_eq_true rfl, Nat.le_of_ble_eq_true rfl⟩ dL_act_96
  · refine lv_iconst (v := 1) hx hb dL_act_88 (by decide) ?_
    refine lv_goto (tgt := 93) hx hb dL_act_89 (by decide) ?_
    refine n_press hlt cx cl HQ J 1 hc hP hD hS gL_act_L_tryPress ⟨Nat.le_of_ble_eq_true rfl, Nat.le_of_ble_eq_true rfl⟩ hl (Nat.le_of_ble_eq_true rfl) dL_act_93 ⟨Nat.le_of_ble_eq_true rfl, Nat.le_of_ble_eq_true rfl⟩ (fun H locs hP hD hS => ?_)
    exact k_retG (u := x) cx rfl ⟨rfl, J⟩ hP hS ⟨Nat.le_of_ble_eq_true rfl, Nat.le_of_ble_eq_true rfl⟩ dL_act_96

set_option maxRecDepth 100000 in
set_option maxHeartbeats 4000000 in
theorem c_A_2f (l : Launch) (hlt : l.stackTraces = false) (G : gG) (b L : Nat) (xs : Nat → Int32) (d : AD) (HQ : PQd d) (n : Int32) (tt pg : Pg) (hs : List Pg) (k0 k1 : Option Pg) (x9 y9 : Int32) (hv : (x9 - x9 / 16 * 16) = 2) (hy9 : 0 ≤ y9.toInt) (hpv : PV pg) (hc : pg 11 = 0) (hp : ¬ (y9 - y9 / 2 * 2) = 1) : kG l G yL_act wsL_act rmL_act [.ref d.1, .int x9, .int y9] b L xs (fun x : XT => wB G d x []) (fun x => JNV x n tt pg hs k0 k1) (fun r x => r = (P_X4_pressOn pg 0).1 ∧ JNV x n tt ((P_X4_pressOn pg 0).2) (push hs pg) k0 k1) 2 12 := by
  refine k_bodyG (cc := cL_act) (nL := 3) (ret := some .int) (by decide) rfl (Nat.le_of_ble_eq_true rfl) ?_
  intro x hI
  intro p e s m args below meth c A cx cl H locs hP hD hS ls hl
  obtain ⟨hx, hb, hml, hown, hts, hr, hlocks, hK, hA⟩ := id cx
  have hl : lv_has ls 3 [(0, .ref d.1), (1, .int x9), (2, .int y9)] := hl
  have hP : va_P G.1 vwCl (wB G d x []) H := hP
  have hD : va_D A (wB G d x []) := hD
  have J : JNV x n tt pg hs k0 k1 := hI
  refine lv_iload_n hx hb dL_act_0 rfl (lv_at hl 1 rfl) ?_
  refine lv_bipush (v := 16) hx hb dL_act_1 (by decide) ?_
  refine lv_irem hx hb dL_act_3 (by decide) ?_
  refine lv_tableIn (tgt := 80) (off := 76) hx hb dL_act_4 (sw_lo hv (by decide)) (sw_hi hv (by decide)) (sw_at hv (by decide)) (by decide) ?_
  refine lv_aload_n hx hb dL_act_80 rfl (lv_at hl 0 rfl) ?_
  refine lv_iload_n hx hb dL_act_81 rfl (lv_at hl 2 rfl) ?_
  refine lv_iconst (v := 2) hx hb dL_act_82 (by decide) ?_
  refine lv_irem hx hb dL_act_83 (by decide) ?_
  refine lv_iconst (v := 1) hx hb dL_act_84 (by decide) ?_
  refine lv_icmp_ne (tgt := 92) hx hb dL_act_85 (by decide) (fun c9 => ?_) (fun c9 => absurd c9 hp)
  refine lv_iconst (v := 0) hx hb dL_act_92 (by decide) ?_
  refine o_press hlt cx cl HQ J 0 hc (r0 := (P_X4_pressOn pg 0).1) rfl hP hD hS gL_act_L_tryPress ⟨Nat.le_of_ble_eq_true rfl, Nat.le_of_ble_eq_true rfl⟩ hl (Nat.le_of_ble_eq_true rfl) dL_act_93 ⟨Nat.le_of_ble_eq_true rfl, Nat.le_of_ble_eq_true rfl⟩ (fun x H locs J hP hD hS => ?_)
  have J : JNV x n tt ((P_X4_pressOn pg 0).2) (push hs pg) k0 k1 := J
  exact k_retG (u := x) cx rfl ⟨rfl, J⟩ hP hS ⟨Nat.le_of_ble_eq_true rfl, Nat.le_of_ble_eq_true rfl⟩ dL_act_96

set_option maxRecDepth 100000 in
set_option maxHeartbeats 4000000 in
theorem c_A_2t (l : Launch) (hlt : l.stackTraces = false) (G : gG) (b L : Nat) (xs : Nat → Int32) (d : AD) (HQ : PQd d) (n : Int32) (tt pg : Pg) (hs : List Pg) (k0 k1 : Option Pg) (x9 y9 : Int32) (hv : (x9 - x9 / 16 * 16) = 2) (hy9 : 0 ≤ y9.toInt) (hpv : PV pg) (hc : pg 11 = 0) (hp : (y9 - y9 / 2 * 2) = 1) : kG l G yL_act wsL_act rmL_act [.ref d.1, .int x9, .int y9] b L xs (fun x : XT => wB G d x []) (fun x => JNV x n tt pg hs k0 k1) (fun r x => r = (P_X4_pressOn pg 1).1 ∧ JNV x n tt ((P_X4_pressOn pg 1).2) (push hs pg) k0 k1) 2 12 := by
  refine k_bodyG (cc := cL_act) (nL := 3) (ret := some .int) (by decide) rfl (Nat.le_of_ble_eq_true rfl) ?_
  intro x hI
  intro p e s m args below meth c A cx cl H locs hP hD hS ls hl
  obtain ⟨hx, hb, hml, hown, hts, hr, hlocks, hK, hA⟩ := id cx
  have hl : lv_has ls 3 [(0, .ref d.1), (1, .int x9), (2, .int y9)] := hl
  have hP : va_P G.1 vwCl (wB G d x []) H := hP
  have hD : va_D A (wB G d x []) := hD
  have J : JNV x n tt pg hs k0 k1 := hI
  refine lv_iload_n hx hb dL_act_0 rfl (lv_at hl 1 rfl) ?_
  refine lv_bipush (v := 16) hx hb dL_act_1 (by decide) ?_
  refine lv_irem hx hb dL_act_3 (by decide) ?_
  refine lv_tableIn (tgt := 80) (off := 76) hx hb dL_act_4 (sw_lo hv (by decide)) (sw_hi hv (by decide)) (sw_at hv (by decide)) (by decide) ?_
  refine lv_aload_n hx hb dL_act_80 rfl (lv_at hl 0 rfl) ?_
  refine lv_iload_n hx hb dL_act_81 rfl (lv_at hl 2 rfl) ?_
  refine lv_iconst (v := 2) hx hb dL_act_82 (by decide) ?_
  refine lv_irem hx hb dL_act_83 (by decide) ?_
  refine lv_iconst (v := 1) hx hb dL_act_84 (by decide) ?_
  refine lv_icmp_ne (tgt := 92) hx hb dL_act_85 (by decide) (fun c9 => absurd hp c9) (fun c9 => ?_)
  refine lv_iconst (v := 1) hx hb dL_act_88 (by decide) ?_
  refine lv_goto (tgt := 93) hx hb dL_act_89 (by decide) ?_
  refine o_press hlt cx cl HQ J 1 hc (r0 := (P_X4_pressOn pg 1).1) rfl hP hD hS gL_act_L_tryPress ⟨Nat.le_of_ble_eq_true rfl, Nat.le_of_ble_eq_true rfl⟩ hl (Nat.le_of_ble_eq_true rfl) dL_act_93 ⟨Nat.le_of_ble_eq_true rfl, Nat.le_of_ble_eq_true rfl⟩ (fun x H locs J hP hD hS => ?_)
  have J : JNV x n tt ((P_X4_pressOn pg 1).2) (push hs pg) k0 k1 := J
  exact k_retG (u := x) cx rfl ⟨rfl, J⟩ hP hS ⟨Nat.le_of_ble_eq_true rfl, Nat.le_of_ble_eq_true rfl⟩ dL_act_96

set_option maxRecDepth 100000 in
set_option maxHeartbeats 4000000 in
theorem c_A_2s (l : Launch) (hlt : l.stackTraces = false) (G : gG) (b L : Nat) (xs : Nat → Int32) (d : AD) (HQ : PQd d) (n : Int32) (tt pg : Pg) (hs : List Pg) (k0 k1 : Option Pg) (x9 y9 : Int32) (hv : (x9 - x9 / 16 * 16) = 2) (hy9 : 0 ≤ y9.toInt) (hpv : PV pg) (hc : pg 11 = 1) : kG l G yL_act wsL_act rmL_act [.ref d.1, .int x9, .int y9] b L xs (fun x : XT => wB G d x []) (fun x => JNV x n tt pg hs k0 k1) (fun r x => r = (-999900003) ∧ JNV x n tt pg hs k0 k1) 2 12 := by
  refine k_bodyG (cc := cL_act) (nL := 3) (ret := some .int) (by decide) rfl (Nat.le_of_ble_eq_true rfl) ?_
  intro x hI
  intro p e s m args below meth c A cx cl H locs hP hD hS ls hl
  obtain ⟨hx, hb, hml, hown, hts, hr, hlocks, hK, hA⟩ := id cx
  have hl : lv_has ls 3 [(0, .ref d.1), (1, .int x9), (2, .int y9)] := hl
  have hP : va_P G.1 vwCl (wB G d x []) H := hP
  have hD : va_D A (wB G d x []) := hD
  have J : JNV x n tt pg hs k0 k1 := hI
  refine lv_iload_n hx hb dL_act_0 rfl (lv_at hl 1 rfl) ?_
  refine lv_bipush (v := 16) hx hb dL_act_1 (by decide) ?_
  refine lv_irem hx hb dL_act_3 (by decide) ?_
  refine lv_tableIn (tgt := 80) (off := 76) hx hb dL_act_4 (sw_lo hv (by decide)) (sw_hi hv (by decide)) (sw_at hv (by decide)) (by decide) ?_
  refine lv_aload_n hx hb dL_act_80 rfl (lv_at hl 0 rfl) ?_
  refine lv_iload_n hx hb dL_act_81 rfl (lv_at hl 2 rfl) ?_
  refine lv_iconst (v := 2) hx hb dL_act_82 (by decide) ?_
  refine lv_irem hx hb dL_act_83 (by decide) ?_
  refine lv_iconst (v := 1) hx hb dL_act_84 (by decide) ?_
  refine lv_icmp_ne (tgt := 92) hx hb dL_act_85 (by decide) (fun c85 => ?_) (fun c85 => ?_)
  · refine lv_iconst (v := 0) hx hb dL_act_92 (by decide) ?_
    refine n_press hlt cx cl HQ J 0 hc hP hD hS gL_act_L_tryPress ⟨Nat.le_of_ble_eq_true rfl, Nat.le_of_ble_eq_true rfl⟩ hl (Nat.le_of_ble_eq_true rfl) dL_act_93 ⟨Nat.le_of_ble_eq_true rfl, Nat.le_of_ble_eq_true rfl⟩ (fun H locs hP hD hS => ?_)
    exact k_retG (u := x) cx rfl ⟨rfl, J⟩ hP hS ⟨Nat.le_of_ble_eq_true rfl, Nat.le_of_ble_eq_true rfl⟩ dL_act_96
  · refine lv_iconst (v := 1) hx hb dL_act_88 (by decide) ?_
    refine lv_goto (tgt := 93) hx hb dL_act_89 (by decide) ?_
    refine n_press hlt cx cl HQ J 1 hc hP hD hS gL_act_L_tryPress ⟨Nat.le_of_ble_eq_true rfl, Nat.le_of_ble_eq_true rfl⟩ hl (Nat.le_of_ble_eq_true rfl) dL_act_93 ⟨Nat.le_of_ble_eq_true rfl, Nat.le_of_ble_eq_true rfl⟩ (fun H locs hP hD hS => ?_)
    exact k_retG (u := x) cx rfl ⟨rfl, J⟩ hP hS ⟨Nat.le_of_ble_eq_true rfl, Nat.le_of_ble_eq_true rfl⟩ dL_act_96

set_option maxRecDepth 100000 in
set_option maxHeartbeats 4000000 in
theorem c_A_3f (l : Launch) (hlt : l.stackTraces = false) (G : gG) (b L : Nat) (xs : Nat → Int32) (d : AD) (HQ : PQd d) (n : Int32) (tt pg : Pg) (hs : List Pg) (k0 k1 : Option Pg) (x9 y9 : Int32) (hv : (x9 - x9 / 16 * 16) = 3) (hy9 : 0 ≤ y9.toInt) (hpv : PV pg) (hc : pg 11 = 0) : kG l G yL_act wsL_act rmL_act [.ref d.1, .int x9, .int y9] b L xs (fun x : XT => wB G d x []) (fun x => JNV x n tt pg hs k0 k1) (fun r x => r = (P_X4_pairOn pg).1 ∧ JNV x n tt ((P_X4_pairOn pg).2) (push hs pg) k0 k1) 2 12 := by
  refine k_bodyG (cc := cL_act) (nL := 3) (ret := some .int) (by decide) rfl (Nat.le_of_ble_eq_true rfl) ?_
  intro x hI
  intro p e s m args below meth c A cx cl H locs hP hD hS ls hl
  obtain ⟨hx, hb, hml, hown, hts, hr, hlocks, hK, hA⟩ := id cx
  have hl : lv_has ls 3 [(0, .ref d.1), (1, .int x9), (2, .int y9)] := hl
  have hP : va_P G.1 vwCl (wB G d x []) H := hP
  have hD : va_D A (wB G d x []) := hD
  have J : JNV x n tt pg hs k0 k1 := hI
  refine lv_iload_n hx hb dL_act_0 rfl (lv_at hl 1 rfl) ?_
  refine lv_bipush (v := 16) hx hb dL_act_1 (by decide) ?_
  refine lv_irem hx hb dL_act_3 (by decide) ?_
  refine lv_tableIn (tgt := 97) (off := 93) hx hb dL_act_4 (sw_lo hv (by decide)) (sw_hi hv (by decide)) (sw_at hv (by decide)) (by decide) ?_
  refine lv_aload_n hx hb dL_act_97 rfl (lv_at hl 0 rfl) ?_
  refine o_pair hlt cx cl HQ J  hc (r0 := (P_X4_pairOn pg).1) rfl hP hD hS gL_act_L_tryPair ⟨Nat.le_of_ble_eq_true rfl, Nat.le_of_ble_eq_true rfl⟩ hl (Nat.le_of_ble_eq_true rfl) dL_act_98 ⟨Nat.le_of_ble_eq_true rfl, Nat.le_of_ble_eq_true rfl⟩ (fun x H locs J hP hD hS => ?_)
  have J : JNV x n tt ((P_X4_pairOn pg).2) (push hs pg) k0 k1 := J
  exact k_retG (u := x) cx rfl ⟨rfl, J⟩ hP hS ⟨Nat.le_of_ble_eq_true rfl, Nat.le_of_ble_eq_true rfl⟩ dL_act_101

set_option maxRecDepth 100000 in
set_option maxHeartbeats 4000000 in
theorem c_A_3s (l : Launch) (hlt : l.stackTraces = false) (G : gG) (b L : Nat) (xs : Nat → Int32) (d : AD) (HQ : PQd d) (n : Int32) (tt pg : Pg) (hs : List Pg) (k0 k1 : Option Pg) (x9 y9 : Int32) (hv : (x9 - x9 / 16 * 16) = 3) (hy9 : 0 ≤ y9.toInt) (hpv : PV pg) (hc : pg 11 = 1) : kG l G yL_act wsL_act rmL_act [.ref d.1, .int x9, .int y9] b L xs (fun x : XT => wB G d x []) (fun x => JNV x n tt pg hs k0 k1) (fun r x => r = (-999900003) ∧ JNV x n tt pg hs k0 k1) 2 12 := by
  refine k_bodyG (cc := cL_act) (nL := 3) (ret := some .int) (by decide) rfl (Nat.le_of_ble_eq_true rfl) ?_
  intro x hI
  intro p e s m args below meth c A cx cl H locs hP hD hS ls hl
  obtain ⟨hx, hb, hml, hown, hts, hr, hlocks, hK, hA⟩ := id cx
  have hl : lv_has ls 3 [(0, .ref d.1), (1, .int x9), (2, .int y9)] := hl
  have hP : va_P G.1 vwCl (wB G d x []) H := hP
  have hD : va_D A (wB G d x []) := hD
  have J : JNV x n tt pg hs k0 k1 := hI
  refine lv_iload_n hx hb dL_act_0 rfl (lv_at hl 1 rfl) ?_
  refine lv_bipush (v := 16) hx hb dL_act_1 (by decide) ?_
  refine lv_irem hx hb dL_act_3 (by decide) ?_
  refine lv_tableIn (tgt := 97) (off := 93) hx hb dL_act_4 (sw_lo hv (by decide)) (sw_hi hv (by decide)) (sw_at hv (by decide)) (by decide) ?_
  refine lv_aload_n hx hb dL_act_97 rfl (lv_at hl 0 rfl) ?_
  refine n_pair hlt cx cl HQ J  hc hP hD hS gL_act_L_tryPair ⟨Nat.le_of_ble_eq_true rfl, Nat.le_of_ble_eq_true rfl⟩ hl (Nat.le_of_ble_eq_true rfl) dL_act_98 ⟨Nat.le_of_ble_eq_true rfl, Nat.le_of_ble_eq_true rfl⟩ (fun H locs hP hD hS => ?_)
  exact k_retG (u := x) cx rfl ⟨rfl, J⟩ hP hS ⟨Nat.le_of_ble_eq_true rfl, Nat.le_of_ble_eq_true rfl⟩ dL_act_101

set_option maxRecDepth 100000 in
set_option maxHeartbeats 4000000 in
theorem c_A_4 (l : Launch) (hlt : l.stackTraces = false) (G : gG) (b L : Nat) (xs : Nat → Int32) (d : AD) (HQ : PQd d) (n : Int32) (tt pg : Pg) (hs : List Pg) (k0 k1 : Option Pg) (x9 y9 : Int32) (hv : (x9 - x9 / 16 * 16) = 4) (hy9 : 0 ≤ y9.toInt) (hpv : PV pg)  : kG l G yL_act wsL_act rmL_act [.ref d.1, .int x9, .int y9] b L xs (fun x : XT => wB G d x []) (fun x => JNV x n tt pg hs k0 k1) (fun r x => r = (P_X4_offsetOf (P_X4_waitOn pg (1 + (y9 - y9 / 80 * 80)))) ∧ JNV x n tt (P_X4_waitOn pg (1 + (y9 - y9 / 80 * 80))) (push hs pg) k0 k1) 2 12 := by
  refine k_bodyG (cc := cL_act) (nL := 3) (ret := some .int) (by decide) rfl (Nat.le_of_ble_eq_true rfl) ?_
  intro x hI
  intro p e s m args below meth c A cx cl H locs hP hD hS ls hl
  obtain ⟨hx, hb, hml, hown, hts, hr, hlocks, hK, hA⟩ := id cx
  have hl : lv_has ls 3 [(0, .ref d.1), (1, .int x9), (2, .int y9)] := hl
  have hP : va_P G.1 vwCl (wB G d x []) H := hP
  have hD : va_D A (wB G d x []) := hD
  have J : JNV x n tt pg hs k0 k1 := hI
  refine lv_iload_n hx hb dL_act_0 rfl (lv_at hl 1 rfl) ?_
  refine lv_bipush (v := 16) hx hb dL_act_1 (by decide) ?_
  refine lv_irem hx hb dL_act_3 (by decide) ?_
  refine lv_tableIn (tgt := 102) (off := 98) hx hb dL_act_4 (sw_lo hv (by decide)) (sw_hi hv (by decide)) (sw_at hv (by decide)) (by decide) ?_
  refine lv_aload_n hx hb dL_act_102 rfl (lv_at hl 0 rfl) ?_
  refine lv_iconst (v := 1) hx hb dL_act_103 (by decide) ?_
  refine lv_iload_n hx hb dL_act_104 rfl (lv_at hl 2 rfl) ?_
  refine lv_bipush (v := 80) hx hb dL_act_105 (by decide) ?_
  refine lv_irem hx hb dL_act_107 (by decide) ?_
  refine lv_iadd hx hb dL_act_108 ?_
  refine o_pause hlt cx cl HQ J (1 + (y9 - y9 / 80 * 80)) (in_yes32 (ad_1 (md_b (x := y9) (k := 80) (K := 80) hy9 (by decide) (by decide)) (by decide)).1 (Int.le_trans (ad_1 (md_b (x := y9) (k := 80) (K := 80) hy9 (by decide) (by decide)) (by decide)).2 (by decide))) (r0 := (P_X4_offsetOf (P_X4_waitOn pg (1 + (y9 - y9 / 80 * 80))))) rfl hP hD hS gL_act_L_tryPause ⟨Nat.le_of_ble_eq_true rfl, Nat.le_of_ble_eq_true rfl⟩ hl (Nat.le_of_ble_eq_true rfl) dL_act_109 ⟨Nat.le_of_ble_eq_true rfl, Nat.le_of_ble_eq_true rfl⟩ (fun x H locs J hP hD hS => ?_)
  have J : JNV x n tt (P_X4_waitOn pg (1 + (y9 - y9 / 80 * 80))) (push hs pg) k0 k1 := J
  exact k_retG (u := x) cx rfl ⟨rfl, J⟩ hP hS ⟨Nat.le_of_ble_eq_true rfl, Nat.le_of_ble_eq_true rfl⟩ dL_act_112

set_option maxRecDepth 100000 in
set_option maxHeartbeats 4000000 in
theorem c_A_5 (l : Launch) (hlt : l.stackTraces = false) (G : gG) (b L : Nat) (xs : Nat → Int32) (d : AD) (HQ : PQd d) (n : Int32) (tt pg : Pg) (hs : List Pg) (k0 k1 : Option Pg) (x9 y9 : Int32) (hv : (x9 - x9 / 16 * 16) = 5) (hy9 : 0 ≤ y9.toInt) (hpv : PV pg)  : kG l G yL_act wsL_act rmL_act [.ref d.1, .int x9, .int y9] b L xs (fun x : XT => wB G d x []) (fun x => JNV x n tt pg hs k0 k1) (fun r x => r = (pg 2) ∧ JNV x n tt (upd pg 2 (y9 - y9 / 10000 * 10000)) (push hs pg) k0 k1) 2 12 := by
  refine k_bodyG (cc := cL_act) (nL := 3) (ret := some .int) (by decide) rfl (Nat.le_of_ble_eq_true rfl) ?_
  intro x hI
  intro p e s m args below meth c A cx cl H locs hP hD hS ls hl
  obtain ⟨hx, hb, hml, hown, hts, hr, hlocks, hK, hA⟩ := id cx
  have hl : lv_has ls 3 [(0, .ref d.1), (1, .int x9), (2, .int y9)] := hl
  have hP : va_P G.1 vwCl (wB G d x []) H := hP
  have hD : va_D A (wB G d x []) := hD
  have J : JNV x n tt pg hs k0 k1 := hI
  refine lv_iload_n hx hb dL_act_0 rfl (lv_at hl 1 rfl) ?_
  refine lv_bipush (v := 16) hx hb dL_act_1 (by decide) ?_
  refine lv_irem hx hb dL_act_3 (by decide) ?_
  refine lv_tableIn (tgt := 113) (off := 109) hx hb dL_act_4 (sw_lo hv (by decide)) (sw_hi hv (by decide)) (sw_at hv (by decide)) (by decide) ?_
  refine lv_aload_n hx hb dL_act_113 rfl (lv_at hl 0 rfl) ?_
  refine lv_iconst (v := 2) hx hb dL_act_114 (by decide) ?_
  refine lv_iload_n hx hb dL_act_115 rfl (lv_at hl 2 rfl) ?_
  refine lv_sipush (v := 10000) hx hb dL_act_116 (by decide) ?_
  refine lv_irem hx hb dL_act_119 (by decide) ?_
  refine o_set hlt cx cl HQ J 2 (y9 - y9 / 10000 * 10000) (set_2 (rb_m hy9)) (r0 := (pg 2)) rfl hP hD hS gL_act_L_trySet ⟨Nat.le_of_ble_eq_true rfl, Nat.le_of_ble_eq_true rfl⟩ hl (Nat.le_of_ble_eq_true rfl) dL_act_120 ⟨Nat.le_of_ble_eq_true rfl, Nat.le_of_ble_eq_true rfl⟩ (fun x H locs J hP hD hS => ?_)
  have J : JNV x n tt (upd pg 2 (y9 - y9 / 10000 * 10000)) (push hs pg) k0 k1 := J
  exact k_retG (u := x) cx rfl ⟨rfl, J⟩ hP hS ⟨Nat.le_of_ble_eq_true rfl, Nat.le_of_ble_eq_true rfl⟩ dL_act_123

set_option maxRecDepth 100000 in
set_option maxHeartbeats 4000000 in
theorem c_A_6 (l : Launch) (hlt : l.stackTraces = false) (G : gG) (b L : Nat) (xs : Nat → Int32) (d : AD) (HQ : PQd d) (n : Int32) (tt pg : Pg) (hs : List Pg) (k0 k1 : Option Pg) (x9 y9 : Int32) (hv : (x9 - x9 / 16 * 16) = 6) (hy9 : 0 ≤ y9.toInt) (hpv : PV pg)  : kG l G yL_act wsL_act rmL_act [.ref d.1, .int x9, .int y9] b L xs (fun x : XT => wB G d x []) (fun x => JNV x n tt pg hs k0 k1) (fun r x => r = (pg 3) ∧ JNV x n tt (upd pg 3 (1 + (y9 - y9 / 99 * 99))) (push hs pg) k0 k1) 2 12 := by
  refine k_bodyG (cc := cL_act) (nL := 3) (ret := some .int) (by decide) rfl (Nat.le_of_ble_eq_true rfl) ?_
  intro x hI
  intro p e s m args below meth c A cx cl H locs hP hD hS ls hl
  obtain ⟨hx, hb, hml, hown, hts, hr, hlocks, hK, hA⟩ := id cx
  have hl : lv_has ls 3 [(0, .ref d.1), (1, .int x9), (2, .int y9)] := hl
  have hP : va_P G.1 vwCl (wB G d x []) H := hP
  have hD : va_D A (wB G d x []) := hD
  have J : JNV x n tt pg hs k0 k1 := hI
  refine lv_iload_n hx hb dL_act_0 rfl (lv_at hl 1 rfl) ?_
  refine lv_bipush (v := 16) hx hb dL_act_1 (by decide) ?_
  refine lv_irem hx hb dL_act_3 (by decide) ?_
  refine lv_tableIn (tgt := 124) (off := 120) hx hb dL_act_4 (sw_lo hv (by decide)) (sw_hi hv (by decide)) (sw_at hv (by decide)) (by decide) ?_
  refine lv_aload_n hx hb dL_act_124 rfl (lv_at hl 0 rfl) ?_
  refine lv_iconst (v := 3) hx hb dL_act_125 (by decide) ?_
  refine lv_iconst (v := 1) hx hb dL_act_126 (by decide) ?_
  refine lv_iload_n hx hb dL_act_127 rfl (lv_at hl 2 rfl) ?_
  refine lv_bipush (v := 99) hx hb dL_act_128 (by decide) ?_
  refine lv_irem hx hb dL_act_130 (by decide) ?_
  refine lv_iadd hx hb dL_act_131 ?_
  refine o_set hlt cx cl HQ J 3 (1 + (y9 - y9 / 99 * 99)) (set_3 (ad_1 (md_b (x := y9) (k := 99) (K := 99) hy9 (by decide) (by decide)) (by decide))) (r0 := (pg 3)) rfl hP hD hS gL_act_L_trySet ⟨Nat.le_of_ble_eq_true rfl, Nat.le_of_ble_eq_true rfl⟩ hl (Nat.le_of_ble_eq_true rfl) dL_act_132 ⟨Nat.le_of_ble_eq_true rfl, Nat.le_of_ble_eq_true rfl⟩ (fun x H locs J hP hD hS => ?_)
  have J : JNV x n tt (upd pg 3 (1 + (y9 - y9 / 99 * 99))) (push hs pg) k0 k1 := J
  exact k_retG (u := x) cx rfl ⟨rfl, J⟩ hP hS ⟨Nat.le_of_ble_eq_true rfl, Nat.le_of_ble_eq_true rfl⟩ dL_act_135

set_option maxRecDepth 100000 in
set_option maxHeartbeats 4000000 in
theorem c_A_7 (l : Launch) (hlt : l.stackTraces = false) (G : gG) (b L : Nat) (xs : Nat → Int32) (d : AD) (HQ : PQd d) (n : Int32) (tt pg : Pg) (hs : List Pg) (k0 k1 : Option Pg) (x9 y9 : Int32) (hv : (x9 - x9 / 16 * 16) = 7) (hy9 : 0 ≤ y9.toInt) (hpv : PV pg)  : kG l G yL_act wsL_act rmL_act [.ref d.1, .int x9, .int y9] b L xs (fun x : XT => wB G d x []) (fun x => JNV x n tt pg hs k0 k1) (fun r x => r = (pg 4) ∧ JNV x n tt (upd pg 4 (y9 - y9 / 4 * 4)) (push hs pg) k0 k1) 2 12 := by
  refine k_bodyG (cc := cL_act) (nL := 3) (ret := some .int) (by decide) rfl (Nat.le_of_ble_eq_true rfl) ?_
  intro x hI
  intro p e s m args below meth c A cx cl H locs hP hD hS ls hl
  obtain ⟨hx, hb, hml, hown, hts, hr, hlocks, hK, hA⟩ := id cx
  have hl : lv_has ls 3 [(0, .ref d.1), (1, .int x9), (2, .int y9)] := hl
  have hP : va_P G.1 vwCl (wB G d x []) H := hP
  have hD : va_D A (wB G d x []) := hD
  have J : JNV x n tt pg hs k0 k1 := hI
  refine lv_iload_n hx hb dL_act_0 rfl (lv_at hl 1 rfl) ?_
  refine lv_bipush (v := 16) hx hb dL_act_1 (by decide) ?_
  refine lv_irem hx hb dL_act_3 (by decide) ?_
  refine lv_tableIn (tgt := 136) (off := 132) hx hb dL_act_4 (sw_lo hv (by decide)) (sw_hi hv (by decide)) (sw_at hv (by decide)) (by decide) ?_
  refine lv_aload_n hx hb dL_act_136 rfl (lv_at hl 0 rfl) ?_
  refine lv_iconst (v := 4) hx hb dL_act_137 (by decide) ?_
  refine lv_iload_n hx hb dL_act_138 rfl (lv_at hl 2 rfl) ?_
  refine lv_iconst (v := 4) hx hb dL_act_139 (by decide) ?_
  refine lv_irem hx hb dL_act_140 (by decide) ?_
  refine o_set hlt cx cl HQ J 4 (y9 - y9 / 4 * 4) (set_4v (md_b (x := y9) (k := 4) (K := 4) hy9 (by decide) (by decide))) (r0 := (pg 4)) rfl hP hD hS gL_act_L_trySet ⟨Nat.le_of_ble_eq_true rfl, Nat.le_of_ble_eq_true rfl⟩ hl (Nat.le_of_ble_eq_true rfl) dL_act_141 ⟨Nat.le_of_ble_eq_true rfl, Nat.le_of_ble_eq_true rfl⟩ (fun x H locs J hP hD hS => ?_)
  have J : JNV x n tt (upd pg 4 (y9 - y9 / 4 * 4)) (push hs pg) k0 k1 := J
  exact k_retG (u := x) cx rfl ⟨rfl, J⟩ hP hS ⟨Nat.le_of_ble_eq_true rfl, Nat.le_of_ble_eq_true rfl⟩ dL_act_144

set_option maxRecDepth 100000 in
set_option maxHeartbeats 4000000 in
theorem c_A_8e0 (l : Launch) (hlt : l.stackTraces = false) (G : gG) (b L : Nat) (xs : Nat → Int32) (d : AD) (HQ : PQd d) (n : Int32) (tt pg : Pg) (hs : List Pg) (k0 k1 : Option Pg) (x9 y9 : Int32) (hv : (x9 - x9 / 16 * 16) = 8) (hy9 : 0 ≤ y9.toInt) (hpv : PV pg) (hp : (y9 - y9 / 2 * 2) = 0) (hq : ((y9 / 2) - (y9 / 2) / 2 * 2) = 0) : kG l G yL_act wsL_act rmL_act [.ref d.1, .int x9, .int y9] b L xs (fun x : XT => wB G d x []) (fun x => JNV x n tt pg hs k0 k1) (fun r x => r = (pg 0) ∧ JNV x n tt (upd pg 0 ((y9 / 4) - (y9 / 4) / 4 * 4)) (push hs pg) k0 k1) 2 12 := by
  refine k_bodyG (cc := cL_act) (nL := 3) (ret := some .int) (by decide) rfl (Nat.le_of_ble_eq_true rfl) ?_
  intro x hI
  intro p e s m args below meth c A cx cl H locs hP hD hS ls hl
  obtain ⟨hx, hb, hml, hown, hts, hr, hlocks, hK, hA⟩ := id cx
  have hl : lv_has ls 3 [(0, .ref d.1), (1, .int x9), (2, .int y9)] := hl
  have hP : va_P G.1 vwCl (wB G d x []) H := hP
  have hD : va_D A (wB G d x []) := hD
  have J : JNV x n tt pg hs k0 k1 := hI
  refine lv_iload_n hx hb dL_act_0 rfl (lv_at hl 1 rfl) ?_
  refine lv_bipush (v := 16) hx hb dL_act_1 (by decide) ?_
  refine lv_irem hx hb dL_act_3 (by decide) ?_
  refine lv_tableIn (tgt := 145) (off := 141) hx hb dL_act_4 (sw_lo hv (by decide)) (sw_hi hv (by decide)) (sw_at hv (by decide)) (by decide) ?_
  refine lv_iload_n hx hb dL_act_145 rfl (lv_at hl 2 rfl) ?_
  refine lv_iconst (v := 2) hx hb dL_act_146 (by decide) ?_
  refine lv_irem hx hb dL_act_147 (by decide) ?_
  refine lv_if_ne (tgt := 168) hx hb dL_act_148 (by decide) (fun c9 => absurd hp c9) (fun c9 => ?_)
  refine lv_aload_n hx hb dL_act_151 rfl (lv_at hl 0 rfl) ?_
  refine lv_iload_n hx hb dL_act_152 rfl (lv_at hl 2 rfl) ?_
  refine lv_iconst (v := 2) hx hb dL_act_153 (by decide) ?_
  refine lv_idiv hx hb dL_act_154 (by decide) ?_
  refine lv_iconst (v := 2) hx hb dL_act_155 (by decide) ?_
  refine lv_irem hx hb dL_act_156 (by decide) ?_
  refine k_top (v' := 0) hq ?_
  refine lv_iload_n hx hb dL_act_157 rfl (lv_at hl 2 rfl) ?_
  refine lv_iconst (v := 4) hx hb dL_act_158 (by decide) ?_
  refine lv_idiv hx hb dL_act_159 (by decide) ?_
  refine lv_iconst (v := 4) hx hb dL_act_160 (by decide) ?_
  refine lv_irem hx hb dL_act_161 (by decide) ?_
  refine o_set hlt cx cl HQ J 0 ((y9 / 4) - (y9 / 4) / 4 * 4) (set_0v (md_b (x := (y9 / 4)) (k := 4) (K := 4) (by rw [dvi (x := y9) (k := 4) (K := 4) hy9 (by decide) (by decide)]; omega) (by decide) (by decide))) (r0 := (pg 0)) rfl hP hD hS gL_act_L_trySet ⟨Nat.le_of_ble_eq_true rfl, Nat.le_of_ble_eq_true rfl⟩ hl (Nat.le_of_ble_eq_true rfl) dL_act_162 ⟨Nat.le_of_ble_eq_true rfl, Nat.le_of_ble_eq_true rfl⟩ (fun x H locs J hP hD hS => ?_)
  have J : JNV x n tt (upd pg 0 ((y9 / 4) - (y9 / 4) / 4 * 4)) (push hs pg) k0 k1 := J
  refine lv_goto (tgt := 180) hx hb dL_act_165 (by decide) ?_
  exact k_retG (u := x) cx rfl ⟨rfl, J⟩ hP hS ⟨Nat.le_of_ble_eq_true rfl, Nat.le_of_ble_eq_true rfl⟩ dL_act_180

set_option maxRecDepth 100000 in
set_option maxHeartbeats 4000000 in
theorem c_A_8e1 (l : Launch) (hlt : l.stackTraces = false) (G : gG) (b L : Nat) (xs : Nat → Int32) (d : AD) (HQ : PQd d) (n : Int32) (tt pg : Pg) (hs : List Pg) (k0 k1 : Option Pg) (x9 y9 : Int32) (hv : (x9 - x9 / 16 * 16) = 8) (hy9 : 0 ≤ y9.toInt) (hpv : PV pg) (hp : (y9 - y9 / 2 * 2) = 0) (hq : ((y9 / 2) - (y9 / 2) / 2 * 2) = 1) : kG l G yL_act wsL_act rmL_act [.ref d.1, .int x9, .int y9] b L xs (fun x : XT => wB G d x []) (fun x => JNV x n tt pg hs k0 k1) (fun r x => r = (pg 1) ∧ JNV x n tt (upd pg 1 ((y9 / 4) - (y9 / 4) / 4 * 4)) (push hs pg) k0 k1) 2 12 := by
  refine k_bodyG (cc := cL_act) (nL := 3) (ret := some .int) (by decide) rfl (Nat.le_of_ble_eq_true rfl) ?_
  intro x hI
  intro p e s m args below meth c A cx cl H locs hP hD hS ls hl
  obtain ⟨hx, hb, hml, hown, hts, hr, hlocks, hK, hA⟩ := id cx
  have hl : lv_has ls 3 [(0, .ref d.1), (1, .int x9), (2, .int y9)] := hl
  have hP : va_P G.1 vwCl (wB G d x []) H := hP
  have hD : va_D A (wB G d x []) := hD
  have J : JNV x n tt pg hs k0 k1 := hI
  refine lv_iload_n hx hb dL_act_0 rfl (lv_at hl 1 rfl) ?_
  refine lv_bipush (v := 16) hx hb dL_act_1 (by decide) ?_
  refine lv_irem hx hb dL_act_3 (by decide) ?_
  refine lv_tableIn (tgt := 145) (off := 141) hx hb dL_act_4 (sw_lo hv (by decide)) (sw_hi hv (by decide)) (sw_at hv (by decide)) (by decide) ?_
  refine lv_iload_n hx hb dL_act_145 rfl (lv_at hl 2 rfl) ?_
  refine lv_iconst (v := 2) hx hb dL_act_146 (by decide) ?_
  refine lv_irem hx hb dL_act_147 (by decide) ?_
  refine lv_if_ne (tgt := 168) hx hb dL_act_148 (by decide) (fun c9 => absurd hp c9) (fun c9 => ?_)
  refine lv_aload_n hx hb dL_act_151 rfl (lv_at hl 0 rfl) ?_
  refine lv_iload_n hx hb dL_act_152 rfl (lv_at hl 2 rfl) ?_
  refine lv_iconst (v := 2) hx hb dL_act_153 (by decide) ?_
  refine lv_idiv hx hb dL_act_154 (by decide) ?_
  refine lv_iconst (v := 2) hx hb dL_act_155 (by decide) ?_
  refine lv_irem hx hb dL_act_156 (by decide) ?_
  refine k_top (v' := 1) hq ?_
  refine lv_iload_n hx hb dL_act_157 rfl (lv_at hl 2 rfl) ?_
  refine lv_iconst (v := 4) hx hb dL_act_158 (by decide) ?_
  refine lv_idiv hx hb dL_act_159 (by decide) ?_
  refine lv_iconst (v := 4) hx hb dL_act_160 (by decide) ?_
  refine lv_irem hx hb dL_act_161 (by decide) ?_
  refine o_set hlt cx cl HQ J 1 ((y9 / 4) - (y9 / 4) / 4 * 4) (set_1v (md_b (x := (y9 / 4)) (k := 4) (K := 4) (by rw [dvi (x := y9) (k := 4) (K := 4) hy9 (by decide) (by decide)]; omega) (by decide) (by decide))) (r0 := (pg 1)) rfl hP hD hS gL_act_L_trySet ⟨Nat.le_of_ble_eq_true rfl, Nat.le_of_ble_eq_true rfl⟩ hl (Nat.le_of_ble_eq_true rfl) dL_act_162 ⟨Nat.le_of_ble_eq_true rfl, Nat.le_of_ble_eq_true rfl⟩ (fun x H locs J hP hD hS => ?_)
  have J : JNV x n tt (upd pg 1 ((y9 / 4) - (y9 / 4) / 4 * 4)) (push hs pg) k0 k1 := J
  refine lv_goto (tgt := 180) hx hb dL_act_165 (by decide) ?_
  exact k_retG (u := x) cx rfl ⟨rfl, J⟩ hP hS ⟨Nat.le_of_ble_eq_true rfl, Nat.le_of_ble_eq_true rfl⟩ dL_act_180

set_option maxRecDepth 100000 in
set_option maxHeartbeats 4000000 in
theorem c_A_8o (l : Launch) (hlt : l.stackTraces = false) (G : gG) (b L : Nat) (xs : Nat → Int32) (d : AD) (HQ : PQd d) (n : Int32) (tt pg : Pg) (hs : List Pg) (k0 k1 : Option Pg) (x9 y9 : Int32) (hv : (x9 - x9 / 16 * 16) = 8) (hy9 : 0 ≤ y9.toInt) (hpv : PV pg) (hp : ¬ (y9 - y9 / 2 * 2) = 0) : kG l G yL_act wsL_act rmL_act [.ref d.1, .int x9, .int y9] b L xs (fun x : XT => wB G d x []) (fun x => JNV x n tt pg hs k0 k1) (fun r x => r = (pg 6) ∧ JNV x n tt (upd pg 6 ((y9 / 2) - (y9 / 2) / 21 * 21)) (push hs pg) k0 k1) 2 12 := by
  refine k_bodyG (cc := cL_act) (nL := 3) (ret := some .int) (by decide) rfl (Nat.le_of_ble_eq_true rfl) ?_
  intro x hI
  intro p e s m args below meth c A cx cl H locs hP hD hS ls hl
  obtain ⟨hx, hb, hml, hown, hts, hr, hlocks, hK, hA⟩ := id cx
  have hl : lv_has ls 3 [(0, .ref d.1), (1, .int x9), (2, .int y9)] := hl
  have hP : va_P G.1 vwCl (wB G d x []) H := hP
  have hD : va_D A (wB G d x []) := hD
  have J : JNV x n tt pg hs k0 k1 := hI
  refine lv_iload_n hx hb dL_act_0 rfl (lv_at hl 1 rfl) ?_
  refine lv_bipush (v := 16) hx hb dL_act_1 (by decide) ?_
  refine lv_irem hx hb dL_act_3 (by decide) ?_
  refine lv_tableIn (tgt := 145) (off := 141) hx hb dL_act_4 (sw_lo hv (by decide)) (sw_hi hv (by decide)) (sw_at hv (by decide)) (by decide) ?_
  refine lv_iload_n hx hb dL_act_145 rfl (lv_at hl 2 rfl) ?_
  refine lv_iconst (v := 2) hx hb dL_act_146 (by decide) ?_
  refine lv_irem hx hb dL_act_147 (by decide) ?_
  refine lv_if_ne (tgt := 168) hx hb dL_act_148 (by decide) (fun c9 => ?_) (fun c9 => absurd c9 hp)
  refine lv_aload_n hx hb dL_act_168 rfl (lv_at hl 0 rfl) ?_
  refine lv_bipush (v := 6) hx hb dL_act_169 (by decide) ?_
  refine lv_iload_n hx hb dL_act_171 rfl (lv_at hl 2 rfl) ?_
  refine lv_iconst (v := 2) hx hb dL_act_172 (by decide) ?_
  refine lv_idiv hx hb dL_act_173 (by decide) ?_
  refine lv_bipush (v := 21) hx hb dL_act_174 (by decide) ?_
  refine lv_irem hx hb dL_act_176 (by decide) ?_
  refine o_set hlt cx cl HQ J 6 ((y9 / 2) - (y9 / 2) / 21 * 21) (set_6v (md_b (x := (y9 / 2)) (k := 21) (K := 21) (by rw [dvi (x := y9) (k := 2) (K := 2) hy9 (by decide) (by decide)]; omega) (by decide) (by decide))) (r0 := (pg 6)) rfl hP hD hS gL_act_L_trySet ⟨Nat.le_of_ble_eq_true rfl, Nat.le_of_ble_eq_true rfl⟩ hl (Nat.le_of_ble_eq_true rfl) dL_act_177 ⟨Nat.le_of_ble_eq_true rfl, Nat.le_of_ble_eq_true rfl⟩ (fun x H locs J hP hD hS => ?_)
  have J : JNV x n tt (upd pg 6 ((y9 / 2) - (y9 / 2) / 21 * 21)) (push hs pg) k0 k1 := J
  exact k_retG (u := x) cx rfl ⟨rfl, J⟩ hP hS ⟨Nat.le_of_ble_eq_true rfl, Nat.le_of_ble_eq_true rfl⟩ dL_act_180

set_option maxRecDepth 100000 in
set_option maxHeartbeats 4000000 in
theorem c_A_9 (l : Launch) (hlt : l.stackTraces = false) (G : gG) (b L : Nat) (xs : Nat → Int32) (d : AD) (HQ : PQd d) (n : Int32) (tt pg : Pg) (hs : List Pg) (k0 k1 : Option Pg) (x9 y9 : Int32) (hv : (x9 - x9 / 16 * 16) = 9) (hy9 : 0 ≤ y9.toInt) (hpv : PV pg)  : kG l G yL_act wsL_act rmL_act [.ref d.1, .int x9, .int y9] b L xs (fun x : XT => wB G d x []) (fun x => JNV x n tt pg hs k0 k1) (fun r x => r = (pg 10) ∧ JNV x n tt (upd pg 10 (y9 - y9 / (pg 9) * (pg 9))) (push hs pg) k0 k1) 2 12 := by
  refine k_bodyG (cc := cL_act) (nL := 3) (ret := some .int) (by decide) rfl (Nat.le_of_ble_eq_true rfl) ?_
  intro x hI
  intro p e s m args below meth c A cx cl H locs hP hD hS ls hl
  obtain ⟨hx, hb, hml, hown, hts, hr, hlocks, hK, hA⟩ := id cx
  have hl : lv_has ls 3 [(0, .ref d.1), (1, .int x9), (2, .int y9)] := hl
  have hP : va_P G.1 vwCl (wB G d x []) H := hP
  have hD : va_D A (wB G d x []) := hD
  have J : JNV x n tt pg hs k0 k1 := hI
  refine lv_iload_n hx hb dL_act_0 rfl (lv_at hl 1 rfl) ?_
  refine lv_bipush (v := 16) hx hb dL_act_1 (by decide) ?_
  refine lv_irem hx hb dL_act_3 (by decide) ?_
  refine lv_tableIn (tgt := 181) (off := 177) hx hb dL_act_4 (sw_lo hv (by decide)) (sw_hi hv (by decide)) (sw_at hv (by decide)) (by decide) ?_
  refine lv_aload_n hx hb dL_act_181 rfl (lv_at hl 0 rfl) ?_
  refine lv_iload_n hx hb dL_act_182 rfl (lv_at hl 2 rfl) ?_
  refine lv_aload_n hx hb dL_act_183 rfl (lv_at hl 0 rfl) ?_
  refine lv_bipush (v := 10) hx hb dL_act_184 (by decide) ?_
  refine o_about hlt cx cl HQ J 10 (r0 := (pg 9)) (ab_hi (j := 9) (by decide) (by decide) (by decide) (by decide)) hP hD hS gL_act_L_tryAbout ⟨Nat.le_of_ble_eq_true rfl, Nat.le_of_ble_eq_true rfl⟩ hl (Nat.le_of_ble_eq_true rfl) dL_act_186 ⟨Nat.le_of_ble_eq_true rfl, Nat.le_of_ble_eq_true rfl⟩ (fun H locs hP hD hS => ?_)
  refine lv_irem hx hb dL_act_189 (n9_ne hpv) ?_
  refine o_choose hlt cx cl HQ J (y9 - y9 / (pg 9) * (pg 9)) (un_ok hpv (md_b hy9 rfl (n9_p hpv)).1 (md_b hy9 rfl (n9_p hpv)).2) (r0 := (pg 10)) rfl hP hD hS gL_act_L_tryChoose ⟨Nat.le_of_ble_eq_true rfl, Nat.le_of_ble_eq_true rfl⟩ hl (Nat.le_of_ble_eq_true rfl) dL_act_190 ⟨Nat.le_of_ble_eq_true rfl, Nat.le_of_ble_eq_true rfl⟩ (fun x H locs J hP hD hS => ?_)
  have J : JNV x n tt (upd pg 10 (y9 - y9 / (pg 9) * (pg 9))) (push hs pg) k0 k1 := J
  exact k_retG (u := x) cx rfl ⟨rfl, J⟩ hP hS ⟨Nat.le_of_ble_eq_true rfl, Nat.le_of_ble_eq_true rfl⟩ dL_act_193

set_option maxRecDepth 100000 in
set_option maxHeartbeats 4000000 in
theorem c_A_10f (l : Launch) (hlt : l.stackTraces = false) (G : gG) (b L : Nat) (xs : Nat → Int32) (d : AD) (HQ : PQd d) (n : Int32) (tt pg : Pg) (hs : List Pg) (k0 k1 : Option Pg) (x9 y9 : Int32) (hv : (x9 - x9 / 16 * 16) = 10) (hy9 : 0 ≤ y9.toInt) (hpv : PV pg) (h6 : ¬ pg 9 = 6) : kG l G yL_act wsL_act rmL_act [.ref d.1, .int x9, .int y9] b L xs (fun x : XT => wB G d x []) (fun x => JNV x n tt pg hs k0 k1) (fun r x => r = ((((upd pg (15 + (pg 9)).toNatClampNeg (1 + (y9 - y9 / 9999 * 9999))) 9) + 1) - 1) ∧ JNV x n tt (upd (upd pg (15 + (pg 9)).toNatClampNeg (1 + (y9 - y9 / 9999 * 9999))) 9 (((upd pg (15 + (pg 9)).toNatClampNeg (1 + (y9 - y9 / 9999 * 9999))) 9) + 1)) (push hs pg) k0 k1) 2 12 := by
  refine k_bodyG (cc := cL_act) (nL := 3) (ret := some .int) (by decide) rfl (Nat.le_of_ble_eq_true rfl) ?_
  intro x hI
  intro p e s m args below meth c A cx cl H locs hP hD hS ls hl
  obtain ⟨hx, hb, hml, hown, hts, hr, hlocks, hK, hA⟩ := id cx
  have hl : lv_has ls 3 [(0, .ref d.1), (1, .int x9), (2, .int y9)] := hl
  have hP : va_P G.1 vwCl (wB G d x []) H := hP
  have hD : va_D A (wB G d x []) := hD
  have J : JNV x n tt pg hs k0 k1 := hI
  refine lv_iload_n hx hb dL_act_0 rfl (lv_at hl 1 rfl) ?_
  refine lv_bipush (v := 16) hx hb dL_act_1 (by decide) ?_
  refine lv_irem hx hb dL_act_3 (by decide) ?_
  refine lv_tableIn (tgt := 194) (off := 190) hx hb dL_act_4 (sw_lo hv (by decide)) (sw_hi hv (by decide)) (sw_at hv (by decide)) (by decide) ?_
  refine lv_aload_n hx hb dL_act_194 rfl (lv_at hl 0 rfl) ?_
  refine lv_iconst (v := 1) hx hb dL_act_195 (by decide) ?_
  refine lv_iload_n hx hb dL_act_196 rfl (lv_at hl 2 rfl) ?_
  refine lv_sipush (v := 9999) hx hb dL_act_197 (by decide) ?_
  refine lv_irem hx hb dL_act_200 (by decide) ?_
  refine lv_iadd hx hb dL_act_201 ?_
  refine o_add hlt cx cl HQ J (1 + (y9 - y9 / 9999 * 9999)) (in_yes32 (ad_1 (md_b (x := y9) (k := 9999) (K := 9999) hy9 (by decide) (by decide)) (by decide)).1 (ad_1 (md_b (x := y9) (k := 9999) (K := 9999) hy9 (by decide) (by decide)) (by decide)).2) h6 (r0 := ((((upd pg (15 + (pg 9)).toNatClampNeg (1 + (y9 - y9 / 9999 * 9999))) 9) + 1) - 1)) rfl hP hD hS gL_act_L_tryAdd ⟨Nat.le_of_ble_eq_true rfl, Nat.le_of_ble_eq_true rfl⟩ hl (Nat.le_of_ble_eq_true rfl) dL_act_202 ⟨Nat.le_of_ble_eq_true rfl, Nat.le_of_ble_eq_true rfl⟩ (fun x H locs J hP hD hS => ?_)
  have J : JNV x n tt (upd (upd pg (15 + (pg 9)).toNatClampNeg (1 + (y9 - y9 / 9999 * 9999))) 9 (((upd pg (15 + (pg 9)).toNatClampNeg (1 + (y9 - y9 / 9999 * 9999))) 9) + 1)) (push hs pg) k0 k1 := J
  exact k_retG (u := x) cx rfl ⟨rfl, J⟩ hP hS ⟨Nat.le_of_ble_eq_true rfl, Nat.le_of_ble_eq_true rfl⟩ dL_act_205

set_option maxRecDepth 100000 in
set_option maxHeartbeats 4000000 in
theorem c_A_10s (l : Launch) (hlt : l.stackTraces = false) (G : gG) (b L : Nat) (xs : Nat → Int32) (d : AD) (HQ : PQd d) (n : Int32) (tt pg : Pg) (hs : List Pg) (k0 k1 : Option Pg) (x9 y9 : Int32) (hv : (x9 - x9 / 16 * 16) = 10) (hy9 : 0 ≤ y9.toInt) (hpv : PV pg) (h6 : pg 9 = 6) : kG l G yL_act wsL_act rmL_act [.ref d.1, .int x9, .int y9] b L xs (fun x : XT => wB G d x []) (fun x => JNV x n tt pg hs k0 k1) (fun r x => r = (-999900003) ∧ JNV x n tt pg hs k0 k1) 2 12 := by
  refine k_bodyG (cc := cL_act) (nL := 3) (ret := some .int) (by decide) rfl (Nat.le_of_ble_eq_true rfl) ?_
  intro x hI
  intro p e s m args below meth c A cx cl H locs hP hD hS ls hl
  obtain ⟨hx, hb, hml, hown, hts, hr, hlocks, hK, hA⟩ := id cx
  have hl : lv_has ls 3 [(0, .ref d.1), (1, .int x9), (2, .int y9)] := hl
  have hP : va_P G.1 vwCl (wB G d x []) H := hP
  have hD : va_D A (wB G d x []) := hD
  have J : JNV x n tt pg hs k0 k1 := hI
  refine lv_iload_n hx hb dL_act_0 rfl (lv_at hl 1 rfl) ?_
  refine lv_bipush (v := 16) hx hb dL_act_1 (by decide) ?_
  refine lv_irem hx hb dL_act_3 (by decide) ?_
  refine lv_tableIn (tgt := 194) (off := 190) hx hb dL_act_4 (sw_lo hv (by decide)) (sw_hi hv (by decide)) (sw_at hv (by decide)) (by decide) ?_
  refine lv_aload_n hx hb dL_act_194 rfl (lv_at hl 0 rfl) ?_
  refine lv_iconst (v := 1) hx hb dL_act_195 (by decide) ?_
  refine lv_iload_n hx hb dL_act_196 rfl (lv_at hl 2 rfl) ?_
  refine lv_sipush (v := 9999) hx hb dL_act_197 (by decide) ?_
  refine lv_irem hx hb dL_act_200 (by decide) ?_
  refine lv_iadd hx hb dL_act_201 ?_
  refine m_add hlt cx cl HQ J (1 + (y9 - y9 / 9999 * 9999)) (in_yes32 (ad_1 (md_b (x := y9) (k := 9999) (K := 9999) hy9 (by decide) (by decide)) (by decide)).1 (ad_1 (md_b (x := y9) (k := 9999) (K := 9999) hy9 (by decide) (by decide)) (by decide)).2) h6 hP hD hS gL_act_L_tryAdd ⟨Nat.le_of_ble_eq_true rfl, Nat.le_of_ble_eq_true rfl⟩ hl (Nat.le_of_ble_eq_true rfl) dL_act_202 ⟨Nat.le_of_ble_eq_true rfl, Nat.le_of_ble_eq_true rfl⟩ (fun H locs hP hD hS => ?_)
  exact k_retG (u := x) cx rfl ⟨rfl, J⟩ hP hS ⟨Nat.le_of_ble_eq_true rfl, Nat.le_of_ble_eq_true rfl⟩ dL_act_205

set_option maxRecDepth 100000 in
set_option maxHeartbeats 4000000 in
theorem c_A_11 (l : Launch) (hlt : l.stackTraces = false) (G : gG) (b L : Nat) (xs : Nat → Int32) (d : AD) (HQ : PQd d) (n : Int32) (tt pg : Pg) (hs : List Pg) (k0 k1 : Option Pg) (x9 y9 : Int32) (hv : (x9 - x9 / 16 * 16) = 11) (hy9 : 0 ≤ y9.toInt) (hpv : PV pg)  : kG l G yL_act wsL_act rmL_act [.ref d.1, .int x9, .int y9] b L xs (fun x : XT => wB G d x []) (fun x => JNV x n tt pg hs k0 k1) (fun r x => r = (pg 11) ∧ JNV x n tt (P_X4_freeOn pg) (push hs pg) k0 k1) 2 12 := by
  refine k_bodyG (cc := cL_act) (nL := 3) (ret := some .int) (by decide) rfl (Nat.le_of_ble_eq_true rfl) ?_
  intro x hI
  intro p e s m args below meth c A cx cl H locs hP hD hS ls hl
  obtain ⟨hx, hb, hml, hown, hts, hr, hlocks, hK, hA⟩ := id cx
  have hl : lv_has ls 3 [(0, .ref d.1), (1, .int x9), (2, .int y9)] := hl
  have hP : va_P G.1 vwCl (wB G d x []) H := hP
  have hD : va_D A (wB G d x []) := hD
  have J : JNV x n tt pg hs k0 k1 := hI
  refine lv_iload_n hx hb dL_act_0 rfl (lv_at hl 1 rfl) ?_
  refine lv_bipush (v := 16) hx hb dL_act_1 (by decide) ?_
  refine lv_irem hx hb dL_act_3 (by decide) ?_
  refine lv_tableIn (tgt := 206) (off := 202) hx hb dL_act_4 (sw_lo hv (by decide)) (sw_hi hv (by decide)) (sw_at hv (by decide)) (by decide) ?_
  refine lv_aload_n hx hb dL_act_206 rfl (lv_at hl 0 rfl) ?_
  refine o_free hlt cx cl HQ J   (r0 := (pg 11)) rfl hP hD hS gL_act_X3_free ⟨Nat.le_of_ble_eq_true rfl, Nat.le_of_ble_eq_true rfl⟩ hl (Nat.le_of_ble_eq_true rfl) dL_act_207 ⟨Nat.le_of_ble_eq_true rfl, Nat.le_of_ble_eq_true rfl⟩ (fun x H locs J hP hD hS => ?_)
  have J : JNV x n tt (P_X4_freeOn pg) (push hs pg) k0 k1 := J
  exact k_retG (u := x) cx rfl ⟨rfl, J⟩ hP hS ⟨Nat.le_of_ble_eq_true rfl, Nat.le_of_ble_eq_true rfl⟩ dL_act_210

set_option maxRecDepth 100000 in
set_option maxHeartbeats 4000000 in
theorem c_A_12f (l : Launch) (hlt : l.stackTraces = false) (G : gG) (b L : Nat) (xs : Nat → Int32) (d : AD) (HQ : PQd d) (n : Int32) (tt pg : Pg) (hs : List Pg) (k0 k1 : Option Pg) (x9 y9 : Int32) (hv : (x9 - x9 / 16 * 16) = 12) (hy9 : 0 ≤ y9.toInt) (hpv : PV pg) (hc : pg 11 = 0) : kG l G yL_act wsL_act rmL_act [.ref d.1, .int x9, .int y9] b L xs (fun x : XT => wB G d x []) (fun x => JNV x n tt pg hs k0 k1) (fun r x => r = (P_X4_balanceOn pg 2) ∧ JNV x n tt (P_X4_balanceOn pg) (push hs pg) k0 k1) 2 12 := by
  refine k_bodyG (cc := cL_act) (nL := 3) (ret := some .int) (by decide) rfl (Nat.le_of_ble_eq_true rfl) ?_
  intro x hI
  intro p e s m args below meth c A cx cl H locs hP hD hS ls hl
  obtain ⟨hx, hb, hml, hown, hts, hr, hlocks, hK, hA⟩ := id cx
  have hl : lv_has ls 3 [(0, .ref d.1), (1, .int x9), (2, .int y9)] := hl
  have hP : va_P G.1 vwCl (wB G d x []) H := hP
  have hD : va_D A (wB G d x []) := hD
  have J : JNV x n tt pg hs k0 k1 := hI
  refine lv_iload_n hx hb dL_act_0 rfl (lv_at hl 1 rfl) ?_
  refine lv_bipush (v := 16) hx hb dL_act_1 (by decide) ?_
  refine lv_irem hx hb dL_act_3 (by decide) ?_
  refine lv_tableIn (tgt := 211) (off := 207) hx hb dL_act_4 (sw_lo hv (by decide)) (sw_hi hv (by decide)) (sw_at hv (by decide)) (by decide) ?_
  refine lv_aload_n hx hb dL_act_211 rfl (lv_at hl 0 rfl) ?_
  refine o_balance hlt cx cl HQ J  hc (r0 := (P_X4_balanceOn pg 2)) rfl hP hD hS gL_act_L_tryBalance ⟨Nat.le_of_ble_eq_true rfl, Nat.le_of_ble_eq_true rfl⟩ hl (Nat.le_of_ble_eq_true rfl) dL_act_212 ⟨Nat.le_of_ble_eq_true rfl, Nat.le_of_ble_eq_true rfl⟩ (fun x H locs J hP hD hS => ?_)
  have J : JNV x n tt (P_X4_balanceOn pg) (push hs pg) k0 k1 := J
  exact k_retG (u := x) cx rfl ⟨rfl, J⟩ hP hS ⟨Nat.le_of_ble_eq_true rfl, Nat.le_of_ble_eq_true rfl⟩ dL_act_215

set_option maxRecDepth 100000 in
set_option maxHeartbeats 4000000 in
theorem c_A_12s (l : Launch) (hlt : l.stackTraces = false) (G : gG) (b L : Nat) (xs : Nat → Int32) (d : AD) (HQ : PQd d) (n : Int32) (tt pg : Pg) (hs : List Pg) (k0 k1 : Option Pg) (x9 y9 : Int32) (hv : (x9 - x9 / 16 * 16) = 12) (hy9 : 0 ≤ y9.toInt) (hpv : PV pg) (hc : pg 11 = 1) : kG l G yL_act wsL_act rmL_act [.ref d.1, .int x9, .int y9] b L xs (fun x : XT => wB G d x []) (fun x => JNV x n tt pg hs k0 k1) (fun r x => r = (-999900003) ∧ JNV x n tt pg hs k0 k1) 2 12 := by
  refine k_bodyG (cc := cL_act) (nL := 3) (ret := some .int) (by decide) rfl (Nat.le_of_ble_eq_true rfl) ?_
  intro x hI
  intro p e s m args below meth c A cx cl H locs hP hD hS ls hl
  obtain ⟨hx, hb, hml, hown, hts, hr, hlocks, hK, hA⟩ := id cx
  have hl : lv_has ls 3 [(0, .ref d.1), (1, .int x9), (2, .int y9)] := hl
  have hP : va_P G.1 vwCl (wB G d x []) H := hP
  have hD : va_D A (wB G d x []) := hD
  have J : JNV x n tt pg hs k0 k1 := hI
  refine lv_iload_n hx hb dL_act_0 rfl (lv_at hl 1 rfl) ?_
  refine lv_bipush (v := 16) hx hb dL_act_1 (by decide) ?_
  refine lv_irem hx hb dL_act_3 (by decide) ?_
  refine lv_tableIn (tgt := 211) (off := 207) hx hb dL_act_4 (sw_lo hv (by decide)) (sw_hi hv (by decide)) (sw_at hv (by decide)) (by decide) ?_
  refine lv_aload_n hx hb dL_act_211 rfl (lv_at hl 0 rfl) ?_
  refine n_balance hlt cx cl HQ J  hc hP hD hS gL_act_L_tryBalance ⟨Nat.le_of_ble_eq_true rfl, Nat.le_of_ble_eq_true rfl⟩ hl (Nat.le_of_ble_eq_true rfl) dL_act_212 ⟨Nat.le_of_ble_eq_true rfl, Nat.le_of_ble_eq_true rfl⟩ (fun H locs hP hD hS => ?_)
  exact k_retG (u := x) cx rfl ⟨rfl, J⟩ hP hS ⟨Nat.le_of_ble_eq_true rfl, Nat.le_of_ble_eq_true rfl⟩ dL_act_215

set_option maxRecDepth 100000 in
set_option maxHeartbeats 4000000 in
theorem c_A_13 (l : Launch) (hlt : l.stackTraces = false) (G : gG) (b L : Nat) (xs : Nat → Int32) (d : AD) (HQ : PQd d) (n : Int32) (tt pg : Pg) (hs : List Pg) (k0 k1 : Option Pg) (x9 y9 : Int32) (hv : (x9 - x9 / 16 * 16) = 13) (hy9 : 0 ≤ y9.toInt) (hpv : PV pg)  : kG l G yL_act wsL_act rmL_act [.ref d.1, .int x9, .int y9] b L xs (fun x : XT => wB G d x []) (fun x => JNV x n tt pg hs k0 k1) (fun r x => r = (pg 5) ∧ JNV x n tt (upd pg 5 ((y9 - y9 / 101 * 101) - 50)) (push hs pg) k0 k1) 2 12 := by
  refine k_bodyG (cc := cL_act) (nL := 3) (ret := some .int) (by decide) rfl (Nat.le_of_ble_eq_true rfl) ?_
  intro x hI
  intro p e s m args below meth c A cx cl H locs hP hD hS ls hl
  obtain ⟨hx, hb, hml, hown, hts, hr, hlocks, hK, hA⟩ := id cx
  have hl : lv_has ls 3 [(0, .ref d.1), (1, .int x9), (2, .int y9)] := hl
  have hP : va_P G.1 vwCl (wB G d x []) H := hP
  have hD : va_D A (wB G d x []) := hD
  have J : JNV x n tt pg hs k0 k1 := hI
  refine lv_iload_n hx hb dL_act_0 rfl (lv_at hl 1 rfl) ?_
  refine lv_bipush (v := 16) hx hb dL_act_1 (by decide) ?_
  refine lv_irem hx hb dL_act_3 (by decide) ?_
  refine lv_tableIn (tgt := 216) (off := 212) hx hb dL_act_4 (sw_lo hv (by decide)) (sw_hi hv (by decide)) (sw_at hv (by decide)) (by decide) ?_
  refine lv_aload_n hx hb dL_act_216 rfl (lv_at hl 0 rfl) ?_
  refine lv_iconst (v := 5) hx hb dL_act_217 (by decide) ?_
  refine lv_iload_n hx hb dL_act_218 rfl (lv_at hl 2 rfl) ?_
  refine lv_bipush (v := 101) hx hb dL_act_219 (by decide) ?_
  refine lv_irem hx hb dL_act_221 (by decide) ?_
  refine lv_bipush (v := 50) hx hb dL_act_222 (by decide) ?_
  refine lv_isub hx hb dL_act_224 ?_
  refine o_set hlt cx cl HQ J 5 ((y9 - y9 / 101 * 101) - 50) (set_5v (sb_50 (md_b (x := y9) (k := 101) (K := 101) hy9 (by decide) (by decide)))) (r0 := (pg 5)) rfl hP hD hS gL_act_L_trySet ⟨Nat.le_of_ble_eq_true rfl, Nat.le_of_ble_eq_true rfl⟩ hl (Nat.le_of_ble_eq_true rfl) dL_act_225 ⟨Nat.le_of_ble_eq_true rfl, Nat.le_of_ble_eq_true rfl⟩ (fun x H locs J hP hD hS => ?_)
  have J : JNV x n tt (upd pg 5 ((y9 - y9 / 101 * 101) - 50)) (push hs pg) k0 k1 := J
  exact k_retG (u := x) cx rfl ⟨rfl, J⟩ hP hS ⟨Nat.le_of_ble_eq_true rfl, Nat.le_of_ble_eq_true rfl⟩ dL_act_228

set_option maxRecDepth 100000 in
set_option maxHeartbeats 4000000 in
theorem c_A_14f (l : Launch) (hlt : l.stackTraces = false) (G : gG) (b L : Nat) (xs : Nat → Int32) (d : AD) (HQ : PQd d) (n : Int32) (tt pg : Pg) (hs : List Pg) (k0 k1 : Option Pg) (x9 y9 : Int32) (hv : (x9 - x9 / 16 * 16) = 14) (hy9 : 0 ≤ y9.toInt) (hpv : PV pg) {hs0 : List Pg} {q : Pg} (hk : hs = hs0 ++ [q]) : kG l G yL_act wsL_act rmL_act [.ref d.1, .int x9, .int y9] b L xs (fun x : XT => wB G d x []) (fun x => JNV x n tt pg hs k0 k1) (fun r x => r = (nI hs0.length) ∧ JNV x n tt q hs0 k0 k1) 2 12 := by
  refine k_bodyG (cc := cL_act) (nL := 3) (ret := some .int) (by decide) rfl (Nat.le_of_ble_eq_true rfl) ?_
  intro x hI
  intro p e s m args below meth c A cx cl H locs hP hD hS ls hl
  obtain ⟨hx, hb, hml, hown, hts, hr, hlocks, hK, hA⟩ := id cx
  have hl : lv_has ls 3 [(0, .ref d.1), (1, .int x9), (2, .int y9)] := hl
  have hP : va_P G.1 vwCl (wB G d x []) H := hP
  have hD : va_D A (wB G d x []) := hD
  have J : JNV x n tt pg hs k0 k1 := hI
  refine lv_iload_n hx hb dL_act_0 rfl (lv_at hl 1 rfl) ?_
  refine lv_bipush (v := 16) hx hb dL_act_1 (by decide) ?_
  refine lv_irem hx hb dL_act_3 (by decide) ?_
  refine lv_tableIn (tgt := 229) (off := 225) hx hb dL_act_4 (sw_lo hv (by decide)) (sw_hi hv (by decide)) (sw_at hv (by decide)) (by decide) ?_
  refine lv_aload_n hx hb dL_act_229 rfl (lv_at hl 0 rfl) ?_
  refine o_undo hlt cx cl HQ J  (hs0 := hs0) (q := q) hk (r0 := (nI hs0.length)) rfl hP hD hS gL_act_L_tryUndo ⟨Nat.le_of_ble_eq_true rfl, Nat.le_of_ble_eq_true rfl⟩ hl (Nat.le_of_ble_eq_true rfl) dL_act_230 ⟨Nat.le_of_ble_eq_true rfl, Nat.le_of_ble_eq_true rfl⟩ (fun x H locs J hP hD hS => ?_)
  have J : JNV x n tt q hs0 k0 k1 := J
  exact k_retG (u := x) cx rfl ⟨rfl, J⟩ hP hS ⟨Nat.le_of_ble_eq_true rfl, Nat.le_of_ble_eq_true rfl⟩ dL_act_233

set_option maxRecDepth 100000 in
set_option maxHeartbeats 4000000 in
theorem c_A_14s (l : Launch) (hlt : l.stackTraces = false) (G : gG) (b L : Nat) (xs : Nat → Int32) (d : AD) (HQ : PQd d) (n : Int32) (tt pg : Pg) (hs : List Pg) (k0 k1 : Option Pg) (x9 y9 : Int32) (hv : (x9 - x9 / 16 * 16) = 14) (hy9 : 0 ≤ y9.toInt) (hpv : PV pg) (hk : hs = []) : kG l G yL_act wsL_act rmL_act [.ref d.1, .int x9, .int y9] b L xs (fun x : XT => wB G d x []) (fun x => JNV x n tt pg hs k0 k1) (fun r x => r = (-999900003) ∧ JNV x n tt pg hs k0 k1) 2 12 := by
  refine k_bodyG (cc := cL_act) (nL := 3) (ret := some .int) (by decide) rfl (Nat.le_of_ble_eq_true rfl) ?_
  intro x hI
  intro p e s m args below meth c A cx cl H locs hP hD hS ls hl
  obtain ⟨hx, hb, hml, hown, hts, hr, hlocks, hK, hA⟩ := id cx
  have hl : lv_has ls 3 [(0, .ref d.1), (1, .int x9), (2, .int y9)] := hl
  have hP : va_P G.1 vwCl (wB G d x []) H := hP
  have hD : va_D A (wB G d x []) := hD
  have J : JNV x n tt pg hs k0 k1 := hI
  refine lv_iload_n hx hb dL_act_0 rfl (lv_at hl 1 rfl) ?_
  refine lv_bipush (v := 16) hx hb dL_act_1 (by decide) ?_
  refine lv_irem hx hb dL_act_3 (by decide) ?_
  refine lv_tableIn (tgt := 229) (off := 225) hx hb dL_act_4 (sw_lo hv (by decide)) (sw_hi hv (by decide)) (sw_at hv (by decide)) (by decide) ?_
  refine lv_aload_n hx hb dL_act_229 rfl (lv_at hl 0 rfl) ?_
  refine n_undo hlt cx cl HQ J  hk hP hD hS gL_act_L_tryUndo ⟨Nat.le_of_ble_eq_true rfl, Nat.le_of_ble_eq_true rfl⟩ hl (Nat.le_of_ble_eq_true rfl) dL_act_230 ⟨Nat.le_of_ble_eq_true rfl, Nat.le_of_ble_eq_true rfl⟩ (fun H locs hP hD hS => ?_)
  exact k_retG (u := x) cx rfl ⟨rfl, J⟩ hP hS ⟨Nat.le_of_ble_eq_true rfl, Nat.le_of_ble_eq_true rfl⟩ dL_act_233

set_option maxRecDepth 100000 in
set_option maxHeartbeats 4000000 in
theorem c_A_15v (l : Launch) (hlt : l.stackTraces = false) (G : gG) (b L : Nat) (xs : Nat → Int32) (d : AD) (HQ : PQd d) (n : Int32) (tt pg : Pg) (hs : List Pg) (k0 k1 : Option Pg) (x9 y9 : Int32) (hv : (x9 - x9 / 16 * 16) = 15) (hy9 : 0 ≤ y9.toInt) (hpv : PV pg) (hp : (y9 - y9 / 2 * 2) = 0) : kG l G yL_act wsL_act rmL_act [.ref d.1, .int x9, .int y9] b L xs (fun x : XT => wB G d x []) (fun x => JNV x n tt pg hs k0 k1) (fun r x => r = (pg 8) ∧ JNV x n tt pg hs k0 (some pg)) 2 12 := by
  refine k_bodyG (cc := cL_act) (nL := 3) (ret := some .int) (by decide) rfl (Nat.le_of_ble_eq_true rfl) ?_
  intro x hI
  intro p e s m args below meth c A cx cl H locs hP hD hS ls hl
  obtain ⟨hx, hb, hml, hown, hts, hr, hlocks, hK, hA⟩ := id cx
  have hl : lv_has ls 3 [(0, .ref d.1), (1, .int x9), (2, .int y9)] := hl
  have hP : va_P G.1 vwCl (wB G d x []) H := hP
  have hD : va_D A (wB G d x []) := hD
  have J : JNV x n tt pg hs k0 k1 := hI
  refine lv_iload_n hx hb dL_act_0 rfl (lv_at hl 1 rfl) ?_
  refine lv_bipush (v := 16) hx hb dL_act_1 (by decide) ?_
  refine lv_irem hx hb dL_act_3 (by decide) ?_
  refine lv_tableOut (tgt := 234) hx hb dL_act_4 (Or.inr (by rw [hv]; decide)) (by decide) ?_
  refine lv_iload_n hx hb dL_act_234 rfl (lv_at hl 2 rfl) ?_
  refine lv_iconst (v := 2) hx hb dL_act_235 (by decide) ?_
  refine lv_irem hx hb dL_act_236 (by decide) ?_
  refine lv_if_ne (tgt := 248) hx hb dL_act_237 (by decide) (fun c9 => absurd hp c9) (fun c9 => ?_)
  refine lv_aload_n hx hb dL_act_240 rfl (lv_at hl 0 rfl) ?_
  refine lv_iconst (v := 1) hx hb dL_act_241 (by decide) ?_
  refine o_save1 hlt cx cl HQ J   (r0 := (pg 8)) rfl hP hD hS gL_act_L_trySave ⟨Nat.le_of_ble_eq_true rfl, Nat.le_of_ble_eq_true rfl⟩ hl (Nat.le_of_ble_eq_true rfl) dL_act_242 ⟨Nat.le_of_ble_eq_true rfl, Nat.le_of_ble_eq_true rfl⟩ (fun x H locs J hP hD hS => ?_)
  have J : JNV x n tt pg hs k0 (some pg) := J
  refine lv_goto (tgt := 253) hx hb dL_act_245 (by decide) ?_
  exact k_retG (u := x) cx rfl ⟨rfl, J⟩ hP hS ⟨Nat.le_of_ble_eq_true rfl, Nat.le_of_ble_eq_true rfl⟩ dL_act_253

set_option maxRecDepth 100000 in
set_option maxHeartbeats 4000000 in
theorem c_A_15f (l : Launch) (hlt : l.stackTraces = false) (G : gG) (b L : Nat) (xs : Nat → Int32) (d : AD) (HQ : PQd d) (n : Int32) (tt pg : Pg) (hs : List Pg) (k0 k1 : Option Pg) (x9 y9 : Int32) (hv : (x9 - x9 / 16 * 16) = 15) (hy9 : 0 ≤ y9.toInt) (hpv : PV pg) {q : Pg} (hp : ¬ (y9 - y9 / 2 * 2) = 0) (hk : k1 = some q) : kG l G yL_act wsL_act rmL_act [.ref d.1, .int x9, .int y9] b L xs (fun x : XT => wB G d x []) (fun x => JNV x n tt pg hs k0 k1) (fun r x => r = (q 8) ∧ JNV x n tt q ([]) k0 (some q)) 2 12 := by
  refine k_bodyG (cc := cL_act) (nL := 3) (ret := some .int) (by decide) rfl (Nat.le_of_ble_eq_true rfl) ?_
  intro x hI
  intro p e s m args below meth c A cx cl H locs hP hD hS ls hl
  obtain ⟨hx, hb, hml, hown, hts, hr, hlocks, hK, hA⟩ := id cx
  have hl : lv_has ls 3 [(0, .ref d.1), (1, .int x9), (2, .int y9)] := hl
  have hP : va_P G.1 vwCl (wB G d x []) H := hP
  have hD : va_D A (wB G d x []) := hD
  have J : JNV x n tt pg hs k0 k1 := hI
  refine lv_iload_n hx hb dL_act_0 rfl (lv_at hl 1 rfl) ?_
  refine lv_bipush (v := 16) hx hb dL_act_1 (by decide) ?_
  refine lv_irem hx hb dL_act_3 (by decide) ?_
  refine lv_tableOut (tgt := 234) hx hb dL_act_4 (Or.inr (by rw [hv]; decide)) (by decide) ?_
  refine lv_iload_n hx hb dL_act_234 rfl (lv_at hl 2 rfl) ?_
  refine lv_iconst (v := 2) hx hb dL_act_235 (by decide) ?_
  refine lv_irem hx hb dL_act_236 (by decide) ?_
  refine lv_if_ne (tgt := 248) hx hb dL_act_237 (by decide) (fun c9 => ?_) (fun c9 => absurd c9 hp)
  refine lv_aload_n hx hb dL_act_248 rfl (lv_at hl 0 rfl) ?_
  refine lv_iconst (v := 1) hx hb dL_act_249 (by decide) ?_
  refine o_restore1 hlt cx cl HQ J  (q := q) hk (r0 := (q 8)) rfl hP hD hS gL_act_L_tryRestore ⟨Nat.le_of_ble_eq_true rfl, Nat.le_of_ble_eq_true rfl⟩ hl (Nat.le_of_ble_eq_true rfl) dL_act_250 ⟨Nat.le_of_ble_eq_true rfl, Nat.le_of_ble_eq_true rfl⟩ (fun x H locs J hP hD hS => ?_)
  have J : JNV x n tt q ([]) k0 (some q) := J
  exact k_retG (u := x) cx rfl ⟨rfl, J⟩ hP hS ⟨Nat.le_of_ble_eq_true rfl, Nat.le_of_ble_eq_true rfl⟩ dL_act_253

set_option maxRecDepth 100000 in
set_option maxHeartbeats 4000000 in
theorem c_A_15s (l : Launch) (hlt : l.stackTraces = false) (G : gG) (b L : Nat) (xs : Nat → Int32) (d : AD) (HQ : PQd d) (n : Int32) (tt pg : Pg) (hs : List Pg) (k0 k1 : Option Pg) (x9 y9 : Int32) (hv : (x9 - x9 / 16 * 16) = 15) (hy9 : 0 ≤ y9.toInt) (hpv : PV pg) (hp : ¬ (y9 - y9 / 2 * 2) = 0) (hk : k1 = none) : kG l G yL_act wsL_act rmL_act [.ref d.1, .int x9, .int y9] b L xs (fun x : XT => wB G d x []) (fun x => JNV x n tt pg hs k0 k1) (fun r x => r = (-999900003) ∧ JNV x n tt pg hs k0 k1) 2 12 := by
  refine k_bodyG (cc := cL_act) (nL := 3) (ret := some .int) (by decide) rfl (Nat.le_of_ble_eq_true rfl) ?_
  intro x hI
  intro p e s m args below meth c A cx cl H locs hP hD hS ls hl
  obtain ⟨hx, hb, hml, hown, hts, hr, hlocks, hK, hA⟩ := id cx
  have hl : lv_has ls 3 [(0, .ref d.1), (1, .int x9), (2, .int y9)] := hl
  have hP : va_P G.1 vwCl (wB G d x []) H := hP
  have hD : va_D A (wB G d x []) := hD
  have J : JNV x n tt pg hs k0 k1 := hI
  refine lv_iload_n hx hb dL_act_0 rfl (lv_at hl 1 rfl) ?_
  refine lv_bipush (v := 16) hx hb dL_act_1 (by decide) ?_
  refine lv_irem hx hb dL_act_3 (by decide) ?_
  refine lv_tableOut (tgt := 234) hx hb dL_act_4 (Or.inr (by rw [hv]; decide)) (by decide) ?_
  refine lv_iload_n hx hb dL_act_234 rfl (lv_at hl 2 rfl) ?_
  refine lv_iconst (v := 2) hx hb dL_act_235 (by decide) ?_
  refine lv_irem hx hb dL_act_236 (by decide) ?_
  refine lv_if_ne (tgt := 248) hx hb dL_act_237 (by decide) (fun c9 => ?_) (fun c9 => absurd c9 hp)
  refine lv_aload_n hx hb dL_act_248 rfl (lv_at hl 0 rfl) ?_
  refine lv_iconst (v := 1) hx hb dL_act_249 (by decide) ?_
  refine m_restore hlt cx cl HQ J  hk hP hD hS gL_act_L_tryRestore ⟨Nat.le_of_ble_eq_true rfl, Nat.le_of_ble_eq_true rfl⟩ hl (Nat.le_of_ble_eq_true rfl) dL_act_250 ⟨Nat.le_of_ble_eq_true rfl, Nat.le_of_ble_eq_true rfl⟩ (fun H locs hP hD hS => ?_)
  exact k_retG (u := x) cx rfl ⟨rfl, J⟩ hP hS ⟨Nat.le_of_ble_eq_true rfl, Nat.le_of_ble_eq_true rfl⟩ dL_act_253

set_option maxRecDepth 100000 in
set_option maxHeartbeats 4000000 in
theorem act_ex {x9 y9 n : Int32} {tt pg : Pg} {hs : List Pg} {k0 k1 : Option Pg} (hx9 : 0 ≤ x9.toInt) (hy9 : 0 ≤ y9.toInt) (hpv : PV pg) (hst : pg 11 = 0 ∨ pg 11 = 1) (HO : OKS pg hs k1) : ∃ (r0 : Int32) (pg' : Pg) (hs' : List Pg) (k1' : Option Pg), OKS pg' hs' k1' ∧ ∀ (l : Launch) (hlt : l.stackTraces = false) (G : gG) (b L : Nat) (xs : Nat → Int32) (d : AD) (HQ : PQd d), kG l G yL_act wsL_act rmL_act [.ref d.1, .int x9, .int y9] b L xs (fun x : XT => wB G d x []) (fun x => JNV x n tt pg hs k0 k1) (fun r x => r = r0 ∧ JNV x n tt pg' hs' k0 k1') 2 12 := by
  have hb := md_b (x := x9) (k := 16) (K := 16) hx9 (by decide) (by decide)
  by_cases hv : (x9 - x9 / 16 * 16) = 0
  · rcases hst with hc | hc
    · by_cases hp : (y9 - y9 / 2 * 2) = 1
      · exact ⟨(P_X4_pressOn pg 1).1, (P_X4_pressOn pg 1).2, (push hs pg), k1, oks_p HO (okp_press HO.1), fun l hlt G b L xs d HQ => c_A_0t l hlt G b L xs d HQ n tt pg hs k0 k1 x9 y9 hv hy9 hpv hc hp⟩
      · exact ⟨(P_X4_pressOn pg 0).1, (P_X4_pressOn pg 0).2, (push hs pg), k1, oks_p HO (okp_press HO.1), fun l hlt G b L xs d HQ => c_A_0f l hlt G b L xs d HQ n tt pg hs k0 k1 x9 y9 hv hy9 hpv hc hp⟩
    · exact ⟨(-999900003), pg, hs, k1, HO, fun l hlt G b L xs d HQ => c_A_0s l hlt G b L xs d HQ n tt pg hs k0 k1 x9 y9 hv hy9 hpv hc⟩
  have h0' : ¬ (x9 - x9 / 16 * 16).toInt = 0 := fun q => hv (Int32.toInt_inj.mp (by rw [q]; decide))
  clear hv
  by_cases hv : (x9 - x9 / 16 * 16) = 1
  · rcases hst with hc | hc
    · by_cases hp : (y9 - y9 / 2 * 2) = 1
      · exact ⟨(P_X4_pressOn pg 1).1, (P_X4_pressOn pg 1).2, (push hs pg), k1, oks_p HO (okp_press HO.1), fun l hlt G b L xs d HQ => c_A_1t l hlt G b L xs d HQ n tt pg hs k0 k1 x9 y9 hv hy9 hpv hc hp⟩
      · exact ⟨(P_X4_pressOn pg 0).1, (P_X4_pressOn pg 0).2, (push hs pg), k1, oks_p HO (okp_press HO.1), fun l hlt G b L xs d HQ => c_A_1f l hlt G b L xs d HQ n tt pg hs k0 k1 x9 y9 hv hy9 hpv hc hp⟩
    · exact ⟨(-999900003), pg, hs, k1, HO, fun l hlt G b L xs d HQ => c_A_1s l hlt G b L xs d HQ n tt pg hs k0 k1 x9 y9 hv hy9 hpv hc⟩
  have h1' : ¬ (x9 - x9 / 16 * 16).toInt = 1 := fun q => hv (Int32.toInt_inj.mp (by rw [q]; decide))
  clear hv
  by_cases hv : (x9 - x9 / 16 * 16) = 2
  · rcases hst with hc | hc
    · by_cases hp : (y9 - y9 / 2 * 2) = 1
      · exact ⟨(P_X4_pressOn pg 1).1, (P_X4_pressOn pg 1).2, (push hs pg), k1, oks_p HO (okp_press HO.1), fun l hlt G b L xs d HQ => c_A_2t l hlt G b L xs d HQ n tt pg hs k0 k1 x9 y9 hv hy9 hpv hc hp⟩
      · exact ⟨(P_X4_pressOn pg 0).1, (P_X4_pressOn pg 0).2, (push hs pg), k1, oks_p HO (okp_press HO.1), fun l hlt G b L xs d HQ => c_A_2f l hlt G b L xs d HQ n tt pg hs k0 k1 x9 y9 hv hy9 hpv hc hp⟩
    · exact ⟨(-999900003), pg, hs, k1, HO, fun l hlt G b L xs d HQ => c_A_2s l hlt G b L xs d HQ n tt pg hs k0 k1 x9 y9 hv hy9 hpv hc⟩
  have h2' : ¬ (x9 - x9 / 16 * 16).toInt = 2 := fun q => hv (Int32.toInt_inj.mp (by rw [q]; decide))
  clear hv
  by_cases hv : (x9 - x9 / 16 * 16) = 3
  · rcases hst with hc | hc
    · exact ⟨(P_X4_pairOn pg).1, (P_X4_pairOn pg).2, (push hs pg), k1, oks_p HO (okp_pair HO.1), fun l hlt G b L xs d HQ => c_A_3f l hlt G b L xs d HQ n tt pg hs k0 k1 x9 y9 hv hy9 hpv hc⟩
    · exact ⟨(-999900003), pg, hs, k1, HO, fun l hlt G b L xs d HQ => c_A_3s l hlt G b L xs d HQ n tt pg hs k0 k1 x9 y9 hv hy9 hpv hc⟩
  have h3' : ¬ (x9 - x9 / 16 * 16).toInt = 3 := fun q => hv (Int32.toInt_inj.mp (by rw [q]; decide))
  clear hv
  by_cases hv : (x9 - x9 / 16 * 16) = 4
  · exact ⟨(P_X4_offsetOf (P_X4_waitOn pg (1 + (y9 - y9 / 80 * 80)))), (P_X4_waitOn pg (1 + (y9 - y9 / 80 * 80))), (push hs pg), k1, oks_p HO (okp_wait HO.1 (by have := (ad_1 (md_b (x := y9) (k := 80) (K := 80) hy9 (by decide) (by decide)) (by decide)).1; omega)), fun l hlt G b L xs d HQ => c_A_4 l hlt G b L xs d HQ n tt pg hs k0 k1 x9 y9 hv hy9 hpv ⟩
  have h4' : ¬ (x9 - x9 / 16 * 16).toInt = 4 := fun q => hv (Int32.toInt_inj.mp (by rw [q]; decide))
  clear hv
  by_cases hv : (x9 - x9 / 16 * 16) = 5
  · exact ⟨(pg 2), (upd pg 2 (y9 - y9 / 10000 * 10000)), (push hs pg), k1, oks_p HO (okp_up HO.1 (by decide)), fun l hlt G b L xs d HQ => c_A_5 l hlt G b L xs d HQ n tt pg hs k0 k1 x9 y9 hv hy9 hpv ⟩
  have h5' : ¬ (x9 - x9 / 16 * 16).toInt = 5 := fun q => hv (Int32.toInt_inj.mp (by rw [q]; decide))
  clear hv
  by_cases hv : (x9 - x9 / 16 * 16) = 6
  · exact ⟨(pg 3), (upd pg 3 (1 + (y9 - y9 / 99 * 99))), (push hs pg), k1, oks_p HO (okp_up HO.1 (by decide)), fun l hlt G b L xs d HQ => c_A_6 l hlt G b L xs d HQ n tt pg hs k0 k1 x9 y9 hv hy9 hpv ⟩
  have h6' : ¬ (x9 - x9 / 16 * 16).toInt = 6 := fun q => hv (Int32.toInt_inj.mp (by rw [q]; decide))
  clear hv
  by_cases hv : (x9 - x9 / 16 * 16) = 7
  · exact ⟨(pg 4), (upd pg 4 (y9 - y9 / 4 * 4)), (push hs pg), k1, oks_p HO (okp_u4 HO.1 (md_b (x := y9) (k := 4) (K := 4) hy9 (by decide) (by decide)).1), fun l hlt G b L xs d HQ => c_A_7 l hlt G b L xs d HQ n tt pg hs k0 k1 x9 y9 hv hy9 hpv ⟩
  have h7' : ¬ (x9 - x9 / 16 * 16).toInt = 7 := fun q => hv (Int32.toInt_inj.mp (by rw [q]; decide))
  clear hv
  by_cases hv : (x9 - x9 / 16 * 16) = 8
  · by_cases hp : (y9 - y9 / 2 * 2) = 0
    · by_cases hq : ((y9 / 2) - (y9 / 2) / 2 * 2) = 0
      · exact ⟨(pg 0), (upd pg 0 ((y9 / 4) - (y9 / 4) / 4 * 4)), (push hs pg), k1, oks_p HO (okp_u0 HO.1 (md_b (x := (y9 / 4)) (k := 4) (K := 4) (by rw [dvi (x := y9) (k := 4) (K := 4) hy9 (by decide) (by decide)]; omega) (by decide) (by decide)).1), fun l hlt G b L xs d HQ => c_A_8e0 l hlt G b L xs d HQ n tt pg hs k0 k1 x9 y9 hv hy9 hpv hp hq⟩
      · have hq : ((y9 / 2) - (y9 / 2) / 2 * 2) = 1 := by
          have h2 := (md_b (x := (y9 / 2)) (k := 2) (K := 2) (by rw [dvi (x := y9) (k := 2) (K := 2) hy9 (by decide) (by decide)]; omega) (by decide) (by decide))
          exact Int32.toInt_inj.mp (by
            have z1 : (1 : Int32).toInt = 1 := by decide
            have h0 : ¬ ((y9 / 2) - (y9 / 2) / 2 * 2).toInt = 0 := fun q => hq (Int32.toInt_inj.mp (by rw [q]; decide))
            omega)
        exact ⟨(pg 1), (upd pg 1 ((y9 / 4) - (y9 / 4) / 4 * 4)), (push hs pg), k1, oks_p HO (okp_u1 HO.1 (md_b (x := (y9 / 4)) (k := 4) (K := 4) (by rw [dvi (x := y9) (k := 4) (K := 4) hy9 (by decide) (by decide)]; omega) (by decide) (by decide)).1), fun l hlt G b L xs d HQ => c_A_8e1 l hlt G b L xs d HQ n tt pg hs k0 k1 x9 y9 hv hy9 hpv hp hq⟩
    · exact ⟨(pg 6), (upd pg 6 ((y9 / 2) - (y9 / 2) / 21 * 21)), (push hs pg), k1, oks_p HO (okp_up HO.1 (by decide)), fun l hlt G b L xs d HQ => c_A_8o l hlt G b L xs d HQ n tt pg hs k0 k1 x9 y9 hv hy9 hpv hp⟩
  have h8' : ¬ (x9 - x9 / 16 * 16).toInt = 8 := fun q => hv (Int32.toInt_inj.mp (by rw [q]; decide))
  clear hv
  by_cases hv : (x9 - x9 / 16 * 16) = 9
  · exact ⟨(pg 10), (upd pg 10 (y9 - y9 / (pg 9) * (pg 9))), (push hs pg), k1, oks_p HO (okp_up HO.1 (by decide)), fun l hlt G b L xs d HQ => c_A_9 l hlt G b L xs d HQ n tt pg hs k0 k1 x9 y9 hv hy9 hpv ⟩
  have h9' : ¬ (x9 - x9 / 16 * 16).toInt = 9 := fun q => hv (Int32.toInt_inj.mp (by rw [q]; decide))
  clear hv
  by_cases hv : (x9 - x9 / 16 * 16) = 10
  · by_cases h6 : pg 9 = 6
    · exact ⟨(-999900003), pg, hs, k1, HO, fun l hlt G b L xs d HQ => c_A_10s l hlt G b L xs d HQ n tt pg hs k0 k1 x9 y9 hv hy9 hpv h6⟩
    · exact ⟨((((upd pg (15 + (pg 9)).toNatClampNeg (1 + (y9 - y9 / 9999 * 9999))) 9) + 1) - 1), (upd (upd pg (15 + (pg 9)).toNatClampNeg (1 + (y9 - y9 / 9999 * 9999))) 9 (((upd pg (15 + (pg 9)).toNatClampNeg (1 + (y9 - y9 / 9999 * 9999))) 9) + 1)), (push hs pg), k1, oks_p HO (okp_add HO.1 hpv h6), fun l hlt G b L xs d HQ => c_A_10f l hlt G b L xs d HQ n tt pg hs k0 k1 x9 y9 hv hy9 hpv h6⟩
  have h10' : ¬ (x9 - x9 / 16 * 16).toInt = 10 := fun q => hv (Int32.toInt_inj.mp (by rw [q]; decide))
  clear hv
  by_cases hv : (x9 - x9 / 16 * 16) = 11
  · exact ⟨(pg 11), (P_X4_freeOn pg), (push hs pg), k1, oks_p HO (okp_free HO.1), fun l hlt G b L xs d HQ => c_A_11 l hlt G b L xs d HQ n tt pg hs k0 k1 x9 y9 hv hy9 hpv ⟩
  have h11' : ¬ (x9 - x9 / 16 * 16).toInt = 11 := fun q => hv (Int32.toInt_inj.mp (by rw [q]; decide))
  clear hv
  by_cases hv : (x9 - x9 / 16 * 16) = 12
  · rcases hst with hc | hc
    · exact ⟨(P_X4_balanceOn pg 2), (P_X4_balanceOn pg), (push hs pg), k1, oks_p HO (okp_bal HO.1), fun l hlt G b L xs d HQ => c_A_12f l hlt G b L xs d HQ n tt pg hs k0 k1 x9 y9 hv hy9 hpv hc⟩
    · exact ⟨(-999900003), pg, hs, k1, HO, fun l hlt G b L xs d HQ => c_A_12s l hlt G b L xs d HQ n tt pg hs k0 k1 x9 y9 hv hy9 hpv hc⟩
  have h12' : ¬ (x9 - x9 / 16 * 16).toInt = 12 := fun q => hv (Int32.toInt_inj.mp (by rw [q]; decide))
  clear hv
  by_cases hv : (x9 - x9 / 16 * 16) = 13
  · exact ⟨(pg 5), (upd pg 5 ((y9 - y9 / 101 * 101) - 50)), (push hs pg), k1, oks_p HO (okp_up HO.1 (by decide)), fun l hlt G b L xs d HQ => c_A_13 l hlt G b L xs d HQ n tt pg hs k0 k1 x9 y9 hv hy9 hpv ⟩
  have h13' : ¬ (x9 - x9 / 16 * 16).toInt = 13 := fun q => hv (Int32.toInt_inj.mp (by rw [q]; decide))
  clear hv
  by_cases hv : (x9 - x9 / 16 * 16) = 14
  · by_cases hk : hs = []
    · exact ⟨(-999900003), pg, hs, k1, HO, fun l hlt G b L xs d HQ => c_A_14s l hlt G b L xs d HQ n tt pg hs k0 k1 x9 y9 hv hy9 hpv hk⟩
    · obtain ⟨hs0, q, hk⟩ : ∃ hs0 q, hs = hs0 ++ [q] := ⟨hs.dropLast, hs.getLast hk, (List.dropLast_concat_getLast hk).symm⟩
      exact ⟨(nI hs0.length), q, hs0, k1, ⟨HO.2.1 q (by rw [hk]; simp), fun q9 h9 => HO.2.1 q9 (by rw [hk]; exact List.mem_append_left _ h9), HO.2.2⟩, fun l hlt G b L xs d HQ => c_A_14f l hlt G b L xs d HQ n tt pg hs k0 k1 x9 y9 hv hy9 hpv hk⟩
  have h14' : ¬ (x9 - x9 / 16 * 16).toInt = 14 := fun q => hv (Int32.toInt_inj.mp (by rw [q]; decide))
  clear hv
  have hv : (x9 - x9 / 16 * 16) = 15 := Int32.toInt_inj.mp (by rw [show (15 : Int32).toInt = 15 by decide]; omega)
  by_cases hp : (y9 - y9 / 2 * 2) = 0
  · exact ⟨(pg 8), pg, hs, (some pg), ⟨HO.1, HO.2.1, fun q hq => by cases hq; exact HO.1⟩, fun l hlt G b L xs d HQ => c_A_15v l hlt G b L xs d HQ n tt pg hs k0 k1 x9 y9 hv hy9 hpv hp⟩
  · by_cases hk : k1 = none
    · exact ⟨(-999900003), pg, hs, k1, HO, fun l hlt G b L xs d HQ => c_A_15s l hlt G b L xs d HQ n tt pg hs k0 k1 x9 y9 hv hy9 hpv hp hk⟩
    · obtain ⟨q, hk⟩ := Option.ne_none_iff_exists'.mp hk
      exact ⟨(q 8), q, [], (some q), ⟨HO.2.2 q hk, fun q9 h9 => absurd h9 List.not_mem_nil, fun q9 h9 => by cases h9; exact HO.2.2 q hk⟩, fun l hlt G b L xs d HQ => c_A_15f l hlt G b L xs d HQ n tt pg hs k0 k1 x9 y9 hv hy9 hpv hp hk⟩
