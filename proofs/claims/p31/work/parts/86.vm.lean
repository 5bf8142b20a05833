/-! values: the sign of N, the best box, what is around it, arms, shunts -/
abbrev mi (pg : Pg) (v : Int32) : Int32 := P_X4_missing pg (P_X4_unknown pg) v
theorem nge {a b : Int32} (h : a < b) : ¬ b ≤ a := by
  rw [Int32.lt_iff_toInt_lt] at h
  rw [Int32.le_iff_toInt_le]
  omega
theorem upd_upd (f : Pg) (k : Nat) (a b : Int32) : upd (upd f k a) k b = upd f k b := by
  funext j
  by_cases c : j = k
  · subst c; rw [upd_me, upd_me]
  · rw [upd_o c, upd_o c, upd_o c]
theorem upd_self (f : Pg) (k : Nat) : upd f k (f k) = f := by
  funext j
  by_cases c : j = k
  · subst c; rw [upd_me]
  · rw [upd_o c]
section VM
variable {pg : Pg}
theorem unk_u (h : PV pg) {k : Nat} (hk : k < 10) (v : Int32) : P_X4_unknown (upd pg k v) = P_X4_unknown pg := by
  unfold P_X4_unknown
  rw [upd_o (show 10 ≠ k by omega)]
  refine upd_o ?_
  have z15 : (15 : Int32).toInt = 15 := by decide
  have b := h.2.1
  have b9 := h.1
  have a := toI_add (a := 15) (b := pg 10) (by omega) (by omega)
  show (15 + pg 10).toInt.toNat ≠ k
  omega
theorem mi_u2 (h : PV pg) (w v : Int32) : P_X4_missing (upd pg 2 w) (P_X4_unknown (upd pg 2 w)) v = mi pg v := by
  rw [unk_u h (by decide)]
  rfl
theorem br_0u (h : PV pg) {v : Int32} : aQ 1 ((P_X4_bridge z0 (upd pg 2 v) 0).1, (P_X4_bridge z0 (upd pg 2 v) 0).2) = mi pg v := by
  rw [br_0, mi_u2 h]
  rfl
theorem tr_u2 (h : PV pg) (w v sh : Int32) : P_X4_trueOf (upd pg 2 w) v sh = P_X4_trueOf pg v sh := by
  unfold P_X4_trueOf
  rw [unk_u h (by decide)]
  rfl
theorem raw_u4 (h : PV pg) (w rv sh : Int32) : P_X4_rawOf (upd pg 4 w) rv sh = P_X4_rawOf pg rv sh := by
  unfold P_X4_rawOf P_X4_trueOf
  rw [unk_u h (by decide)]
  rfl
/-- N in whole numbers -/
theorem mi_i (h : PV pg) {v : Int32} (hv : RB v) : (mi pg v).toInt = (P_X4_ten (pg 1)).toInt * (P_X4_unknown pg).toInt - (P_X4_ten (pg 0)).toInt * v.toInt := by
  have hu := pv_unk h
  have hp := ten10 (pg 0)
  have hq := ten10 (pg 1)
  have m1 : (P_X4_ten (pg 1) * P_X4_unknown pg).toInt = (P_X4_ten (pg 1)).toInt * (P_X4_unknown pg).toInt := toI_mul (by rcases hq with q | q | q | q <;> rw [q] <;> omega) (by rcases hq with q | q | q | q <;> rw [q] <;> omega)
  have m2 : (P_X4_ten (pg 0) * v).toInt = (P_X4_ten (pg 0)).toInt * v.toInt := toI_mul (by have := hv.1; have := hv.2; rcases hp with q | q | q | q <;> rw [q] <;> omega) (by have := hv.1; have := hv.2; rcases hp with q | q | q | q <;> rw [q] <;> omega)
  have b1 : 0 ≤ (P_X4_ten (pg 1)).toInt * (P_X4_unknown pg).toInt ∧ (P_X4_ten (pg 1)).toInt * (P_X4_unknown pg).toInt ≤ 9999000 := by rcases hq with q | q | q | q <;> rw [q] <;> omega
  have b2 : 0 ≤ (P_X4_ten (pg 0)).toInt * v.toInt ∧ (P_X4_ten (pg 0)).toInt * v.toInt ≤ 9999000 := by have := hv.1; have := hv.2; rcases hp with q | q | q | q <;> rw [q] <;> omega
  show (P_X4_ten (pg 1) * P_X4_unknown pg - P_X4_ten (pg 0) * v).toInt = _
  rw [toI_sub (by omega) (by omega), m1, m2]
theorem siz {x : Int32} (h : -10000000 ≤ x.toInt ∧ x.toInt ≤ 10000000) : (P_X4_size x).toInt = if 0 ≤ x.toInt then x.toInt else -x.toInt := size_i (by omega)
theorem mi_b (h : PV pg) {v : Int32} (hv : RB v) : -10000000 ≤ (mi pg v).toInt ∧ (mi pg v).toInt ≤ 10000000 := by
  have hu := pv_unk h
  have hp := ten10 (pg 0)
  have hq := ten10 (pg 1)
  have b1 : 0 ≤ (P_X4_ten (pg 1)).toInt * (P_X4_unknown pg).toInt ∧ (P_X4_ten (pg 1)).toInt * (P_X4_unknown pg).toInt ≤ 9999000 := by rcases hq with q | q | q | q <;> rw [q] <;> omega
  have b2 : 0 ≤ (P_X4_ten (pg 0)).toInt * v.toInt ∧ (P_X4_ten (pg 0)).toInt * v.toInt ≤ 9999000 := by have := hv.1; have := hv.2; rcases hp with q | q | q | q <;> rw [q] <;> omega
  rw [mi_i h hv]
  omega
/-- values, by the sign of N -/
def VV (pg : Pg) (v0 v1 v2 : Int32) : Prop := ((mi pg (pg 2) = 0) ↔ (v1 = v2 ∧ P_X4_unknown pg = v1)) ∧ ((0 ≤ mi pg (pg 2)) ↔ (v1 ≤ P_X4_unknown pg)) ∧ ((mi pg (pg 2) ≤ 0) ↔ (P_X4_unknown pg ≤ v2)) ∧ v2 ≤ v0 ∧ v0 ≤ v1 ∧ (v1 - v2) ≤ 1
theorem vv_i {q u p v0 v1 v2 : Int} (hq : P10 q) (hu : 1 ≤ u ∧ u ≤ 9999) (hp : 0 ≤ p ∧ p ≤ 9999000) (h0 : v0 = (2 * p + q) / (2 * q)) (h1 : v1 = (p + q - 1) / q) (h2 : v2 = p / q) : ((q * u - p = 0) ↔ (v1 = v2 ∧ u = v1)) ∧ ((0 ≤ q * u - p) ↔ (v1 ≤ u)) ∧ ((q * u - p ≤ 0) ↔ (u ≤ v2)) ∧ v2 ≤ v0 ∧ v0 ≤ v1 ∧ v1 - v2 ≤ 1 ∧ 0 ≤ v2 ∧ v1 ≤ 10000000 := by
  rcases hq with e | e | e | e <;> subst e <;> subst h0 <;> subst h1 <;> subst h2 <;> omega
theorem vl_r (h : PV pg) : ∃ v0 v1 v2 : Int32, aQ 1 ((P_X4_value z0 pg 0).1, (P_X4_value z0 pg 0).2) = v0 ∧ aQ 1 ((P_X4_value z0 pg 1).1, (P_X4_value z0 pg 1).2) = v1 ∧ aQ 1 ((P_X4_value z0 pg 2).1, (P_X4_value z0 pg 2).2) = v2 ∧ VV pg v0 v1 v2 := by
  refine ⟨_, _, _, rfl, rfl, rfl, ?_⟩
  rw [vl_0, vl_1, vl_2]
  have hu := pv_unk h
  have hp := ten10 (pg 0)
  have hq := ten10 (pg 1)
  have hr := h.2.2.2.1
  have hr1 := hr.1
  have hr2 := hr.2
  have hmi := mi_i h hr
  have m2 : (P_X4_ten (pg 0) * pg 2).toInt = (P_X4_ten (pg 0)).toInt * (pg 2).toInt := toI_mul (by rcases hp with q | q | q | q <;> rw [q] <;> omega) (by rcases hp with q | q | q | q <;> rw [q] <;> omega)
  have b2 : 0 ≤ (P_X4_ten (pg 0)).toInt * (pg 2).toInt ∧ (P_X4_ten (pg 0)).toInt * (pg 2).toInt ≤ 9999000 := by rcases hp with q | q | q | q <;> rw [q] <;> omega
  have hqb : 1 ≤ (P_X4_ten (pg 1)).toInt ∧ (P_X4_ten (pg 1)).toInt ≤ 1000 := ten_b _
  rw [← m2] at hmi b2
  generalize P_X4_ten (pg 0) * pg 2 = p at *
  generalize P_X4_ten (pg 1) = q at *
  have z2 : (2 : Int32).toInt = 2 := by decide
  have z1 : (1 : Int32).toInt = 1 := by decide
  have z0' : (0 : Int32).toInt = 0 := by decide
  have a1 := toI_mul (a := 2) (b := p) (by rw [z2]; omega) (by rw [z2]; omega)
  have a2 := toI_mul (a := 2) (b := q) (by rw [z2]; omega) (by rw [z2]; omega)
  rw [z2] at a1 a2
  have a3 := toI_add (a := 2 * p) (b := q) (by omega) (by omega)
  have a4 := toI_add (a := p) (b := q) (by omega) (by omega)
  have a5 := toI_sub (a := p + q) (b := 1) (by omega) (by omega)
  have d0 := i32_div_i (a := 2 * p + q) (b := 2 * q) (by omega) (by omega)
  have d1 := i32_div_i (a := p + q - 1) (b := q) (by omega) (by omega)
  have d2 := i32_div_i (a := p) (b := q) (by omega) (by omega)
  have e0 : ((2 * p + q) / (2 * q)).toInt = (2 * p.toInt + q.toInt) / (2 * q.toInt) := by rw [d0, a3, a1, a2]
  have e1 : ((p + q - 1) / q).toInt = (p.toInt + q.toInt - 1) / q.toInt := by rw [d1, a5, a4, z1]
  obtain ⟨f1, f2, f3, f4, f5, f6, f7, f8⟩ := vv_i hq hu b2 e0 e1 d2
  rw [← hmi] at f1 f2 f3
  have s := toI_sub (a := (p + q - 1) / q) (b := p / q) (by omega) (by omega)
  refine ⟨?_, ?_, ?_, ?_, ?_, ?_⟩
  · constructor
    · intro e
      have := f1.mp (by rw [e]; exact z0')
      exact ⟨Int32.toInt_inj.mp this.1, Int32.toInt_inj.mp this.2⟩
    · rintro ⟨x1, x2⟩
      exact Int32.toInt_inj.mp ((f1.mpr ⟨congrArg Int32.toInt x1, congrArg Int32.toInt x2⟩).trans z0'.symm)
  · rw [Int32.le_iff_toInt_le, Int32.le_iff_toInt_le, z0']; exact f2
  · rw [Int32.le_iff_toInt_le, Int32.le_iff_toInt_le, z0']; exact f3
  · rw [Int32.le_iff_toInt_le]; exact f4
  · rw [Int32.le_iff_toInt_le]; exact f5
  · rw [Int32.le_iff_toInt_le, s, z1]; exact f6
/-- the best box -/
theorem bR_g {i : Int32} (h : PV pg) (hi : ¬ P_X4_isUnknown pg i = 0) (hx : 1 ≤ (pg (15 + i).toNatClampNeg).toInt ∧ (pg (15 + i).toNatClampNeg).toInt ≤ 9999) : ∃ best : Int32, aQ 3 ((P_X4_bestR z0 pg i).1, (P_X4_bestR z0 pg i).2) = best ∧ MN ((P_X4_ten (pg 1)).toInt * (pg (15 + i).toNatClampNeg).toInt) (P_X4_ten (pg 0)).toInt best.toInt 9999 := by
  refine ⟨_, rfl, ?_⟩
  unfold P_X4_bestR
  rw [if_neg hi]
  have hq := ten10 (pg 1)
  have m : (P_X4_ten (pg 1) * pg (15 + i).toNatClampNeg).toInt = (P_X4_ten (pg 1)).toInt * (pg (15 + i).toNatClampNeg).toInt := toI_mul (by rcases hq with q | q | q | q <;> rw [q] <;> omega) (by rcases hq with q | q | q | q <;> rw [q] <;> omega)
  have hT : 0 ≤ (P_X4_ten (pg 1) * pg (15 + i).toNatClampNeg).toInt ∧ (P_X4_ten (pg 1) * pg (15 + i).toNatClampNeg).toInt ≤ 9999000 := by
    rw [m]
    rcases hq with q | q | q | q <;> rw [q] <;> omega
  have z1 : (1 : Int32).toInt = 1 := by decide
  have z0' : (0 : Int32).toInt = 0 := by decide
  have m0 : MN (P_X4_ten (pg 1) * pg (15 + i).toNatClampNeg).toInt (P_X4_ten (pg 0)).toInt (0 : Int32).toInt ((1 : Int32).toInt - 1) := by
    rw [z0', z1]
    refine ⟨⟨by decide, by decide⟩, fun x x0 x1 => ?_, fun x x0 x1 => ?_⟩
    · have e : x = 0 := by omega
      rw [e]; exact Int.le_refl _
    · omega
  have lp := bestR_lp pg i _ (upd z0 0 0) hT rfl ((10000 - (1 : Int32).toInt).toNat + 1) 0 1 ⟨by decide, by decide⟩ (by decide) m0
  rw [m] at lp
  show MN _ _ (aQ 3 ((P_X4_bestR_29 pg i ((10000 - (1 : Int32).toInt).toNat + 1) 0 1 (upd z0 0 0)).1, (P_X4_bestR_29 pg i ((10000 - (1 : Int32).toInt).toNat + 1) 0 1 (upd z0 0 0)).2)).toInt 9999
  unfold aQ
  dsimp only
  rw [lp.1, if_pos (show (upd z0 0 0) 0 = 0 from rfl)]
  exact lp.2
theorem unk_d : pg (15 + pg 10).toNatClampNeg = P_X4_unknown pg := rfl
theorem si_ds (h : PV pg) {v : Int32} (hv : RB v) : (P_X4_size (mi pg v)).toInt = ds ((P_X4_ten (pg 1)).toInt * (P_X4_unknown pg).toInt) (P_X4_ten (pg 0)).toInt v.toInt := by
  rw [siz (mi_b h hv), mi_i h hv]
  unfold ds
  by_cases c : 0 ≤ (P_X4_ten (pg 1)).toInt * (P_X4_unknown pg).toInt - (P_X4_ten (pg 0)).toInt * v.toInt
  · rw [if_pos c, if_pos c]
  · rw [if_neg c, if_neg c]
    omega
theorem bm_r (h : PV pg) : ∃ best : Int32, aQ 3 ((P_X4_bestR z0 pg (pg 10)).1, (P_X4_bestR z0 pg (pg 10)).2) = best ∧ RB best ∧ (∀ v : Int32, RB v → (P_X4_size (mi pg best)) ≤ (P_X4_size (mi pg v))) ∧ (∀ v : Int32, RB v → v.toInt < best.toInt → (P_X4_size (mi pg best)) < (P_X4_size (mi pg v))) ∧ MN ((P_X4_ten (pg 1)).toInt * (P_X4_unknown pg).toInt) (P_X4_ten (pg 0)).toInt best.toInt 9999 := by
  obtain ⟨best, h1, h2⟩ := bR_g h (un_ch h) (pv_unk h)
  have h2 : MN ((P_X4_ten (pg 1)).toInt * (P_X4_unknown pg).toInt) (P_X4_ten (pg 0)).toInt best.toInt 9999 := h2
  have hb : RB best := h2.1
  refine ⟨best, h1, hb, fun v hv => ?_, fun v hv hl => ?_, h2⟩
  · rw [Int32.le_iff_toInt_le, si_ds h hb, si_ds h hv]
    exact h2.2.1 _ hv.1 hv.2
  · rw [Int32.lt_iff_toInt_lt, si_ds h hb, si_ds h hv]
    exact h2.2.2 _ hv.1 hl
theorem bv_r (h : PV pg) (h0 : P_X4_ten (pg 0) = 1) (h1 : (P_X4_ten (pg 1)).toInt * (P_X4_unknown pg).toInt ≤ 9999) : ∃ bst : Int32, aQ 3 ((P_X4_bestR z0 pg (pg 10)).1, (P_X4_bestR z0 pg (pg 10)).2) = bst ∧ RB bst ∧ aQ 1 ((P_X4_bridge z0 (upd pg 2 bst) 0).1, (P_X4_bridge z0 (upd pg 2 bst) 0).2) = 0 := by
  obtain ⟨bst, e1, e2, -, -, e3⟩ := bm_r h
  refine ⟨bst, e1, e2, (br_0u h).trans ?_⟩
  have hu := pv_unk h
  have hq := ten_b (pg 1)
  have hT : 0 ≤ (P_X4_ten (pg 1)).toInt * (P_X4_unknown pg).toInt := Int.mul_nonneg (by omega) (by omega)
  have z1 : (1 : Int32).toInt = 1 := by decide
  have hm := mi_i h e2
  rw [h0, z1] at e3 hm
  have k := e3.2.1 _ hT h1
  generalize (P_X4_ten (pg 1)).toInt * (P_X4_unknown pg).toInt = T at *
  unfold ds at k
  rw [if_pos (show (0 : Int) ≤ T - 1 * T by omega)] at k
  refine Int32.toInt_inj.mp ?_
  rw [hm, show (0 : Int32).toInt = 0 by decide]
  by_cases c : 0 ≤ T - 1 * bst.toInt
  · rw [if_pos c] at k; omega
  · rw [if_neg c] at k; omega
theorem unk_2 (h : PV pg) (a b : Int32) : P_X4_unknown (upd (upd pg 0 a) 1 b) = P_X4_unknown pg := by
  unfold P_X4_unknown
  rw [upd_o (show 10 ≠ 1 by decide), upd_o (show 10 ≠ 0 by decide)]
  have z15 : (15 : Int32).toInt = 15 := by decide
  have b' := h.2.1
  have b9 := h.1
  have a' := toI_add (a := 15) (b := pg 10) (by omega) (by omega)
  have e : (15 + pg 10).toNatClampNeg = (15 + pg 10).toInt.toNat := rfl
  rw [upd_o (by rw [e]; omega), upd_o (by rw [e]; omega)]
/-- the sensitivity -/
def upV (pg : Pg) : Int32 := if pg 2 = 9999 then (P_X4_trueOf pg (pg 2) (pg 4)) else (P_X4_trueOf pg ((pg 2) + 1) (pg 4))
def dnV (pg : Pg) : Int32 := if pg 2 = 0 then (P_X4_trueOf pg (pg 2) (pg 4)) else (P_X4_trueOf pg ((pg 2) - 1) (pg 4))
theorem sz_0 (x : Int32) : P_X4_size (x - x) = 0 := by
  rw [Int32.sub_self]
  decide
theorem se_r (h : PV pg) : (P_X4_sensitivity z0 pg).1 = if (P_X4_size (upV pg - (P_X4_trueOf pg (pg 2) (pg 4)))) ≤ (P_X4_size (dnV pg - (P_X4_trueOf pg (pg 2) (pg 4)))) then (P_X4_size (dnV pg - (P_X4_trueOf pg (pg 2) (pg 4)))) else (P_X4_size (upV pg - (P_X4_trueOf pg (pg 2) (pg 4)))) := by
  have hr := h.2.2.2.1
  have hr1 := hr.1
  have hr2 := hr.2
  have z9 : (9999 : Int32).toInt = 9999 := by decide
  have z0' : (0 : Int32).toInt = 0 := by decide
  have key : ∀ a b : Int32, (if a ≤ b then (b, upd z0 0 0) else (a, upd z0 0 0) : Int32 × Pg).1 = if a ≤ b then b else a := fun a b => by
    by_cases c : a ≤ b
    · rw [if_pos c, if_pos c]
    · rw [if_neg c, if_neg c]
  have eu : 9999 ≤ pg 2 → P_X4_size (upV pg - (P_X4_trueOf pg (pg 2) (pg 4))) = 0 := fun c => by
    rw [Int32.le_iff_toInt_le] at c
    unfold upV
    rw [if_pos (Int32.toInt_inj.mp (by omega)), sz_0]
  have eu2 : ¬ 9999 ≤ pg 2 → upV pg = (P_X4_trueOf pg ((pg 2) + 1) (pg 4)) := fun c => by
    rw [Int32.le_iff_toInt_le] at c
    unfold upV
    rw [if_neg (fun q => by rw [q] at c; omega)]
  have ed : pg 2 ≤ 0 → P_X4_size (dnV pg - (P_X4_trueOf pg (pg 2) (pg 4))) = 0 := fun c => by
    rw [Int32.le_iff_toInt_le] at c
    unfold dnV
    rw [if_pos (Int32.toInt_inj.mp (by omega)), sz_0]
  have ed2 : ¬ pg 2 ≤ 0 → dnV pg = (P_X4_trueOf pg ((pg 2) - 1) (pg 4)) := fun c => by
    rw [Int32.le_iff_toInt_le] at c
    unfold dnV
    rw [if_neg (fun q => by rw [q] at c; omega)]
  unfold P_X4_sensitivity
  dsimp only
  by_cases c1 : 9999 ≤ pg 2
  · rw [if_pos c1]
    by_cases c2 : pg 2 ≤ 0
    · rw [if_pos c2, key, eu c1, ed c2]
    · rw [if_neg c2, key, eu c1, ed2 c2]
  · rw [if_neg c1]
    by_cases c2 : pg 2 ≤ 0
    · rw [if_pos c2, key, eu2 c1, ed c2]
    · rw [if_neg c2, key, eu2 c1, ed2 c2]
/-- the shunt that is enough -/
def FT (pg : Pg) (k : Nat) : Prop := ¬ 500 < (P_X4_size (P_X4_rawOf pg 0 (nI k))) ∧ ¬ 500 < (P_X4_size (P_X4_rawOf pg 1 (nI k)))
def ENP (pg : Pg) (en : Int32) : Prop := (en = -9999 ∧ ∀ k : Nat, k < 4 → ¬ FT pg k) ∨ ∃ k : Nat, k < 4 ∧ en = nI k ∧ FT pg k ∧ ∀ j : Nat, j < k → ¬ FT pg j
theorem en_lp (mf : Pg) : ∀ (n k : Nat), k ≤ 4 → 4 - k < n → (∀ j : Nat, j < k → ¬ FT pg j) → ENP pg (P_X4_enoughShunt_7 pg n (nI k) mf).1 := by
  intro n
  induction n with
  | zero => intro k hk hn; omega
  | succ n ih =>
    intro k hk hn hj
    unfold P_X4_enoughShunt_7
    have z4 : (4 : Int32).toInt = 4 := by decide
    have ek := nI_toInt (n := k) (by omega)
    by_cases c : 4 ≤ nI k
    · rw [if_pos c]
      rw [Int32.le_iff_toInt_le] at c
      exact Or.inl ⟨rfl, fun j hj2 => hj j (by omega)⟩
    · rw [if_neg c]
      rw [Int32.le_iff_toInt_le] at c
      have go : ¬ FT pg k → ENP pg (P_X4_enoughShunt_7 pg n (nI k + 1) mf).1 := fun hf => by
        rw [nI_1]
        refine ih (k + 1) (by omega) (by omega) (fun j hj2 => ?_)
        by_cases q : j = k
        · subst q; exact hf
        · exact hj j (by omega)
      by_cases c1 : 500 < (P_X4_size (P_X4_rawOf pg 0 (nI k)))
      · rw [if_pos c1]; exact go (fun q => q.1 c1)
      · rw [if_neg c1]
        by_cases c2 : 500 < (P_X4_size (P_X4_rawOf pg 1 (nI k)))
        · rw [if_pos c2]; exact go (fun q => q.2 c2)
        · rw [if_neg c2]
          exact Or.inr ⟨k, by omega, rfl, ⟨c1, c2⟩, hj⟩
theorem es_r (pg : Pg) : ∃ en : Int32, (P_X4_enoughShunt z0 pg).1 = en ∧ ENP pg en := by
  refine ⟨_, rfl, ?_⟩
  have h := en_lp (pg := pg) (upd z0 0 0) (((4 : Int32).toInt - (0 : Int32).toInt).toNat + 1) 0 (by decide) (by decide) (fun j hj => absurd hj (Nat.not_lt_zero j))
  rw [nI_0] at h
  exact h
theorem en_no {en : Int32} {k : Nat} (E : ENP pg en) (hk : k < 4) (h : ¬ FT pg k) : ¬ en = nI k := by
  rcases E with ⟨e, -⟩ | ⟨j, hj, e, hf, -⟩
  · subst e
    exact fun q => by
      have := congrArg Int32.toInt q
      rw [nI_toInt (by omega), show (-9999 : Int32).toInt = -9999 by decide] at this
      omega
  · subst e
    intro q
    have := congrArg Int32.toInt q
    rw [nI_toInt (by omega), nI_toInt (by omega)] at this
    have e : j = k := by omega
    subst e
    exact h hf
theorem en_ye {en : Int32} {k : Nat} (E : ENP pg en) (hk : k < 4) (h : FT pg k) : ¬ en = -9999 ∧ ¬ nI k < en := by
  rcases E with ⟨-, hn⟩ | ⟨j, hj, e, hf, hl⟩
  · exact absurd h (hn k hk)
  · subst e
    have hjk : j ≤ k := Nat.le_of_not_lt (fun q => hl k q h)
    refine ⟨ne9 (by rw [nI_toInt (by omega)]; omega), ?_⟩
    rw [Int32.lt_iff_toInt_lt, nI_toInt (by omega), nI_toInt (by omega)]
    omega
/-- the best arms -/
theorem bA_r (h : PV pg) : ∃ q : Nat, (q = 0 ∨ q = 1 ∨ q = 2 ∨ q = 3) ∧ aQ 3 ((P_X4_bestArms z0 pg (pg 10)).1, (P_X4_bestArms z0 pg (pg 10)).2) = nI q ∧ (q = 0 → (P_X4_unknown pg).toInt ≤ 9999) ∧ (q = 1 → (P_X4_unknown pg).toInt ≤ 999) ∧ (q = 2 → (P_X4_unknown pg).toInt ≤ 99) ∧ (q = 3 → (P_X4_unknown pg).toInt ≤ 9) := by
  have hu := pv_unk h
  have E : ∀ r : Int32, P_X4_bestArms_35 pg (pg 10) 17 (-9999) (-9) 0 (upd z0 0 0) = (r, upd z0 0 0) → aQ 3 ((P_X4_bestArms z0 pg (pg 10)).1, (P_X4_bestArms z0 pg (pg 10)).2) = r := fun r hr => by
    have e : P_X4_bestArms z0 pg (pg 10) = (r, upd z0 0 0) := (if_neg (un_ch h)).trans hr
    rw [e]
    rfl
  by_cases c1 : (P_X4_unknown pg).toInt ≤ 9
  · exact ⟨3, by omega, E _ (ma_0 (pn := pg) (i := pg 10) ⟨hu.1, c1⟩), by omega, by omega, by omega, fun _ => c1⟩
  · by_cases c2 : (P_X4_unknown pg).toInt ≤ 99
    · exact ⟨2, by omega, E _ (ma_1 (pn := pg) (i := pg 10) ⟨(by show 10 ≤ (P_X4_unknown pg).toInt; omega), c2⟩), by omega, by omega, fun _ => c2, by omega⟩
    · by_cases c3 : (P_X4_unknown pg).toInt ≤ 999
      · exact ⟨1, by omega, E _ (ma_2 (pn := pg) (i := pg 10) ⟨(by show 100 ≤ (P_X4_unknown pg).toInt; omega), c3⟩), by omega, fun _ => c3, by omega, by omega⟩
      · exact ⟨0, by omega, E _ (ma_3 (pn := pg) (i := pg 10) ⟨(by show 1000 ≤ (P_X4_unknown pg).toInt; omega), hu.2⟩), fun _ => hu.2, by omega, by omega, by omega⟩
theorem ng0 {x : Int32} (h : 0 ≤ x.toInt) : ¬ x < 0 := by
  rw [Int32.lt_iff_toInt_lt, show (0 : Int32).toInt = 0 by decide]
  omega
theorem rb_m {x : Int32} (h : 0 ≤ x.toInt) : RB (x - x / 10000 * 10000) := rb_mod h
theorem rb_i {x : Int32} (h : RB x) (c : ¬ x = 9999) : RB (x + 1) := rb_inc h (fun q => c (Int32.toInt_inj.mp (by rw [Int32.le_iff_toInt_le, show (9999 : Int32).toInt = 9999 by decide] at q; have := h.2; rw [show (9999 : Int32).toInt = 9999 by decide]; omega)))
theorem rb_d {x : Int32} (h : RB x) (c : ¬ x = 0) : RB (x - 1) := rb_dec h (fun q => c (Int32.toInt_inj.mp (by rw [Int32.le_iff_toInt_le, show (0 : Int32).toInt = 0 by decide] at q; have := h.1; rw [show (0 : Int32).toInt = 0 by decide]; omega)))
theorem dec_l {x : Int32} (h : RB x) (c : ¬ x = 0) : (x - 1).toInt < x.toInt := by
  have h1 := h.1
  have h2 := h.2
  have z1 : (1 : Int32).toInt = 1 := by decide
  have c' : ¬ x.toInt = 0 := fun q => c (Int32.toInt_inj.mp (by rw [show (0 : Int32).toInt = 0 by decide]; exact q))
  have s := toI_sub (a := x) (b := 1) (by omega) (by omega)
  omega
end VM
