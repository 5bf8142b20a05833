/-! answers alike: bounds; the shunt that is enough, the sensitivity -/
theorem tdiv_b {a b M : Int} (hb : 0 < b) (h1 : -(M * b) ≤ a) (h2 : a ≤ M * b) : -M ≤ a.tdiv b ∧ a.tdiv b ≤ M := by
  rcases Int.le_total 0 a with h0 | h0
  · rw [Int.tdiv_eq_ediv_of_nonneg h0]
    have e1 : a / b ≤ M := Int.ediv_le_of_le_mul hb h2
    have e2 : 0 ≤ a / b := Int.ediv_nonneg h0 (by omega)
    exact ⟨by omega, e1⟩
  · have e : a.tdiv b = -((-a) / b) := by
      rw [← Int.tdiv_eq_ediv_of_nonneg (by omega : 0 ≤ -a), Int.neg_tdiv, Int.neg_neg]
    rw [e]
    have e1 : (-a) / b ≤ M := Int.ediv_le_of_le_mul hb (by omega)
    have e2 : 0 ≤ (-a) / b := Int.ediv_nonneg (by omega) (by omega)
    exact ⟨by omega, by omega⟩
theorem mis_b {pg : Nat → Int32} {x bx : Int32} (hx : 1 ≤ x.toInt ∧ x.toInt ≤ 9999) (hb : RB bx) : -((P_X4_divisor pg x bx).toInt) ≤ (P_X4_missing pg x bx).toInt ∧ (P_X4_missing pg x bx).toInt ≤ (P_X4_divisor pg x bx).toInt ∧ 1 ≤ (P_X4_divisor pg x bx).toInt ∧ (P_X4_divisor pg x bx).toInt ≤ 39996000 ∧ -9999000 ≤ (P_X4_missing pg x bx).toInt ∧ (P_X4_missing pg x bx).toInt ≤ 9999000 := by
  have hd := div_val (pg := pg) hx hb
  obtain ⟨b1, b2⟩ := hb
  have p0 := ten10 (pg 0)
  have p1 := ten10 (pg 1)
  have m1 : (P_X4_ten (pg 1) * x).toInt = x.toInt * (P_X4_ten (pg 1)).toInt := by
    rw [Int32.mul_comm]
    refine toI_mk rfl ?_ ?_ <;> rcases p1 with q | q | q | q <;> rw [q] <;> omega
  have m0 : (P_X4_ten (pg 0) * bx).toInt = bx.toInt * (P_X4_ten (pg 0)).toInt := by
    rw [Int32.mul_comm]
    refine toI_mk rfl ?_ ?_ <;> rcases p0 with q | q | q | q <;> rw [q] <;> omega
  have s : (P_X4_missing pg x bx).toInt = (P_X4_ten (pg 1) * x).toInt - (P_X4_ten (pg 0) * bx).toInt := by
    unfold P_X4_missing
    refine toI_sub ?_ ?_ <;> rw [m1, m0] <;> rcases p0 with q | q | q | q <;> rcases p1 with r | r | r | r <;> rw [q, r] <;> omega
  rw [s, m1, m0, hd]
  rcases p0 with q | q | q | q <;> rcases p1 with r | r | r | r <;> rw [q, r] <;> refine ⟨?_, ?_, ?_, ?_, ?_, ?_⟩ <;> omega
theorem lmul_i {a b : Int64} (h1 : -9223372036854775808 ≤ a.toInt * b.toInt) (h2 : a.toInt * b.toInt < 9223372036854775808) : (a * b).toInt = a.toInt * b.toInt := by
  rw [Int64.toInt_mul]
  apply Int.bmod_eq_of_le <;> omega
theorem ldiv_i {a b : Int64} {M : Int} (hb : 0 < b.toInt) (hM : M < 9223372036854775808) (h1 : -(M * b.toInt) ≤ a.toInt) (h2 : a.toInt ≤ M * b.toInt) : -M ≤ (a / b).toInt ∧ (a / b).toInt ≤ M := by
  obtain ⟨t1, t2⟩ := tdiv_b hb h1 h2
  have e : (a / b).toInt = a.toInt.tdiv b.toInt := by
    rw [Int64.toInt_div]
    apply Int.bmod_eq_of_le <;> omega
  rw [e]
  exact ⟨t1, t2⟩
theorem true_b {pg : Nat → Int32} (h : PV pg) (r : RG pg) {bx : Int32} (hb : RB bx) (sh : Int32) : -9900000 ≤ (P_X4_trueOf pg bx sh).toInt ∧ (P_X4_trueOf pg bx sh).toInt ≤ 9900000 := by
  obtain ⟨n1, n2, n3, n4, n5, n6⟩ := mis_b (pg := pg) (pv_unk h) hb
  obtain ⟨⟨r1, r2⟩, -⟩ := r
  unfold P_X4_trueOf
  have zk : (100000 : Int64).toInt = 100000 := by decide
  have e3 := Int32.toInt_toInt64 (x := pg 3)
  have eN := Int32.toInt_toInt64 (x := P_X4_missing pg (P_X4_unknown pg) bx)
  have eD := Int32.toInt_toInt64 (x := P_X4_divisor pg (P_X4_unknown pg) bx)
  have eS := Int32.toInt_toInt64 (x := P_X4_ten sh)
  generalize P_X4_missing pg (P_X4_unknown pg) bx = N at *
  generalize P_X4_divisor pg (P_X4_unknown pg) bx = D at *
  have m1 : (100000 * (pg 3).toInt64).toInt = 100000 * (pg 3).toInt := by
    rw [lmul_i (by rw [zk, e3]; omega) (by rw [zk, e3]; omega), zk, e3]
  have hE : 100000 ≤ 100000 * (pg 3).toInt ∧ 100000 * (pg 3).toInt ≤ 9900000 := ⟨by omega, by omega⟩
  generalize hEE : 100000 * (pg 3).toInt = E at *
  have pr1 : -(9900000 * D.toInt) ≤ E * N.toInt ∧ E * N.toInt ≤ 9900000 * D.toInt := by
    have u1 : E * N.toInt ≤ E * D.toInt := Int.mul_le_mul_of_nonneg_left n2 (by omega)
    have u2 : E * -D.toInt ≤ E * N.toInt := Int.mul_le_mul_of_nonneg_left n1 (by omega)
    have u3 : E * D.toInt ≤ 9900000 * D.toInt := Int.mul_le_mul_of_nonneg_right hE.2 (by omega)
    rw [Int.mul_neg] at u2
    exact ⟨by omega, by omega⟩
  have m2 : (100000 * (pg 3).toInt64 * N.toInt64).toInt = E * N.toInt := by
    rw [lmul_i (by rw [m1, eN]; omega) (by rw [m1, eN]; omega), m1, eN]
  have d1 := ldiv_i (a := 100000 * (pg 3).toInt64 * N.toInt64) (b := D.toInt64) (M := 9900000) (by rw [eD]; omega) (by decide) (by rw [m2, eD]; omega) (by rw [m2, eD]; omega)
  have ts := ten_b sh
  generalize 100000 * (pg 3).toInt64 * N.toInt64 / D.toInt64 = v at *
  have tm : 9900000 ≤ 9900000 * (P_X4_ten sh).toInt := by omega
  have d2 := ldiv_i (a := v) (b := (P_X4_ten sh).toInt64) (M := 9900000) (by rw [eS]; omega) (by decide) (by rw [eS]; omega) (by rw [eS]; omega)
  generalize v / (P_X4_ten sh).toInt64 = w at *
  have e : w.toInt32.toInt = w.toInt := by
    rw [Int64.toInt_toInt32]
    apply Int.bmod_eq_of_le <;> omega
  rw [e]
  exact d2
theorem off_b {pg : Nat → Int32} (r : RG pg) : -50 ≤ (P_X4_offsetOf pg).toInt ∧ (P_X4_offsetOf pg).toInt ≤ 2100 := by
  obtain ⟨-, ⟨a1, a2⟩, ⟨b1, b2⟩, ⟨c1, c2⟩, -⟩ := r
  have u1 : (pg 7).toInt * (pg 6).toInt ≤ 9999 * (pg 6).toInt := Int.mul_le_mul_of_nonneg_right c2 b1
  have u0 : 0 ≤ (pg 7).toInt * (pg 6).toInt := Int.mul_nonneg c1 b1
  have m := toI_mul (a := pg 7) (b := pg 6) (by omega) (by omega)
  have z : (100 : Int32).toInt = 100 := by decide
  have d := i32_div (g := pg 7 * pg 6) (k := 100) (by omega) (by decide)
  rw [z] at d
  have s := toI_add (a := pg 5) (b := pg 7 * pg 6 / 100) (by omega) (by omega)
  unfold P_X4_offsetOf
  omega
theorem neg_i {x : Int32} (h : -2147483647 ≤ x.toInt) : (-x).toInt = -x.toInt := by
  have hb := x.toInt_lt
  have z : (0 : Int32).toInt = 0 := by decide
  rw [← Int32.zero_sub]
  have := toI_sub (a := 0) (b := x) (by omega) (by omega)
  omega
theorem raw_b {pg : Nat → Int32} (h : PV pg) (r : RG pg) (rv sh : Int32) : -10000000 ≤ (P_X4_rawOf pg rv sh).toInt ∧ (P_X4_rawOf pg rv sh).toInt ≤ 10000000 := by
  have t := true_b h r (pv_r h) sh
  have o := off_b r
  unfold P_X4_rawOf
  by_cases c : rv = 0
  · have e : (let j23 := fun (j23_s0 : Int32) => ((P_X4_offsetOf pg) + j23_s0); (if rv = 0 then (j23 (P_X4_trueOf pg (pg 2) sh)) else (j23 (-(P_X4_trueOf pg (pg 2) sh))))) = P_X4_offsetOf pg + P_X4_trueOf pg (pg 2) sh := if_pos c
    rw [e]
    have a := toI_add (a := P_X4_offsetOf pg) (b := P_X4_trueOf pg (pg 2) sh) (by omega) (by omega)
    omega
  · have e : (let j23 := fun (j23_s0 : Int32) => ((P_X4_offsetOf pg) + j23_s0); (if rv = 0 then (j23 (P_X4_trueOf pg (pg 2) sh)) else (j23 (-(P_X4_trueOf pg (pg 2) sh))))) = P_X4_offsetOf pg + -(P_X4_trueOf pg (pg 2) sh) := if_neg c
    rw [e]
    have n := neg_i (x := P_X4_trueOf pg (pg 2) sh) (by omega)
    have a := toI_add (a := P_X4_offsetOf pg) (b := -(P_X4_trueOf pg (pg 2) sh)) (by omega) (by omega)
    omega
theorem size_i {x : Int32} (h : -2147483647 ≤ x.toInt) : (P_X4_size x).toInt = if 0 ≤ x.toInt then x.toInt else -x.toInt := by
  have z : (0 : Int32).toInt = 0 := by decide
  unfold P_X4_size
  by_cases c : 0 ≤ x
  · rw [if_pos c]; rw [Int32.le_iff_toInt_le] at c; rw [if_pos (by omega)]
  · rw [if_neg c]; rw [Int32.le_iff_toInt_le] at c; rw [if_neg (by omega), neg_i h]
theorem out_size {x : Int32} (h : -10000000 ≤ x.toInt ∧ x.toInt ≤ 10000000) : (P_X3_outside x (-500) 500 = 0 ∧ ¬ 500 < P_X4_size x) ∨ (¬ P_X3_outside x (-500) 500 = 0 ∧ 500 < P_X4_size x) := by
  have z1 : (-500 : Int32).toInt = -500 := by decide
  have z2 : (500 : Int32).toInt = 500 := by decide
  have s := size_i (x := x) (by omega)
  by_cases c : P_X3_outside x (-500) 500 = 0
  · have o := out_i c
    refine Or.inl ⟨c, ?_⟩
    rw [Int32.lt_iff_toInt_lt, s, z2]
    split <;> omega
  · refine Or.inr ⟨c, ?_⟩
    rw [Int32.lt_iff_toInt_lt, s, z2]
    unfold P_X3_outside at c
    by_cases c1 : x < -500
    · rw [Int32.lt_iff_toInt_lt] at c1
      split <;> omega
    · rw [if_neg c1] at c
      by_cases c2 : x ≤ 500
      · rw [if_pos c2] at c; exact absurd rfl c
      · rw [Int32.le_iff_toInt_le] at c2
        split <;> omega
section Q4
variable {f oh lf ce pg : Nat → Int32}
theorem raw_0 (pg : Nat → Int32) (sh : Int32) : P_X4_rawOf pg 0 sh = P_X4_offsetOf pg + P_X4_trueOf pg (pg 2) sh := by unfold P_X4_rawOf; exact if_pos rfl
theorem raw_1 (pg : Nat → Int32) (sh : Int32) : P_X4_rawOf pg 1 sh = P_X4_offsetOf pg - P_X4_trueOf pg (pg 2) sh := by
  rw [Int32.sub_eq_add_neg]
  unfold P_X4_rawOf
  exact if_neg (by decide)
theorem es_lp (h : SR f oh lf ce pg) (bf mf : Nat → Int32) : ∀ (n n' : Nat) (v : Int32), 0 ≤ v.toInt → ((3 : Int32).toInt + 1 - v.toInt).toNat < n → ((4 : Int32).toInt - v.toInt).toNat < n' → (P_X3_enoughShunt_41 bf f oh n (P_X1_difference f oh (f 2)) (P_X1_denominator f oh (f 2)) (P_X1_offset f) v, mf) = P_X4_enoughShunt_7 pg n' v mf := by
  intro n
  have z3 : (3 : Int32).toInt = 3 := by decide
  have z4 : (4 : Int32).toInt = 4 := by decide
  have z1 : (1 : Int32).toInt = 1 := by decide
  induction n with
  | zero => intro n' v _ hn; omega
  | succ n ih =>
    intro n' v h0 hn hn'
    obtain ⟨m, rfl⟩ : ∃ m, n' = m + 1 := ⟨n' - 1, by omega⟩
    have E1 : P_X3_enoughShunt_41 bf f oh (n + 1) (P_X1_difference f oh (f 2)) (P_X1_denominator f oh (f 2)) (P_X1_offset f) v = (if 3 < v then (-9999) else (if (P_X3_outside ((P_X1_offset f) + (P_X1_deflection f (P_X1_difference f oh (f 2)) (P_X1_denominator f oh (f 2)) v)) (-500) 500) = 0 then (if (P_X3_outside ((P_X1_offset f) - (P_X1_deflection f (P_X1_difference f oh (f 2)) (P_X1_denominator f oh (f 2)) v)) (-500) 500) = 0 then v else P_X3_enoughShunt_41 bf f oh n (P_X1_difference f oh (f 2)) (P_X1_denominator f oh (f 2)) (P_X1_offset f) (v + 1)) else P_X3_enoughShunt_41 bf f oh n (P_X1_difference f oh (f 2)) (P_X1_denominator f oh (f 2)) (P_X1_offset f) (v + 1))) := rfl
    have E2 : P_X4_enoughShunt_7 pg (m + 1) v mf = (if 4 ≤ v then ((-9999), mf) else (if 500 < (P_X4_size (P_X4_rawOf pg 0 v)) then P_X4_enoughShunt_7 pg m (v + 1) mf else (if 500 < (P_X4_size (P_X4_rawOf pg 1 v)) then P_X4_enoughShunt_7 pg m (v + 1) mf else (v, mf)))) := rfl
    have hd : P_X1_deflection f (P_X1_difference f oh (f 2)) (P_X1_denominator f oh (f 2)) v = P_X4_trueOf pg (pg 2) v := by
      rw [h.lo (j := 2) (by decide)]
      exact h.dfl (pv_r h.pv) v
    rw [E1, E2, hd, h.off, ← raw_0, ← raw_1]
    by_cases c : 4 ≤ v
    · rw [if_pos c]
      rw [Int32.le_iff_toInt_le] at c
      rw [if_pos (show 3 < v by rw [Int32.lt_iff_toInt_lt]; omega)]
    · rw [if_neg c]
      rw [Int32.le_iff_toInt_le] at c
      rw [if_neg (show ¬ 3 < v by rw [Int32.lt_iff_toInt_lt]; omega)]
      have a := toI_add (a := v) (b := 1) (by omega) (by omega)
      have ih' := ih m (v + 1) (by omega) (by omega) (by omega)
      rw [h.off] at ih'
      rcases out_size (raw_b h.pv h.rg 0 v) with ⟨o1, o2⟩ | ⟨o1, o2⟩
      · rw [if_pos o1, if_neg o2]
        rcases out_size (raw_b h.pv h.rg 1 v) with ⟨o3, o4⟩ | ⟨o3, o4⟩
        · rw [if_pos o3, if_neg o4]
        · rw [if_neg o3, if_pos o4]; exact ih'
      · rw [if_neg o1, if_pos o2]; exact ih'
theorem q_enoughShunt (h : SR f oh lf ce pg) (bf mf : Nat → Int32) : P_X4_enoughShunt mf pg = (P_X3_enoughShunt bf f oh, upd mf 0 0) :=
  (es_lp h bf (upd mf 0 0) _ _ 0 (by decide) (Nat.lt_succ_self _) (Nat.lt_succ_self _)).symm
theorem abs_size (x : Int32) : jabs x = P_X4_size x := by
  unfold jabs P_X4_size
  rw [Int32.zero_sub]
theorem q_sensitivity (h : SR f oh lf ce pg) (bf mf : Nat → Int32) : P_X4_sensitivity mf pg = (P_X3_sensitivity bf f oh, upd mf 0 0) := by
  have e2 : f 2 = pg 2 := h.lo (by decide)
  have hr := pv_r h.pv
  have z0 : (0 : Int32).toInt = 0 := by decide
  have E1 : P_X3_sensitivity bf f oh = (if (f 2) ≤ 0 then (if 9999 ≤ (f 2) then 0 else (jabs ((P_X3_deflectionWith bf f oh ((f 2) + 1)) - (P_X3_deflectionWith bf f oh (f 2))))) else (jmax (if 9999 ≤ (f 2) then 0 else (jabs ((P_X3_deflectionWith bf f oh ((f 2) + 1)) - (P_X3_deflectionWith bf f oh (f 2))))) (jabs ((P_X3_deflectionWith bf f oh ((f 2) - 1)) - (P_X3_deflectionWith bf f oh (f 2)))))) := by
    unfold P_X3_sensitivity
    by_cases c : 9999 ≤ f 2
    · rw [if_pos c, if_pos c]
    · rw [if_neg c, if_neg c]
  have E2 : P_X4_sensitivity mf pg = (if (if 9999 ≤ (pg 2) then 0 else P_X4_size ((P_X4_trueOf pg ((pg 2) + 1) (pg 4)) - (P_X4_trueOf pg (pg 2) (pg 4)))) ≤ (if (pg 2) ≤ 0 then 0 else P_X4_size ((P_X4_trueOf pg ((pg 2) - 1) (pg 4)) - (P_X4_trueOf pg (pg 2) (pg 4)))) then ((if (pg 2) ≤ 0 then 0 else P_X4_size ((P_X4_trueOf pg ((pg 2) - 1) (pg 4)) - (P_X4_trueOf pg (pg 2) (pg 4)))), (upd mf 0 0)) else ((if 9999 ≤ (pg 2) then 0 else P_X4_size ((P_X4_trueOf pg ((pg 2) + 1) (pg 4)) - (P_X4_trueOf pg (pg 2) (pg 4)))), (upd mf 0 0))) := by
    unfold P_X4_sensitivity
    by_cases c : 9999 ≤ pg 2
    · rw [if_pos c, if_pos c]
      by_cases c2 : pg 2 ≤ 0
      · exact (if_pos c2).trans (by rw [if_pos c2])
      · exact (if_neg c2).trans (by rw [if_neg c2])
    · rw [if_neg c, if_neg c]
      by_cases c2 : pg 2 ≤ 0
      · exact (if_pos c2).trans (by rw [if_pos c2])
      · exact (if_neg c2).trans (by rw [if_neg c2])
  rw [E1, E2, e2, h.dfw bf hr]
  have tb := true_b h.pv h.rg hr (pg 4)
  have sz : ∀ x : Int32, -9900000 ≤ x.toInt ∧ x.toInt ≤ 9900000 → 0 ≤ (P_X4_size (x - P_X4_trueOf pg (pg 2) (pg 4))).toInt := fun x hx => by
    have s := toI_sub (a := x) (b := P_X4_trueOf pg (pg 2) (pg 4)) (by omega) (by omega)
    rw [size_i (by omega)]
    split <;> omega
  have fin : ∀ a b : Int32, (if a ≤ b then (b, upd mf 0 0) else (a, upd mf 0 0)) = (jmax a b, upd mf 0 0) := fun a b => by
    unfold jmax
    by_cases q : a ≤ b
    · rw [if_pos q]
      by_cases q2 : a < b
      · rw [if_pos q2]
      · rw [if_neg q2]
        rw [Int32.le_iff_toInt_le] at q
        rw [Int32.lt_iff_toInt_lt] at q2
        rw [show b = a from Int32.toInt_inj.mp (by omega)]
    · rw [if_neg q]
      rw [Int32.le_iff_toInt_le] at q
      rw [if_neg (show ¬ a < b by rw [Int32.lt_iff_toInt_lt]; omega)]
  rw [fin]
  by_cases c2 : pg 2 ≤ 0
  · rw [if_pos c2, if_pos c2]
    have c1 : ¬ 9999 ≤ pg 2 := by
      have z9 : (9999 : Int32).toInt = 9999 := by decide
      rw [Int32.le_iff_toInt_le] at c2 ⊢
      omega
    rw [if_neg c1, if_neg c1, h.dfw bf (rb_inc hr c1), abs_size]
    have s := sz _ (true_b h.pv h.rg (rb_inc hr c1) (pg 4))
    unfold jmax
    by_cases q : P_X4_size (P_X4_trueOf pg (pg 2 + 1) (pg 4) - P_X4_trueOf pg (pg 2) (pg 4)) < 0
    · rw [Int32.lt_iff_toInt_lt] at q; omega
    · rw [if_neg q]
  · rw [if_neg c2, if_neg c2, h.dfw bf (rb_dec hr c2)]
    by_cases c1 : 9999 ≤ pg 2
    · rw [if_pos c1, if_pos c1, abs_size]
    · rw [if_neg c1, if_neg c1, h.dfw bf (rb_inc hr c1), abs_size, abs_size]
end Q4
