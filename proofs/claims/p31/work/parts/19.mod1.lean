/-! X4_in -/
def P_X4_in (v : Int64) (lo : Int64) (hi : Int64) : Int32 := (if (lg_cmp v lo) < 0 then 0 else (if 0 < (lg_cmp v hi) then 0 else 1))
theorem zb_X4_in (v : Int64) (lo : Int64) (hi : Int64) : P_X4_in v lo hi = 0 ∨ P_X4_in v lo hi = 1 := by
  unfold P_X4_in
  repeat' first | with_reducible refine zif ?_ ?_ | with_reducible exact Or.inl rfl | with_reducible exact Or.inr rfl 

/-! X4_isSetting -/
def P_X4_isSetting (what : Int32) (v : Int32) : Int32 := (if what = 0 then (P_X4_in ((v).toInt64) 0 3) else if what = 1 then (P_X4_in ((v).toInt64) 0 3) else if what = 2 then (P_X4_in ((v).toInt64) 0 9999) else if what = 3 then (P_X4_in ((v).toInt64) 1 99) else if what = 4 then (P_X4_in ((v).toInt64) 0 3) else if what = 5 then (P_X4_in ((v).toInt64) (-50) 50) else (if what = 6 then (if (P_X4_in ((v).toInt64) 0 20) = 0 then 0 else 1) else 0))
theorem zb_X4_isSetting (what : Int32) (v : Int32) : P_X4_isSetting what v = 0 ∨ P_X4_isSetting what v = 1 := by
  unfold P_X4_isSetting
  repeat' first | with_reducible refine zif ?_ ?_ | with_reducible exact Or.inl rfl | with_reducible exact Or.inr rfl | with_reducible exact zb_X4_in _ _ _

/-! X4_ten -/
def P_X4_ten (ix : Int32) : Int32 := (if ix = 0 then 1 else (if ix = 1 then 10 else (if ix = 2 then 100 else 1000)))
/-! X4_size -/
def P_X4_size (v : Int32) : Int32 := (if 0 ≤ v then v else (-v))
/-! X4_refused -/
def P_X4_refused (mf : Nat → Int32) (which : Int32) : Int32 × (Nat → Int32) := (if which ≤ 0 then (0, (upd mf 0 which)) else (1, (upd mf 0 which)))
/-! X4_thrown -/
def P_X4_thrown (mf : Nat → Int32) : Int32 := (mf 0)
/-! X4_copyPage -/
def P_X4_copyPage_3 (n1 : Nat) (n2 : Nat) (pf : Nat → Int32) (fa : Int32) (ta : Int32) : Nat → Int32 → (Nat → Int32) → (Nat → Int32)
  | 0, _, _ => (fun _ => 0)
  | n + 1, v4, pt => (if 101 ≤ v4 then pt else (P_X4_copyPage_3 n1 n2 pf fa ta n (v4 + 1) (upd pt (ta + v4).toNatClampNeg (pf (fa + v4).toNatClampNeg))))
def P_X4_copyPage (n1 : Nat) (n2 : Nat) (pf : Nat → Int32) (pt : Nat → Int32) (fa : Int32) (ta : Int32) : (Nat → Int32) := (P_X4_copyPage_3 n1 n2 pf fa ta ((((101 : Int32)).toInt - (0 : Int32).toInt).toNat + 1) 0 pt)
/-! X4_missing -/
def P_X4_missing (pg : Nat → Int32) (oh : Int32) (bx : Int32) : Int32 := (((P_X4_ten (pg 1)) * oh) - ((P_X4_ten (pg 0)) * bx))
/-! X4_divisor -/
def P_X4_divisor (pg : Nat → Int32) (oh : Int32) (bx : Int32) : Int32 := (((P_X4_ten (pg 0)) + (P_X4_ten (pg 1))) * (oh + bx))
/-! X4_unknown -/
def P_X4_unknown (pg : Nat → Int32) : Int32 := (pg (15 + (pg 10)).toNatClampNeg)
