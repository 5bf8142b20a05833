/-! X4_eat -/
def P_X4_eat (mf : Nat → Int32) (tt : Nat → Int32) (ch : Int32) : Int32 × (Nat → Int32) := (if (mf 2) ≤ (mf 3) then (0, (upd mf 3 ((mf 3) + 0))) else (if (tt (mf 3).toNatClampNeg) = ch then (1, (upd mf 3 ((mf 3) + 1))) else (0, (upd mf 3 ((mf 3) + 0)))))
/-! X4_number -/
def P_X4_number_28 (tt : Nat → Int32) (dg : Int32) (lo : Int32) (hi : Int32) : Nat → Int32 → Int32 → (Nat → Int32) → Int32 × (Nat → Int32)
  | 0, _, _, _ => (0, (fun _ => 0))
  | n + 1, v4, v5, mf => (if v4 ≤ 0 then (v5, mf) else (if (mf 2) ≤ (mf 3) then (if (P_X4_in (-9999) 0 9) = 0 then ((-9999), mf) else (if hi < (v5 + ((-9999) * v4)) then ((-9999), mf) else (if lo ≤ (((v5 + ((-9999) * v4)) + v4) - 1) then (P_X4_number_28 tt dg lo hi n (v4 / 10) (v5 + ((-9999) * v4)) (upd mf 3 ((mf 3) + 1))) else ((-9999), mf)))) else (if (P_X4_in ((((tt (mf 3).toNatClampNeg) - 48)).toInt64) 0 9) = 0 then ((-9999), mf) else (if hi < (v5 + (((tt (mf 3).toNatClampNeg) - 48) * v4)) then ((-9999), mf) else (if lo ≤ (((v5 + (((tt (mf 3).toNatClampNeg) - 48) * v4)) + v4) - 1) then (P_X4_number_28 tt dg lo hi n (v4 / 10) (v5 + (((tt (mf 3).toNatClampNeg) - 48) * v4)) (upd mf 3 ((mf 3) + 1))) else ((-9999), mf))))))
def P_X4_number_6 (tt : Nat → Int32) (dg : Int32) (lo : Int32) (hi : Int32) : Nat → Int32 → Int32 → (Nat → Int32) → Int32 × (Nat → Int32)
  | 0, _, _, _ => (0, (fun _ => 0))
  | n + 1, v4, v5, mf => (if dg ≤ v5 then (P_X4_number_28 tt dg lo hi ((v4 : Int32).toInt.toNat + 1) v4 0 mf) else (P_X4_number_6 tt dg lo hi n (v4 * 10) (v5 + 1) mf))
def P_X4_number (mf : Nat → Int32) (tt : Nat → Int32) (dg : Int32) (lo : Int32) (hi : Int32) : Int32 × (Nat → Int32) := (P_X4_number_6 tt dg lo hi (((dg).toInt - (1 : Int32).toInt).toNat + 1) 1 1 mf)
/-! X4_put -/
def P_X4_put (mf : Nat → Int32) (pr : Nat → Int32) (tt : Nat → Int32) (ax : Int32) (dg : Int32) (lo : Int32) (hi : Int32) : Int32 × (Nat → Int32) × (Nat → Int32) := (let u10 := P_X4_number mf tt dg lo hi; (if u10.1 = (-9999) then (0, u10.2, (upd pr ax.toNatClampNeg u10.1)) else (1, u10.2, (upd pr ax.toNatClampNeg u10.1))))
