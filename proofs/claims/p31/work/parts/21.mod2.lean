/-! X4_trueOf -/
def P_X4_trueOf (pg : Nat → Int32) (bx : Int32) (sh : Int32) : Int32 := (((((100000 * ((pg 3)).toInt64) * ((P_X4_missing pg (P_X4_unknown pg) bx)).toInt64) / ((P_X4_divisor pg (P_X4_unknown pg) bx)).toInt64) / ((P_X4_ten sh)).toInt64)).toInt32
/-! X4_offsetOf -/
def P_X4_offsetOf (pg : Nat → Int32) : Int32 := ((pg 5) + (((pg 7) * (pg 6)) / 100))
/-! X4_rawOf -/
def P_X4_rawOf (pg : Nat → Int32) (rv : Int32) (sh : Int32) : Int32 := (let j23 := fun (j23_s0 : Int32) => ((P_X4_offsetOf pg) + j23_s0); (if rv = 0 then (j23 (P_X4_trueOf pg (pg 2) sh)) else (j23 (-(P_X4_trueOf pg (pg 2) sh)))))
/-! X4_pressOn -/
def P_X4_pressOn_41 (rv : Int32) : Nat → Int32 → Int32 → Int32 → (Nat → Int32) → Int32 × (Nat → Int32)
  | 0, _, _, _, _ => (0, (fun _ => 0))
  | n + 1, v2, v3, v4, pg => (if v4 < 25 then (let j81 := fun (j81_s0 : Int32) => (let j120 := fun (j120_s0 : Int32) => (let j148 := fun (j148_s0 : Int32) => (let j165 := fun (j165_s0 : Int32) => (let j183 := fun (j183_s0 : Int32) => (let j215 := fun (j215_s0 : Int32) => (v3, (upd (upd (upd (upd (upd (upd (upd (upd (upd (upd pg 21 v3) 22 j81_s0) 23 (pg 2)) 24 (pg 8)) 12 j120_s0) 13 ((pg 13) + 1)) 14 ((pg 14) + j165_s0)) 11 j183_s0) 7 j215_s0) 8 ((pg 8) + 1))); (if ((pg 7) + (pg 3)) ≤ 9999 then (j215 ((pg 7) + (pg 3))) else (j215 9999))); (if j148_s0 = 0 then (j183 (pg 11)) else (j183 1))); (if j148_s0 = 0 then (j165 0) else (j165 1))); let j143 := fun (_ : Unit) => (j148 1); (if v2 < (-5000) then (j143 ()) else (if v2 ≤ 5000 then (j148 0) else (j143 ())))); (if 20 ≤ (pg 12) then (j120 20) else (j120 ((pg 12) + 1)))); (if rv = 0 then (j81 1) else (j81 (-1)))) else (P_X4_pressOn_41 rv n v2 v3 (v4 + (-1)) (upd pg v4.toNatClampNeg (pg (v4 - 4).toNatClampNeg))))
def P_X4_pressOn (pg : Nat → Int32) (rv : Int32) : Int32 × (Nat → Int32) := (let j36 := fun (j36_s0 : Int32) => (P_X4_pressOn_41 rv (((100 : Int32).toInt - 24).toNat + 1) (P_X4_rawOf pg rv (pg 4)) j36_s0 100 pg); (if (P_X4_rawOf pg rv (pg 4)) ≤ 500 then (if (-500) ≤ (P_X4_rawOf pg rv (pg 4)) then (j36 (P_X4_rawOf pg rv (pg 4))) else (j36 (-500))) else (j36 500)))
/-! X4_waitOn -/
def P_X4_waitOn_2 (tk : Int32) : Nat → Int32 → (Nat → Int32) → (Nat → Int32)
  | 0, _, _ => (fun _ => 0)
  | n + 1, v2, pg => (if tk ≤ v2 then pg else (let j34 := fun (j34_s0 : Int32) => (P_X4_waitOn_2 tk n (v2 + 1) (upd (upd pg 7 j34_s0) 8 ((pg 8) + 1))); (if 0 ≤ ((pg 7) - (((pg 7) / 10) + 1)) then (j34 ((pg 7) - (((pg 7) / 10) + 1))) else (j34 0))))
def P_X4_waitOn (pg : Nat → Int32) (tk : Int32) : (Nat → Int32) := (P_X4_waitOn_2 tk (((tk).toInt - (0 : Int32).toInt).toNat + 1) 0 pg)
/-! X4_freeOn -/
def P_X4_freeOn (pg : Nat → Int32) : (Nat → Int32) := (let u7 := P_X4_waitOn (upd pg 11 0) 5; u7)
