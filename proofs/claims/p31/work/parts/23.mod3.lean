/-! X4_pairOn -/
def P_X4_pairOn (pg : Nat → Int32) : Int32 × (Nat → Int32) := (let u2 := P_X4_pressOn pg 0; (if (u2.2 11) = 1 then (u2.1, u2.2) else (let u21 := P_X4_pressOn u2.2 1; ((u2.1 - u21.1), u21.2))))
/-! X4_isUnknown -/
def P_X4_isUnknown (pg : Nat → Int32) (i : Int32) : Int32 := (P_X4_in ((i).toInt64) 0 ((((pg 9) - 1)).toInt64))
theorem zb_X4_isUnknown (pg : Nat → Int32) (i : Int32) : P_X4_isUnknown pg i = 0 ∨ P_X4_isUnknown pg i = 1 := by
  unfold P_X4_isUnknown
  repeat' first | with_reducible refine zif ?_ ?_ | with_reducible exact Or.inl rfl | with_reducible exact Or.inr rfl | with_reducible exact zb_X4_in _ _ _

/-! X4_note -/
def P_X4_note_11 (pn : Nat → Int32) : Nat → Int32 → (Nat → Int32) → (Nat → Int32) → (Nat → Int32) × (Nat → Int32)
  | 0, _, _, _ => ((fun _ => 0), (fun _ => 0))
  | n + 1, v1, mf, dd => (if 1313 ≤ v1 then (let u65 := P_X4_copyPage 101 1414 pn dd 0 (101 * ((mf 8) - 1)); ((upd mf 8 (((mf 8) - 1) + 1)), u65)) else (P_X4_note_11 pn n (v1 + 1) mf (upd dd v1.toNatClampNeg (dd (v1 + 101).toNatClampNeg))))
def P_X4_note (mf : Nat → Int32) (pn : Nat → Int32) (dd : Nat → Int32) : (Nat → Int32) × (Nat → Int32) := (if (mf 8) = 14 then (P_X4_note_11 pn ((((1313 : Int32)).toInt - (0 : Int32).toInt).toNat + 1) 0 mf dd) else (let u65 := P_X4_copyPage 101 1414 pn dd 0 (101 * (mf 8)); ((upd mf 8 ((mf 8) + 1)), u65)))
/-! X4_append -/
def P_X4_append (mf : Nat → Int32) (tt : Nat → Int32) (ch : Int32) : Int32 × (Nat → Int32) × (Nat → Int32) := (if (P_X4_in ((ch).toInt64) 0 255) = 0 then (0, (upd mf 0 1), tt) else (if (mf 2) = 60 then (0, (upd mf 0 2), tt) else (((mf 2) + 1), (upd (upd mf 0 0) 2 ((mf 2) + 1)), (upd tt (mf 2).toNatClampNeg ch))))
/-! X4_clearText -/
def P_X4_clearText (mf : Nat → Int32) : Int32 × (Nat → Int32) := ((mf 2), (upd (upd mf 0 0) 2 0))
/-! X4_about -/
def P_X4_about (mf : Nat → Int32) (pn : Nat → Int32) (what : Int32) : Int32 × (Nat → Int32) := (if (P_X4_in ((what).toInt64) 0 15) = 0 then (0, (upd mf 0 1)) else (if 8 ≤ what then (if what = 8 then ((P_X4_offsetOf pn), (upd mf 0 0)) else ((pn (what - 1).toNatClampNeg), (upd mf 0 0))) else ((pn what.toNatClampNeg), (upd mf 0 0))))
/-! X4_told -/
def P_X4_told (mf : Nat → Int32) (pn : Nat → Int32) (j : Int32) (what : Int32) : Int32 × (Nat → Int32) := (let j21 := fun (_ : Unit) => (0, (upd mf 0 1)); (if j < 0 then (j21 ()) else (if (P_X4_in ((what).toInt64) 0 3) = 0 then (j21 ()) else (if (pn 12) ≤ j then ((-9999), (upd mf 0 0)) else ((pn ((21 + (4 * j)) + what).toNatClampNeg), (upd mf 0 0))))))
/-! X4_bridge -/
def P_X4_bridge (mf : Nat → Int32) (pn : Nat → Int32) (what : Int32) : Int32 × (Nat → Int32) := (if (P_X4_in ((what).toInt64) 0 4) = 0 then (0, (upd mf 0 1)) else (if what = 0 then ((P_X4_missing pn (P_X4_unknown pn) (pn 2)), (upd mf 0 0)) else if what = 1 then ((P_X4_divisor pn (P_X4_unknown pn) (pn 2)), (upd mf 0 0)) else if what = 2 then ((P_X4_trueOf pn (pn 2) (pn 4)), (upd mf 0 0)) else if what = 3 then ((P_X4_rawOf pn 0 (pn 4)), (upd mf 0 0)) else ((P_X4_rawOf pn 1 (pn 4)), (upd mf 0 0))))
/-! X4_press -/
def P_X4_press (mf : Nat → Int32) (pn : Nat → Int32) (dd : Nat → Int32) (rv : Int32) : Int32 × (Nat → Int32) × (Nat → Int32) × (Nat → Int32) := (let u8 := P_X4_refused mf (pn 11); (if u8.1 = 0 then (let u17 := P_X4_note u8.2 pn dd; let u25 := P_X4_pressOn pn rv; (u25.1, u17.1, u25.2, u17.2)) else (0, u8.2, pn, dd)))
/-! X4_pair -/
def P_X4_pair (mf : Nat → Int32) (pn : Nat → Int32) (dd : Nat → Int32) : Int32 × (Nat → Int32) × (Nat → Int32) × (Nat → Int32) := (let u8 := P_X4_refused mf (pn 11); (if u8.1 = 0 then (let u17 := P_X4_note u8.2 pn dd; let u24 := P_X4_pairOn pn; (u24.1, u17.1, u24.2, u17.2)) else (0, u8.2, pn, dd)))
/-! X4_pause -/
def P_X4_pause (mf : Nat → Int32) (pn : Nat → Int32) (dd : Nat → Int32) (tk : Int32) : Int32 × (Nat → Int32) × (Nat → Int32) × (Nat → Int32) := (if (P_X4_in ((tk).toInt64) 1 200) = 0 then (0, (upd mf 0 1), pn, dd) else (let u27 := P_X4_note (upd mf 0 0) pn dd; let u35 := P_X4_waitOn pn tk; ((P_X4_offsetOf u35), u27.1, u35, u27.2)))
/-! X4_set -/
def P_X4_set (mf : Nat → Int32) (pn : Nat → Int32) (dd : Nat → Int32) (what : Int32) (v : Int32) : Int32 × (Nat → Int32) × (Nat → Int32) × (Nat → Int32) := (if (P_X4_isSetting what v) = 0 then (0, (upd mf 0 1), pn, dd) else (let u23 := P_X4_note (upd mf 0 0) pn dd; ((pn what.toNatClampNeg), u23.1, (upd pn what.toNatClampNeg v), u23.2)))
/-! X4_choose -/
def P_X4_choose (mf : Nat → Int32) (pn : Nat → Int32) (dd : Nat → Int32) (i : Int32) : Int32 × (Nat → Int32) × (Nat → Int32) × (Nat → Int32) := (if (P_X4_isUnknown pn i) = 0 then (0, (upd mf 0 1), pn, dd) else (let u26 := P_X4_note (upd mf 0 0) pn dd; ((pn 10), u26.1, (upd pn 10 i), u26.2)))
/-! X4_add -/
def P_X4_add (mf : Nat → Int32) (pn : Nat → Int32) (dd : Nat → Int32) (ohms : Int32) : Int32 × (Nat → Int32) × (Nat → Int32) × (Nat → Int32) := (if (P_X4_in ((ohms).toInt64) 1 9999) = 0 then (0, (upd mf 0 1), pn, dd) else (if (pn 9) = 6 then (0, (upd mf 0 2), pn, dd) else (let u43 := P_X4_note (upd mf 0 0) pn dd; (((((upd pn (15 + (pn 9)).toNatClampNeg ohms) 9) + 1) - 1), u43.1, (upd (upd pn (15 + (pn 9)).toNatClampNeg ohms) 9 (((upd pn (15 + (pn 9)).toNatClampNeg ohms) 9) + 1)), u43.2))))
/-! X4_free -/
def P_X4_free (mf : Nat → Int32) (pn : Nat → Int32) (dd : Nat → Int32) : Int32 × (Nat → Int32) × (Nat → Int32) × (Nat → Int32) := (let u6 := P_X4_note (upd mf 0 0) pn dd; let u21 := P_X4_freeOn pn; ((pn 11), u6.1, u21, u6.2))
/-! X4_undo -/
def P_X4_undo (mf : Nat → Int32) (pn : Nat → Int32) (dd : Nat → Int32) : Int32 × (Nat → Int32) × (Nat → Int32) := (if (mf 8) = 0 then (0, (upd mf 0 1), pn) else (let u47 := P_X4_copyPage 1414 101 dd pn (101 * ((mf 8) - 1)) 0; (((mf 8) - 1), (upd (upd mf 0 0) 8 ((mf 8) - 1)), u47)))
/-! X4_value -/
def P_X4_value (mf : Nat → Int32) (pn : Nat → Int32) (lim : Int32) : Int32 × (Nat → Int32) := (if (P_X4_in ((lim).toInt64) 0 2) = 0 then (0, (upd mf 0 1)) else (if lim = 0 then ((((2 * ((P_X4_ten (pn 0)) * (pn 2))) + (P_X4_ten (pn 1))) / (2 * (P_X4_ten (pn 1)))), (upd mf 0 0)) else (if lim = 1 then ((((((P_X4_ten (pn 0)) * (pn 2)) + (P_X4_ten (pn 1))) - 1) / (P_X4_ten (pn 1))), (upd mf 0 0)) else ((((P_X4_ten (pn 0)) * (pn 2)) / (P_X4_ten (pn 1))), (upd mf 0 0)))))
