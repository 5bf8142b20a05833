/-! X4_balanceOn -/
def P_X4_balanceOn_14 (K8 : Int32 → (Nat → Int32) → (Nat → Int32)) (v1 : Int32) : Nat → Int32 → (Nat → Int32) → (Nat → Int32)
  | 0, _, _ => (fun _ => 0)
  | n + 1, v2, pg => (let j78 := fun (_ : Unit) => (K8 (v1 / 10) pg); (if v2 = 0 then (j78 ()) else (if 9999 < ((pg 2) + v1) then (j78 ()) else (let u37 := P_X4_pairOn (upd pg 2 ((pg 2) + v1)); (if (u37.2 11) = 1 then u37.2 else (if u37.1 < 0 then (P_X4_balanceOn_14 K8 v1 n 0 (upd u37.2 2 ((u37.2 2) - v1))) else (P_X4_balanceOn_14 K8 v1 n 1 (upd u37.2 2 ((u37.2 2) - 0)))))))))
def P_X4_balanceOn_8  : Nat → Int32 → (Nat → Int32) → (Nat → Int32)
  | 0, _, _ => (fun _ => 0)
  | n + 1, v1, pg => (if v1 ≤ 0 then pg else (P_X4_balanceOn_14 (fun v1' pg' => P_X4_balanceOn_8  n v1' pg') v1 ((if (1 : Int32) = 0 then 0 else (10000 - (pg 2).toInt).toNat) + 1) 1 pg))
def P_X4_balanceOn (pg : Nat → Int32) : (Nat → Int32) := (P_X4_balanceOn_8  ((1000 : Int32).toInt.toNat + 1) 1000 (upd pg 2 0))
/-! X4_balance -/
def P_X4_balance (mf : Nat → Int32) (pn : Nat → Int32) (dd : Nat → Int32) : Int32 × (Nat → Int32) × (Nat → Int32) × (Nat → Int32) := (let u8 := P_X4_refused mf (pn 11); (if u8.1 = 0 then (let u17 := P_X4_note u8.2 pn dd; let u24 := P_X4_balanceOn pn; ((u24 2), u17.1, u24, u17.2)) else (0, u8.2, pn, dd)))
/-! X4_bestR -/
def P_X4_bestR_29 (pn : Nat → Int32) (i : Int32) : Nat → Int32 → Int32 → (Nat → Int32) → Int32 × (Nat → Int32)
  | 0, _, _, _ => (0, (fun _ => 0))
  | n + 1, v2, v3, mf => (if 9999 < v3 then (v2, mf) else (let j84 := fun (j84_s0 : Int32) => (P_X4_bestR_29 pn i n j84_s0 (v3 + 1) mf); (if (P_X4_size (P_X4_missing pn (pn (15 + i).toNatClampNeg) v2)) ≤ (P_X4_size (P_X4_missing pn (pn (15 + i).toNatClampNeg) v3)) then (j84 v2) else (j84 v3))))
def P_X4_bestR (mf : Nat → Int32) (pn : Nat → Int32) (i : Int32) : Int32 × (Nat → Int32) := (if (P_X4_isUnknown pn i) = 0 then (0, (upd mf 0 1)) else (P_X4_bestR_29 pn i ((10000 - (1 : Int32).toInt).toNat + 1) 0 1 (upd mf 0 0)))
/-! X4_bestArms -/
def P_X4_bestArms_35 (pn : Nat → Int32) (i : Int32) : Nat → Int32 → Int32 → Int32 → (Nat → Int32) → Int32 × (Nat → Int32)
  | 0, _, _, _, _ => (0, (fun _ => 0))
  | n + 1, v2, v3, v4, mf => (if 16 ≤ v4 then (v2, mf) else (let j86 := fun (j86_s0 : Int32) => (let j117 := fun (j117_2 : Int32) (j117_3 : Int32) => (P_X4_bestArms_35 pn i n j117_2 j117_3 (v4 + 1) mf); (if j86_s0 = 0 then (j117 v2 v3) else (if ((v4 - v4 / 4 * 4) - (v4 / 4)) ≤ v3 then (j117 v2 v3) else (j117 ((10 * (v4 / 4)) + (v4 - v4 / 4 * 4)) ((v4 - v4 / 4 * 4) - (v4 / 4)))))); (if (9999 * (P_X4_ten (v4 / 4))) < ((pn (15 + i).toNatClampNeg) * (P_X4_ten (v4 - v4 / 4 * 4))) then (j86 0) else (j86 1))))
def P_X4_bestArms (mf : Nat → Int32) (pn : Nat → Int32) (i : Int32) : Int32 × (Nat → Int32) := (if (P_X4_isUnknown pn i) = 0 then (0, (upd mf 0 1)) else (P_X4_bestArms_35 pn i ((((16 : Int32)).toInt - (0 : Int32).toInt).toNat + 1) (-9999) (-9) 0 (upd mf 0 0)))
/-! X4_enoughShunt -/
def P_X4_enoughShunt_7 (pn : Nat → Int32) : Nat → Int32 → (Nat → Int32) → Int32 × (Nat → Int32)
  | 0, _, _ => (0, (fun _ => 0))
  | n + 1, v1, mf => (if 4 ≤ v1 then ((-9999), mf) else (let j50 := fun (_ : Unit) => (P_X4_enoughShunt_7 pn n (v1 + 1) mf); (if 500 < (P_X4_size (P_X4_rawOf pn 0 v1)) then (j50 ()) else (if 500 < (P_X4_size (P_X4_rawOf pn 1 v1)) then (j50 ()) else (v1, mf)))))
def P_X4_enoughShunt (mf : Nat → Int32) (pn : Nat → Int32) : Int32 × (Nat → Int32) := (P_X4_enoughShunt_7 pn ((((4 : Int32)).toInt - (0 : Int32).toInt).toNat + 1) 0 (upd mf 0 0))
/-! X4_sensitivity -/
def P_X4_sensitivity (mf : Nat → Int32) (pn : Nat → Int32) : Int32 × (Nat → Int32) := (let j67 := fun (j67_s0 : Int32) => (let j107 := fun (j107_s0 : Int32) => (if j67_s0 ≤ j107_s0 then (j107_s0, (upd mf 0 0)) else (j67_s0, (upd mf 0 0))); (if (pn 2) ≤ 0 then (j107 0) else (j107 (P_X4_size ((P_X4_trueOf pn ((pn 2) - 1) (pn 4)) - (P_X4_trueOf pn (pn 2) (pn 4))))))); (if 9999 ≤ (pn 2) then (j67 0) else (j67 (P_X4_size ((P_X4_trueOf pn ((pn 2) + 1) (pn 4)) - (P_X4_trueOf pn (pn 2) (pn 4)))))))
/-! X4_offsetAfter -/
def P_X4_offsetAfter_53 (pn : Nat → Int32) (pr : Int32) (wt : Int32) : Nat → Int32 → (Nat → Int32) → (Nat → Int32) → Int32 × (Nat → Int32) × (Nat → Int32)
  | 0, _, _, _ => (0, (fun _ => 0), (fun _ => 0))
  | n + 1, v3, mf, pt => (if pr ≤ v3 then (let u116 := P_X4_waitOn pt wt; ((P_X4_offsetOf u116), mf, u116)) else (let j104 := fun (j104_s0 : Int32) => (P_X4_offsetAfter_53 pn pr wt n (v3 + 1) mf (upd pt 7 j104_s0)); (if ((pt 7) + (pt 3)) ≤ 9999 then (j104 ((pt 7) + (pt 3))) else (j104 9999))))
def P_X4_offsetAfter (mf : Nat → Int32) (pn : Nat → Int32) (pt : Nat → Int32) (pr : Int32) (wt : Int32) : Int32 × (Nat → Int32) × (Nat → Int32) := (let j29 := fun (_ : Unit) => (0, (upd mf 0 1), pt); (if (P_X4_in ((pr).toInt64) 0 99) = 0 then (j29 ()) else (if (P_X4_in ((wt).toInt64) 0 200) = 0 then (j29 ()) else (let u48 := P_X4_copyPage 101 101 pn pt 0 0; (P_X4_offsetAfter_53 pn pr wt (((pr).toInt - (0 : Int32).toInt).toNat + 1) 0 (upd mf 0 0) u48)))))
/-! X4_waitFor -/
def P_X4_waitFor_43 (pn : Nat → Int32) (off : Int32) : Nat → Int32 → (Nat → Int32) → (Nat → Int32) → Int32 × (Nat → Int32) × (Nat → Int32)
  | 0, _, _, _ => (0, (fun _ => 0), (fun _ => 0))
  | n + 1, v2, mf, pt => (if 200 < v2 then ((-9999), mf, pt) else (if off < (P_X4_offsetOf pt) then (let u68 := P_X4_waitOn pt 1; (P_X4_waitFor_43 pn off n (v2 + 1) mf u68)) else (v2, mf, pt)))
def P_X4_waitFor (mf : Nat → Int32) (pn : Nat → Int32) (pt : Nat → Int32) (off : Int32) : Int32 × (Nat → Int32) × (Nat → Int32) := (if (P_X4_in ((off).toInt64) (-50) 300) = 0 then (0, (upd mf 0 1), pt) else (let u38 := P_X4_copyPage 101 101 pn pt 0 0; (P_X4_waitFor_43 pn off ((201 - (0 : Int32).toInt).toNat + 1) 0 (upd mf 0 0) u38)))
/-! X4_save -/
def P_X4_save (mf : Nat → Int32) (pn : Nat → Int32) (kk : Nat → Int32) (ki : Nat → Int32) (sl : Int32) : Int32 × (Nat → Int32) × (Nat → Int32) × (Nat → Int32) := (if (P_X4_in ((sl).toInt64) 0 1) = 0 then (0, (upd mf 0 1), kk, ki) else (let u44 := P_X4_copyPage 101 202 pn kk 0 (101 * sl); ((pn 8), (upd mf 0 0), u44, (upd ki sl.toNatClampNeg 1))))
/-! X4_restore -/
def P_X4_restore (mf : Nat → Int32) (pn : Nat → Int32) (kk : Nat → Int32) (ki : Nat → Int32) (sl : Int32) : Int32 × (Nat → Int32) × (Nat → Int32) := (if (P_X4_in ((sl).toInt64) 0 1) = 0 then (0, (upd mf 0 1), pn) else (if (ki sl.toNatClampNeg) = 0 then (0, (upd mf 0 2), pn) else (let u50 := P_X4_copyPage 202 101 kk pn (101 * sl) 0; ((u50 8), (upd (upd mf 0 0) 8 0), u50))))
/-! X4_balanced -/
def P_X4_balanced (mf : Nat → Int32) (pn : Nat → Int32) (pt : Nat → Int32) (what : Int32) : Int32 × (Nat → Int32) × (Nat → Int32) := (if (P_X4_in ((what).toInt64) 0 3) = 0 then (0, (upd mf 0 1), pt) else (let u36 := P_X4_copyPage 101 101 pn pt 0 0; let u51 := P_X4_balanceOn (upd u36 11 0); (if what = 0 then ((u51 2), (upd mf 0 0), u51) else (if what = 1 then (((u51 13) - (pn 13)), (upd mf 0 0), u51) else (if what = 2 then ((u51 7), (upd mf 0 0), u51) else ((u51 11), (upd mf 0 0), u51))))))
/-! X4_does -/
def P_X4_does_87 (mf : Nat → Int32) (how : Int32) (four : Int32) : Nat → Int32 → Int32 → Int32 → (Nat → Int32) → Int32 × (Nat → Int32)
  | 0, _, _, _, _ => (0, (fun _ => 0))
  | n + 1, v3, v4, v5, pt => (if v4 ≤ v5 then (1, pt) else (if (pt 11) = 1 then (0, pt) else (let j121 := fun (j121_s0 : Int32) => (let u121 := P_X4_pressOn pt j121_s0; (P_X4_does_87 mf how four n v3 v4 (v5 + 1) u121.2)); (if v3 = 1 then (j121 1) else (j121 0)))))
def P_X4_does (mf : Nat → Int32) (pt : Nat → Int32) (how : Int32) (four : Int32) : Int32 × (Nat → Int32) := (if how = 1 then (if 1 < (four / 1000) then (0, pt) else (if (P_X4_in (((four - four / 1000 * 1000)).toInt64) 1 99) = 0 then (0, pt) else (P_X4_does_87 mf how four ((((four - four / 1000 * 1000)).toInt - (0 : Int32).toInt).toNat + 1) (four / 1000) (four - four / 1000 * 1000) 0 pt))) else if how = 2 then (if (four / 1000) = 0 then (if (P_X4_in (((four - four / 1000 * 1000)).toInt64) 1 200) = 0 then (0, pt) else (let u158 := P_X4_waitOn pt (four - four / 1000 * 1000); (1, u158))) else (0, pt)) else if how = 3 then (1, (upd pt 2 four)) else if how = 4 then (if (four / 1000) = 2 then (0, pt) else (if 99 < (four - four / 1000 * 1000) then (0, pt) else (if (P_X4_isSetting (four / 1000) (four - four / 1000 * 1000)) = 0 then (0, pt) else (1, (upd pt (four / 1000).toNatClampNeg (four - four / 1000 * 1000)))))) else if how = 5 then (if (four - four / 1000 * 1000) = 0 then (if (P_X4_isUnknown pt (four / 1000)) = 0 then (0, pt) else (1, (upd pt 10 (four / 1000)))) else (0, pt)) else if how = 6 then (if four = 0 then (if (pt 11) = 1 then (0, pt) else (let u254 := P_X4_balanceOn pt; (1, u254))) else (0, pt)) else if how = 7 then (if (pt 2) = four then (1, pt) else (0, pt)) else if how = 8 then (if 2 ≤ (four / 1000) then (0, pt) else (if (pt 12) ≤ 0 then (0, pt) else (let j309 := fun (j309_s0 : Int32) => (if (pt 21) = j309_s0 then (1, pt) else (0, pt)); (if (four / 1000) = 0 then (j309 (four - four / 1000 * 1000)) else (j309 (-(four - four / 1000 * 1000))))))) else if how = 9 then (if 2 ≤ (four / 1000) then (0, pt) else (if 100 ≤ (four - four / 1000 * 1000) then (0, pt) else (let j349 := fun (j349_s0 : Int32) => (if j349_s0 < (P_X4_offsetOf pt) then (0, pt) else (1, pt)); (if (four / 1000) = 0 then (j349 (four - four / 1000 * 1000)) else (j349 (-(four - four / 1000 * 1000))))))) else (0, pt))
