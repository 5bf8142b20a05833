/-! a bridge by its text, its page, what it remembers, what it keeps -/
def HS (mf dd : Pg) (hs : List Pg) : Prop := (mf 8).toInt = hs.length ∧ ∀ (i : Nat) (q : Pg), hs[i]? = some q → ∀ j : Nat, j < 101 → dd (101 * i + j) = q j
def KS (ki kk : Pg) (s : Nat) (k : Option Pg) : Prop := (k = none → ki s = 0) ∧ ∀ q : Pg, k = some q → (¬ ki s = 0) ∧ ∀ j : Nat, j < 101 → kk (101 * s + j) = q j
def JV (bf tf tc f oh lf ce ff : Pg) (C : Nat → ct4) (n : Int32) (tt pg : Pg) (hs : List Pg) (k0 k1 : Option Pg) : Prop := ∃ mf dd kk ki : Pg, INV bf tf tc f oh lf ce ff C mf tt pg dd kk ki ∧ tc = tt ∧ mf 2 = n ∧ HS mf dd hs ∧ KS ki kk 0 k0 ∧ KS ki kk 1 k1
def JNV (x : XT) (n : Int32) (tt pg : Pg) (hs : List Pg) (k0 k1 : Option Pg) : Prop := JV x.1 x.2.1 x.2.2.1 x.2.2.2.1.1 x.2.2.2.1.2.1 x.2.2.2.1.2.2.1 x.2.2.2.1.2.2.2 x.2.2.2.2.2.1 x.2.2.2.2.2.2 n tt pg hs k0 k1
def push (hs : List Pg) (pg : Pg) : List Pg := (if hs.length = 14 then hs.tail else hs) ++ [pg]
theorem hs_note {mf dd pg : Pg} {hs : List Pg} (h : HS mf dd hs) (hab : AB (mf 8)) : HS (P_X4_note (upd mf 0 0) pg dd).1 (P_X4_note (upd mf 0 0) pg dd).2 (push hs pg) := by
  obtain ⟨n1, n2, n3⟩ := note_i (mf := upd mf 0 0) hab pg dd
  have e8 : (upd mf 0 0) 8 = mf 8 := rfl
  rw [e8] at n1 n3
  obtain ⟨h8, hd⟩ := h
  rw [h8] at n1 n3
  have l14 : hs.length ≤ 14 := by have := hab.2; omega
  unfold push
  by_cases c : hs.length = 14
  · have c' : (hs.length : Int) = 14 := by omega
    rw [if_pos c'] at n1
    have n3 := n3
    simp only [if_pos c'] at n3
    rw [if_pos c]
    have lt : hs.tail.length = 13 := by rw [List.length_tail]; omega
    refine ⟨by rw [n1, List.length_append, lt]; rfl, fun i q hq j hj => ?_⟩
    by_cases ci : i < 13
    · rw [List.getElem?_append_left (by omega), List.getElem?_tail] at hq
      rw [n3 i j hj (by omega), if_neg (by omega)]
      exact hd (i + 1) q hq j hj
    · rw [List.getElem?_append_right (by omega), lt] at hq
      have ei : i = 13 := by
        have := (List.getElem?_eq_some_iff.mp hq).1
        simp at this
        omega
      subst ei
      have eq : pg = q := by simpa using hq
      rw [n3 13 j hj (by omega), if_pos (by omega), eq]
  · have c' : ¬ (hs.length : Int) = 14 := by omega
    rw [if_neg c'] at n1
    have n3 := n3
    simp only [if_neg c'] at n3
    rw [if_neg c]
    refine ⟨by rw [n1, List.length_append]; simp, fun i q hq j hj => ?_⟩
    by_cases ci : i < hs.length
    · rw [List.getElem?_append_left ci] at hq
      rw [n3 i j hj (by omega), if_neg (by omega)]
      exact hd i q hq j hj
    · rw [List.getElem?_append_right (by omega)] at hq
      have ei : i = hs.length := by
        have := (List.getElem?_eq_some_iff.mp hq).1
        simp at this
        omega
      subst ei
      have eq : pg = q := by simpa using hq
      rw [n3 hs.length j hj (by omega), if_pos (by omega), eq]
theorem note_0 {mf dd pg : Pg} (hab : AB (mf 8)) : (P_X4_note (upd mf 0 0) pg dd).1 0 = 0 := (note_i (mf := upd mf 0 0) hab pg dd).2.1 0 (by decide)
theorem note_2 {mf dd pg : Pg} (hab : AB (mf 8)) : (P_X4_note (upd mf 0 0) pg dd).1 2 = mf 2 := (note_i (mf := upd mf 0 0) hab pg dd).2.1 2 (by decide)
theorem hm_z {e1 q : Int32} (h : hm e1 q = 0) : q = 0 := by
  unfold hm at h
  by_cases c : q = 0
  · exact c
  · rw [if_neg c] at h
    by_cases c2 : q = e1
    · rw [if_pos c2] at h; exact absurd h (by decide)
    · rw [if_neg c2] at h; exact absurd h (by decide)
theorem hm_e {e1 q : Int32} (h : hm e1 q = 1) : q = e1 := by
  unfold hm at h
  by_cases c : q = 0
  · rw [if_pos c] at h; exact absurd h (by decide)
  · rw [if_neg c] at h
    by_cases c2 : q = e1
    · exact c2
    · rw [if_neg c2] at h; exact absurd h (by decide)
theorem hm_f {e1 q : Int32} (h : hm e1 q = 2) : ¬ q = 0 ∧ ¬ q = e1 := by
  unfold hm at h
  by_cases c : q = 0
  · rw [if_pos c] at h; exact absurd h (by decide)
  · rw [if_neg c] at h
    by_cases c2 : q = e1
    · rw [if_pos c2] at h; exact absurd h (by decide)
    · exact ⟨c, c2⟩
section JVS
variable {bf tf tc f oh lf ce ff : Pg} {C : Nat → ct4} {n : Int32} {tt pg : Pg} {hs : List Pg} {k0 k1 : Option Pg} {mf dd kk ki : Pg}
theorem inv_pg {q : Pg} (I : INV bf tf tc f oh lf ce ff C mf tt pg dd kk ki) (h : ∀ j, j < 101 → q j = pg j) : INV bf tf tc f oh lf ce ff C mf tt q dd kk ki := ⟨I.1, sr_pg I.2.1 h, I.2.2⟩
theorem JV.sr (h : JV bf tf tc f oh lf ce ff C n tt pg hs k0 k1) : SR f oh lf ce pg := by
  obtain ⟨mf, dd, kk, ki, I, -⟩ := h
  exact I.2.1
theorem jn_ok {bf' tf' f' oh' lf' ce' ff' : Pg} {C' : Nat → ct4} {pg' : Pg} (hab : AB (mf 8)) (e1 : tc = tt) (e2 : mf 2 = n) (H8 : HS mf dd hs) (K0 : KS ki kk 0 k0) (K1 : KS ki kk 1 k1) (I : INV bf' tf' tc f' oh' lf' ce' ff' C' (P_X4_note (upd mf 0 0) pg dd).1 tt pg' (P_X4_note (upd mf 0 0) pg dd).2 kk ki) : JV bf' tf' tc f' oh' lf' ce' ff' C' n tt pg' (push hs pg) k0 k1 :=
  ⟨_, _, kk, ki, I, e1, (note_2 hab).trans e2, hs_note H8 hab, K0, K1⟩
end JVS
section XE
variable {mf pg dd kk ki pt : Pg}
theorem xe_press {rv : Int32} (h : pg 11 = 0) : P_X4_press mf pg dd rv = ((P_X4_pressOn pg rv).1, (P_X4_note (upd mf 0 0) pg dd).1, (P_X4_pressOn pg rv).2, (P_X4_note (upd mf 0 0) pg dd).2) := by
  unfold P_X4_press
  rw [h, ref_0]
  rfl
theorem xn_press {rv : Int32} (h : pg 11 = 1) : P_X4_press mf pg dd rv = (0, upd mf 0 1, pg, dd) := by
  unfold P_X4_press
  rw [h, ref_1]
  rfl
theorem xe_pair (h : pg 11 = 0) : P_X4_pair mf pg dd = ((P_X4_pairOn pg).1, (P_X4_note (upd mf 0 0) pg dd).1, (P_X4_pairOn pg).2, (P_X4_note (upd mf 0 0) pg dd).2) := by
  unfold P_X4_pair
  rw [h, ref_0]
  rfl
theorem xn_pair (h : pg 11 = 1) : P_X4_pair mf pg dd = (0, upd mf 0 1, pg, dd) := by
  unfold P_X4_pair
  rw [h, ref_1]
  rfl
theorem xe_balance (h : pg 11 = 0) : P_X4_balance mf pg dd = ((P_X4_balanceOn pg) 2, (P_X4_note (upd mf 0 0) pg dd).1, P_X4_balanceOn pg, (P_X4_note (upd mf 0 0) pg dd).2) := by
  unfold P_X4_balance
  rw [h, ref_0]
  rfl
theorem xn_balance (h : pg 11 = 1) : P_X4_balance mf pg dd = (0, upd mf 0 1, pg, dd) := by
  unfold P_X4_balance
  rw [h, ref_1]
  rfl
theorem xe_pause {tk : Int32} (h : ¬ P_X4_in tk.toInt64 1 200 = 0) : P_X4_pause mf pg dd tk = (P_X4_offsetOf (P_X4_waitOn pg tk), (P_X4_note (upd mf 0 0) pg dd).1, P_X4_waitOn pg tk, (P_X4_note (upd mf 0 0) pg dd).2) := if_neg h
theorem xn_pause {tk : Int32} (h : P_X4_in tk.toInt64 1 200 = 0) : P_X4_pause mf pg dd tk = (0, upd mf 0 1, pg, dd) := if_pos h
theorem xe_set {w v : Int32} (h : ¬ P_X4_isSetting w v = 0) : P_X4_set mf pg dd w v = (pg w.toNatClampNeg, (P_X4_note (upd mf 0 0) pg dd).1, upd pg w.toNatClampNeg v, (P_X4_note (upd mf 0 0) pg dd).2) := if_neg h
theorem xn_set {w v : Int32} (h : P_X4_isSetting w v = 0) : P_X4_set mf pg dd w v = (0, upd mf 0 1, pg, dd) := if_pos h
theorem xe_choose {i : Int32} (h : ¬ P_X4_isUnknown pg i = 0) : P_X4_choose mf pg dd i = (pg 10, (P_X4_note (upd mf 0 0) pg dd).1, upd pg 10 i, (P_X4_note (upd mf 0 0) pg dd).2) := if_neg h
theorem xn_choose {i : Int32} (h : P_X4_isUnknown pg i = 0) : P_X4_choose mf pg dd i = (0, upd mf 0 1, pg, dd) := if_pos h
theorem xe_add {o : Int32} (h : ¬ P_X4_in o.toInt64 1 9999 = 0) (h2 : ¬ pg 9 = 6) : P_X4_add mf pg dd o = ((((upd pg (15 + (pg 9)).toNatClampNeg o) 9) + 1) - 1, (P_X4_note (upd mf 0 0) pg dd).1, upd (upd pg (15 + (pg 9)).toNatClampNeg o) 9 (((upd pg (15 + (pg 9)).toNatClampNeg o) 9) + 1), (P_X4_note (upd mf 0 0) pg dd).2) := (if_neg h).trans (if_neg h2)
theorem xn_add {o : Int32} (h : P_X4_in o.toInt64 1 9999 = 0) : P_X4_add mf pg dd o = (0, upd mf 0 1, pg, dd) := if_pos h
theorem xm_add {o : Int32} (h : ¬ P_X4_in o.toInt64 1 9999 = 0) (h2 : pg 9 = 6) : P_X4_add mf pg dd o = (0, upd mf 0 2, pg, dd) := (if_neg h).trans (if_pos h2)
theorem xe_undo (h : ¬ mf 8 = 0) : P_X4_undo mf pg dd = (mf 8 - 1, upd (upd mf 0 0) 8 (mf 8 - 1), P_X4_copyPage 1414 101 dd pg (101 * (mf 8 - 1)) 0) := if_neg h
theorem xn_undo (h : mf 8 = 0) : P_X4_undo mf pg dd = (0, upd mf 0 1, pg) := if_pos h
theorem xe_save {s : Int32} (h : ¬ P_X4_in s.toInt64 0 1 = 0) : P_X4_save mf pg kk ki s = (pg 8, upd mf 0 0, P_X4_copyPage 101 202 pg kk 0 (101 * s), upd ki s.toNatClampNeg 1) := if_neg h
theorem xn_save {s : Int32} (h : P_X4_in s.toInt64 0 1 = 0) : P_X4_save mf pg kk ki s = (0, upd mf 0 1, kk, ki) := if_pos h
theorem xe_restore {s : Int32} (h : ¬ P_X4_in s.toInt64 0 1 = 0) (h2 : ¬ ki s.toNatClampNeg = 0) : P_X4_restore mf pg kk ki s = (P_X4_copyPage 202 101 kk pg (101 * s) 0 8, upd (upd mf 0 0) 8 0, P_X4_copyPage 202 101 kk pg (101 * s) 0) := (if_neg h).trans (if_neg h2)
theorem xn_restore {s : Int32} (h : P_X4_in s.toInt64 0 1 = 0) : P_X4_restore mf pg kk ki s = (0, upd mf 0 1, pg) := if_pos h
theorem xm_restore {s : Int32} (h : ¬ P_X4_in s.toInt64 0 1 = 0) (h2 : ki s.toNatClampNeg = 0) : P_X4_restore mf pg kk ki s = (0, upd mf 0 2, pg) := (if_neg h).trans (if_pos h2)
theorem xe_free : P_X4_free mf pg dd = (pg 11, (P_X4_note (upd mf 0 0) pg dd).1, P_X4_freeOn pg, (P_X4_note (upd mf 0 0) pg dd).2) := rfl
end XE
/-- what a query answers, of the model's answer and its mark -/
def aQ (e : Int32) (v : Int32 × Pg) : Int32 := if v.2 0 = 0 then v.1 else rz e 0
def aT (e : Int32) (v : Int32 × Pg × Pg) : Int32 := if v.2.1 0 = 0 then v.1 else rz e 0
theorem aQ_of {e t r v1 : Int32} {q : Pg} (he : ¬ e = 0) (h : QM e t v1 r q z0) : rz t r = aQ e (v1, q) := by
  obtain ⟨h1, h2, h3⟩ := h
  unfold aQ
  show rz t r = if q 0 = 0 then v1 else rz e 0
  have e0 : q 0 = hm e t := congrFun h2 0
  rw [e0]
  rcases h1 with c | c
  · subst c
    rw [if_pos (hm_0 e), ← h3 rfl]
    rfl
  · subst c
    rw [hm_1 he, if_neg (by decide)]
    unfold rz
    rw [if_neg he, if_neg he]
/-! the text -/
theorem ap_eq {bf tf tc mf : Pg} (h : TR tf tc mf tc) {c : Int32} (hc : 0 ≤ c.toInt ∧ c.toInt ≤ 255) (hn : (mf 2).toInt < 60) : P_X3_append bf tf tc c = (0, mf 2 + 1, upd tf 1 (mf 2 + 1), upd tc (mf 2).toNatClampNeg c) := by
  obtain ⟨h1, ⟨h2, h3⟩, h4, h5⟩ := id h
  have z60 : (60 : Int32).toInt = 60 := by decide
  have z0 : (0 : Int32).toInt = 0 := by decide
  have z255 : (255 : Int32).toInt = 255 := by decide
  have z1 : (1 : Int32).toInt = 1 := by decide
  have a1 := toI_add (a := mf 2) (b := 1) (by omega) (by omega)
  have ce : ((c.toUInt32 % 65536).toInt32) = c := chr_i ⟨by omega, by omega⟩
  have E : P_X2_put tf tc ((c.toUInt32 % 65536).toInt32) = (upd tf 1 (tf 1 + 1), upd tc (tf 1).toNatClampNeg c) := by
    unfold P_X2_put
    rw [ce, if_neg (by rw [Int32.lt_iff_toInt_lt, h1]; omega), if_neg (by rw [Int32.le_iff_toInt_le, h1]; omega)]
  have Eo : P_X3_outside c 0 255 = 0 := by
    unfold P_X3_outside
    rw [if_neg (by rw [Int32.lt_iff_toInt_lt]; omega), if_pos (by rw [Int32.le_iff_toInt_le]; omega)]
  unfold P_X3_append
  rw [if_pos Eo, if_pos (by rw [Int32.lt_iff_toInt_lt, h1]; omega), E, h1]
  show (0, upd tf 1 (mf 2 + 1) 1, upd tf 1 (mf 2 + 1), upd tc (mf 2).toNatClampNeg c) = _
  rw [upd_me]
theorem tr_app {tf tc mf : Pg} (h : TR tf tc mf tc) {c : Int32} (hc : 0 ≤ c.toInt ∧ c.toInt ≤ 255) (hn : (mf 2).toInt < 60) : TR (upd tf 1 (mf 2 + 1)) (upd tc (mf 2).toNatClampNeg c) (upd mf 2 (mf 2 + 1)) (upd tc (mf 2).toNatClampNeg c) := by
  obtain ⟨h1, ⟨h2, h3⟩, h4, h5⟩ := id h
  have z1 : (1 : Int32).toInt = 1 := by decide
  have a1 := toI_add (a := mf 2) (b := 1) (by omega) (by omega)
  refine ⟨by rw [upd_me, upd_me], ?_, fun j _ => rfl, fun j => ?_⟩
  · rw [upd_me]
    exact ⟨by omega, by omega⟩
  · by_cases q : j = (mf 2).toNatClampNeg
    · subst q; rw [upd_me]; exact hc
    · rw [upd_o q]; exact h5 j
theorem tr_clr {tf tc mf : Pg} (h : TR tf tc mf tc) : TR (upd tf 1 0) tc (upd mf 2 0) tc := by
  obtain ⟨h1, ⟨h2, h3⟩, h4, h5⟩ := id h
  refine ⟨by rw [upd_me, upd_me], ?_, fun j _ => rfl, h5⟩
  rw [upd_me]
  exact ⟨by decide, by decide⟩
/-- pages that say the same of a bridge with an empty ledger -/
theorem sr_same {f oh lf ce pg q : Pg} (h : SR f oh lf ce pg) (h12 : pg 12 = 0) (hq : ∀ j : Nat, j < 15 → q j = pg j) (hx : ∀ i : Nat, (i : Int) < (pg 9).toInt → q (15 + i) = pg (15 + i)) : SR f oh lf ce q := by
  obtain ⟨a, ⟨e9, e10, e11, e12, e13, e14⟩, b, ⟨d1, d2⟩, ⟨p9, p10, px, p2, p12⟩, r3, r5, r6, r7, r11⟩ := h
  have z0 : (0 : Int32).toInt = 0 := by decide
  refine ⟨fun j hj => by rw [hq j (by omega)]; exact a j hj, ⟨by rw [hq 9 (by decide)]; exact e9, by rw [hq 10 (by decide)]; exact e10, by rw [hq 11 (by decide)]; exact e11, by rw [hq 12 (by decide)]; exact e12, by rw [hq 13 (by decide)]; exact e13, by rw [hq 14 (by decide)]; exact e14⟩, fun i hi => ?_, ⟨d1, fun j w hj hw => ?_⟩, ⟨by rw [hq 9 (by decide)]; exact p9, by rw [hq 9 (by decide), hq 10 (by decide)]; exact p10, fun i hi => ?_, by rw [hq 2 (by decide)]; exact p2, by rw [hq 12 (by decide)]; exact p12⟩, by rw [hq 3 (by decide)]; exact r3, by rw [hq 5 (by decide)]; exact r5, by rw [hq 6 (by decide)]; exact r6, by rw [hq 7 (by decide)]; exact r7, by rw [hq 11 (by decide)]; exact r11⟩
  · rw [hx i (by rw [e9]; exact hi)]; exact b i hi
  · rw [← e12, h12] at hj
    omega
  · rw [hq 9 (by decide)] at hi
    rw [hx i hi]; exact px i hi
theorem pg_uni {T : Nat → Int} {K : Nat} {a b f oh lf ce : Pg} (ha : PG T K a) (hb : PG T K b) (h : SR f oh lf ce b) : SR f oh lf ce a := by
  obtain ⟨⟨a0, a1, a2, a3, a4, a5, a6⟩, ax, a9, a7, a8, a10, a11, a12, a13, a14⟩ := ha
  obtain ⟨⟨b0, b1, b2, b3, b4, b5, b6⟩, bx, b9, b7, b8, b10, b11, b12, b13, b14⟩ := hb
  refine sr_same h b12 (fun j hj => ?_) (fun i hi => ?_)
  · match j, hj with
    | 0, _ => exact Int32.toInt_inj.mp (a0.trans b0.symm)
    | 1, _ => exact Int32.toInt_inj.mp (a1.trans b1.symm)
    | 2, _ => exact Int32.toInt_inj.mp (a2.trans b2.symm)
    | 3, _ => exact Int32.toInt_inj.mp (a3.trans b3.symm)
    | 4, _ => exact Int32.toInt_inj.mp (a4.trans b4.symm)
    | 5, _ => exact Int32.toInt_inj.mp (a5.trans b5.symm)
    | 6, _ => exact Int32.toInt_inj.mp (a6.trans b6.symm)
    | 7, _ => exact a7.trans b7.symm
    | 8, _ => exact a8.trans b8.symm
    | 9, _ => exact Int32.toInt_inj.mp (a9.trans b9.symm)
    | 10, _ => exact a10.trans b10.symm
    | 11, _ => exact a11.trans b11.symm
    | 12, _ => exact a12.trans b12.symm
    | 13, _ => exact a13.trans b13.symm
    | 14, _ => exact a14.trans b14.symm
  · have hK : i < K := by omega
    exact Int32.toInt_inj.mp ((ax i hK).trans (bx i hK).symm)
theorem jnv_pg {x : XT} {n : Int32} {tt a b : Pg} {hs : List Pg} {k0 k1 : Option Pg} {T : Nat → Int} {K : Nat} (ha : PG T K a) (hb : PG T K b) (h : JNV x n tt b hs k0 k1) : JNV x n tt a hs k0 k1 := by
  obtain ⟨mf, dd, kk, ki, I, r⟩ := h
  exact ⟨mf, dd, kk, ki, ⟨I.1, pg_uni ha hb I.2.1, I.2.2⟩, r⟩
theorem pw_outr {G : gG} {Q : Nat → qd} {C : Nat → ct4} {k : Nat} (hk : k < 16) (fx wr : va_W) : (fx ++ (pw G Q C (List.range 16) ++ wr)).Perm (fx ++ (bun G (Q k) (C k).1 (C k).2.1 (C k).2.2.1 (C k).2.2.2 ++ (pw G Q C (pr16 k) ++ wr))) := by
  have h := (pw_out (G := G) (Q := Q) (C := C) hk fx).append_right wr
  rw [List.append_assoc, List.append_assoc, List.append_assoc] at h
  exact h
theorem pw_inr {G : gG} {Q : Nat → qd} {C : Nat → ct4} {k : Nat} (hk : k < 16) (fx : va_W) (x1 x2 x3 x4 : Pg) (wr : va_W) : (fx ++ (bun G (Q k) x1 x2 x3 x4 ++ (pw G Q C (pr16 k) ++ wr))).Perm (fx ++ (pw G Q (updC C k (x1, x2, x3, x4)) (List.range 16) ++ wr)) := by
  have h := (pw_in (G := G) (Q := Q) (C := C) hk fx x1 x2 x3 x4).append_right wr
  rw [List.append_assoc, List.append_assoc, List.append_assoc] at h
  exact h
theorem pg_ext {T : Nat → Int} {K : Nat} {a b : Pg} (ha : PG T K a) (hK : K ≤ 6) (h : ∀ j : Nat, j < 101 → b j = a j) : PG T K b := by
  obtain ⟨⟨a0, a1, a2, a3, a4, a5, a6⟩, ax, a9, a7, a8, a10, a11, a12, a13, a14⟩ := ha
  exact ⟨⟨by rw [h 0 (by decide)]; exact a0, by rw [h 1 (by decide)]; exact a1, by rw [h 2 (by decide)]; exact a2, by rw [h 3 (by decide)]; exact a3, by rw [h 4 (by decide)]; exact a4, by rw [h 5 (by decide)]; exact a5, by rw [h 6 (by decide)]; exact a6⟩, fun i hi => by rw [h (15 + i) (by omega)]; exact ax i hi, by rw [h 9 (by decide)]; exact a9, by rw [h 7 (by decide)]; exact a7, by rw [h 8 (by decide)]; exact a8, by rw [h 10 (by decide)]; exact a10, by rw [h 11 (by decide)]; exact a11, by rw [h 12 (by decide)]; exact a12, by rw [h 13 (by decide)]; exact a13, by rw [h 14 (by decide)]; exact a14⟩
theorem ld_ok {tf tc mf pg ki : Pg} (h : TR tf tc mf tc) (hF : FE (TI tc) (mf 2).toInt.toNat (-9999)) : ∃ (q pr' pg' : Pg) (K : Nat), P_X4_load mf z0 pg tc ki = (pg' 9, upd (upd q 0 0) 8 0, pr', pg', upd (upd ki 0 0) 1 0) ∧ (mf 2).toInt.toNat = 15 + 5 * K ∧ 1 ≤ K ∧ K ≤ 6 ∧ PG (TI tc) K pg' ∧ q 2 = mf 2 := by
  have rs := ra_i h z0
  have E2 : (P_X4_load mf z0 pg tc ki) = (if (P_X4_readAll mf z0 tc).1 = 0 then (0, (upd (P_X4_readAll mf z0 tc).2.1 0 1), (P_X4_readAll mf z0 tc).2.2, pg, ki) else ((P_X4_copyPage 101 101 (P_X4_readAll mf z0 tc).2.2 pg 0 0) 9, (upd (upd (P_X4_readAll mf z0 tc).2.1 0 0) 8 0), (P_X4_readAll mf z0 tc).2.2, P_X4_copyPage 101 101 (P_X4_readAll mf z0 tc).2.2 pg 0 0, (upd (upd ki 0 0) 1 0))) := rfl
  rw [E2]
  clear E2
  generalize P_X4_readAll mf z0 tc = u at *
  rcases rs with ⟨a, b⟩ | ⟨a, p, K, k1, k2, k3, g⟩
  · exfalso
    have e := FE.uni hF b.fe
    obtain ⟨s, p, -⟩ := b
    have := p.1
    omega
  · rw [if_neg (show ¬ u.1 = 0 by rw [a]; decide)]
    exact ⟨u.2.1, u.2.2, P_X4_copyPage 101 101 u.2.2 pg 0 0, K, rfl, k1, k2, k3, pg_ext g k3 (fun j hj => copy_00 rfl hj), p.2.2.2 2 (by decide)⟩
theorem ld_no {tf tc mf pg ki : Pg} {r : Int} (h : TR tf tc mf tc) (hF : FE (TI tc) (mf 2).toInt.toNat r) (hr : ¬ r = -9999) : (P_X4_load mf z0 pg tc ki).2.1 0 = 1 := by
  have rs := ra_i h z0
  have E2 : (P_X4_load mf z0 pg tc ki) = (if (P_X4_readAll mf z0 tc).1 = 0 then (0, (upd (P_X4_readAll mf z0 tc).2.1 0 1), (P_X4_readAll mf z0 tc).2.2, pg, ki) else ((P_X4_copyPage 101 101 (P_X4_readAll mf z0 tc).2.2 pg 0 0) 9, (upd (upd (P_X4_readAll mf z0 tc).2.1 0 0) 8 0), (P_X4_readAll mf z0 tc).2.2, P_X4_copyPage 101 101 (P_X4_readAll mf z0 tc).2.2 pg 0 0, (upd (upd ki 0 0) 1 0))) := rfl
  rw [E2]
  clear E2
  generalize P_X4_readAll mf z0 tc = u at *
  rcases rs with ⟨a, b⟩ | ⟨a, p, K, k1, k2, k3, g⟩
  · rw [if_pos a]
    rfl
  · exfalso
    refine hr (FE.uni hF (Or.inr ⟨p.2.2.1, Or.inl ⟨by omega, by omega, rfl⟩⟩))
section KSS
variable {ki kk pg q : Pg} {k0 k1 : Option Pg}
theorem sl0 : ¬ P_X4_in (0 : Int32).toInt64 0 1 = 0 := by decide
theorem sl1 : ¬ P_X4_in (1 : Int32).toInt64 0 1 = 0 := by decide
theorem cs0 : P_X4_copyPage 101 202 pg kk 0 (101 * 0) = fun j => if j < 101 then pg j else kk j := by
  rw [copy_eq cp0 (cp_s sl0)]
  funext j
  have e : (101 * (0 : Int32)).toInt.toNat = 0 := by decide
  have e0 : (0 : Int32).toInt.toNat = 0 := by decide
  show (if (101 * (0 : Int32)).toInt.toNat ≤ j ∧ j < (101 * (0 : Int32)).toInt.toNat + 101 then pg ((0 : Int32).toInt.toNat + (j - (101 * (0 : Int32)).toInt.toNat)) else kk j) = _
  rw [e, e0]
  by_cases c : j < 101
  · rw [if_pos c, if_pos (by omega)]
    exact congrArg pg (by omega)
  · rw [if_neg c, if_neg (by omega)]
theorem cs1 : P_X4_copyPage 101 202 pg kk 0 (101 * 1) = fun j => if 101 ≤ j ∧ j < 202 then pg (j - 101) else kk j := by
  rw [copy_eq cp0 (cp_s sl1)]
  funext j
  have e : (101 * (1 : Int32)).toInt.toNat = 101 := by decide
  have e0 : (0 : Int32).toInt.toNat = 0 := by decide
  show (if (101 * (1 : Int32)).toInt.toNat ≤ j ∧ j < (101 * (1 : Int32)).toInt.toNat + 101 then pg ((0 : Int32).toInt.toNat + (j - (101 * (1 : Int32)).toInt.toNat)) else kk j) = _
  rw [e, e0]
  by_cases c : 101 ≤ j ∧ j < 202
  · rw [if_pos c, if_pos (by omega)]
    exact congrArg pg (by omega)
  · rw [if_neg c, if_neg (by omega)]
theorem ks_00 : KS (upd ki (0 : Int32).toNatClampNeg 1) (P_X4_copyPage 101 202 pg kk 0 (101 * 0)) 0 (some pg) := by
  rw [cs0]
  refine ⟨fun h => (by cases h), fun q h => ?_⟩
  cases h
  refine ⟨(show ¬ (1 : Int32) = 0 by decide), fun j hj => ?_⟩
  show (if 101 * 0 + j < 101 then pg (101 * 0 + j) else kk (101 * 0 + j)) = _
  rw [if_pos (by omega)]
  exact congrArg pg (by omega)
theorem ks_01 (h : KS ki kk 1 k1) : KS (upd ki (0 : Int32).toNatClampNeg 1) (P_X4_copyPage 101 202 pg kk 0 (101 * 0)) 1 k1 := by
  rw [cs0]
  refine ⟨fun e => h.1 e, fun q e => ⟨(h.2 q e).1, fun j hj => ?_⟩⟩
  show (if 101 * 1 + j < 101 then pg (101 * 1 + j) else kk (101 * 1 + j)) = _
  rw [if_neg (by omega)]
  exact (h.2 q e).2 j hj
theorem ks_10 (h : KS ki kk 0 k0) : KS (upd ki (1 : Int32).toNatClampNeg 1) (P_X4_copyPage 101 202 pg kk 0 (101 * 1)) 0 k0 := by
  rw [cs1]
  refine ⟨fun e => h.1 e, fun q e => ⟨(h.2 q e).1, fun j hj => ?_⟩⟩
  show (if 101 ≤ 101 * 0 + j ∧ 101 * 0 + j < 202 then pg (101 * 0 + j - 101) else kk (101 * 0 + j)) = _
  rw [if_neg (by omega)]
  exact (h.2 q e).2 j hj
theorem ks_11 : KS (upd ki (1 : Int32).toNatClampNeg 1) (P_X4_copyPage 101 202 pg kk 0 (101 * 1)) 1 (some pg) := by
  rw [cs1]
  refine ⟨fun h => (by cases h), fun q h => ?_⟩
  cases h
  refine ⟨(show ¬ (1 : Int32) = 0 by decide), fun j hj => ?_⟩
  show (if 101 ≤ 101 * 1 + j ∧ 101 * 1 + j < 202 then pg (101 * 1 + j - 101) else kk (101 * 1 + j)) = _
  rw [if_pos (by omega)]
  exact congrArg pg (by omega)
theorem rs_0 (h : KS ki kk 0 (some q)) {j : Nat} (hj : j < 101) : P_X4_copyPage 202 101 kk pg (101 * 0) 0 j = q j := by
  rw [page_c (cp_s sl0) (a := 101 * 0) (by decide) hj]
  exact (h.2 q rfl).2 j hj
theorem rs_1 (h : KS ki kk 1 (some q)) {j : Nat} (hj : j < 101) : P_X4_copyPage 202 101 kk pg (101 * 1) 0 j = q j := by
  rw [page_c (cp_s sl1) (a := 101 * 1) (by decide) hj]
  exact (h.2 q rfl).2 j hj
end KSS
