/-! what is remembered and what is kept: the class's rows and the reference's pages -/
abbrev ct4 : Type := (Nat → Int32) × (Nat → Int32) × (Nat → Int32) × (Nat → Int32)
def SRc (c : ct4) (pg : Nat → Int32) : Prop := SR c.1 c.2.1 c.2.2.1 c.2.2.2 pg
def updC (C : Nat → ct4) (k : Nat) (x : ct4) : Nat → ct4 := fun j => if j = k then x else C j
theorem updC_me {C : Nat → ct4} {k : Nat} {x : ct4} : updC C k x k = x := if_pos rfl
theorem updC_o {C : Nat → ct4} {k j : Nat} {x : ct4} (h : j ≠ k) : updC C k x j = C j := if_neg h
theorem updC_id (C : Nat → ct4) (k : Nat) : updC C k (C k) = C := by
  funext j
  by_cases h : j = k
  · rw [h, updC_me]
  · rw [updC_o h]
/-- where the class keeps the state that is remembered as the i-th oldest -/
def pix (b a i : Nat) : Nat := (b + 14 - a + i) % 14
def DR (bf : Nat → Int32) (C : Nat → ct4) (mf dd : Nat → Int32) : Prop := bf 4 = mf 8 ∧ AB (mf 8) ∧ (0 ≤ (bf 5).toInt ∧ (bf 5).toInt ≤ 13) ∧ ∀ i : Nat, (i : Int) < (mf 8).toInt → SRc (C (pix (bf 5).toInt.toNat (mf 8).toInt.toNat i)) (fun j => dd (101 * i + j))
def KR (ff ki : Nat → Int32) (C : Nat → ct4) (kk : Nat → Int32) : Prop := (∀ k : Nat, (C k).1 9 = 0 ∨ (C k).1 9 = 1) ∧ ∀ s : Nat, s < 2 → ff s = ki s ∧ (ff s = 0 ∨ ff s = 1) ∧ (¬ ff s = 0 → SRc (C (14 + s)) (fun j => kk (101 * s + j)))
def INV (bf tf tc f oh lf ce ff : Nat → Int32) (C : Nat → ct4) (mf tt pn dd kk ki : Nat → Int32) : Prop := TR tf tc mf tt ∧ SR f oh lf ce pn ∧ DR bf C mf dd ∧ KR ff ki C kk
theorem sh101 (pn mf : Nat → Int32) : ∀ (n : Nat) (v : Int32) (dd : Nat → Int32), 0 ≤ v.toInt → ((1313 : Int32).toInt - v.toInt).toNat < n → ∃ dd' : Nat → Int32, (∀ k : Nat, dd' k = if v.toInt.toNat ≤ k ∧ k < 1313 then dd (k + 101) else dd k) ∧ P_X4_note_11 pn n v mf dd = (upd mf 8 (((mf 8) - 1) + 1), P_X4_copyPage 101 1414 pn dd' 0 (101 * ((mf 8) - 1))) := by
  intro n
  have z : (1313 : Int32).toInt = 1313 := by decide
  have z1 : (1 : Int32).toInt = 1 := by decide
  have z101 : (101 : Int32).toInt = 101 := by decide
  induction n with
  | zero => intro v dd _ hn; omega
  | succ n ih =>
    intro v dd h0 hn
    have E : P_X4_note_11 pn (n + 1) v mf dd = (if 1313 ≤ v then ((upd mf 8 (((mf 8) - 1) + 1)), P_X4_copyPage 101 1414 pn dd 0 (101 * ((mf 8) - 1))) else (P_X4_note_11 pn n (v + 1) mf (upd dd v.toNatClampNeg (dd (v + 101).toNatClampNeg)))) := rfl
    rw [E]
    by_cases c : 1313 ≤ v
    · rw [if_pos c]
      rw [Int32.le_iff_toInt_le] at c
      exact ⟨dd, fun k => by rw [if_neg (by omega)], rfl⟩
    · rw [if_neg c]
      rw [Int32.le_iff_toInt_le] at c
      have a := toI_add (a := v) (b := 1) (by omega) (by omega)
      have a2 := toI_add (a := v) (b := 101) (by omega) (by omega)
      have n1 : v.toNatClampNeg = v.toInt.toNat := rfl
      have n2 : (v + 101).toNatClampNeg = v.toInt.toNat + 101 := by show (v + 101).toInt.toNat = _; omega
      obtain ⟨dd', k1, k2⟩ := ih (v + 1) (upd dd v.toNatClampNeg (dd (v + 101).toNatClampNeg)) (by omega) (by omega)
      refine ⟨dd', fun k => ?_, k2⟩
      rw [k1, a, n1, n2]
      by_cases q : k = v.toInt.toNat
      · rw [if_neg (by omega), if_pos (by omega), q, upd_me]
      · by_cases q2 : v.toInt.toNat ≤ k ∧ k < 1313
        · rw [if_pos (by omega), if_pos q2, upd_o (by omega)]
        · rw [if_neg (by omega), if_neg q2, upd_o q]
theorem m101 {x : Int32} {a : Int} (h : x.toInt = a) (h0 : 0 ≤ a) (h1 : a ≤ 14) : (101 * x).toInt = 101 * a := by
  have z : (101 : Int32).toInt = 101 := by decide
  rw [Int32.mul_comm, toI_mk z (by omega) (by omega), h]
  omega
theorem note_i {mf : Nat → Int32} (h : AB (mf 8)) (pn dd : Nat → Int32) : ((P_X4_note mf pn dd).1 8).toInt = (if (mf 8).toInt = 14 then 14 else (mf 8).toInt + 1) ∧ (∀ j, j ≠ 8 → (P_X4_note mf pn dd).1 j = mf j) ∧ ∀ i j : Nat, j < 101 → (i : Int) < (if (mf 8).toInt = 14 then 14 else (mf 8).toInt + 1) → (P_X4_note mf pn dd).2 (101 * i + j) = if (i : Int) + 1 = (if (mf 8).toInt = 14 then 14 else (mf 8).toInt + 1) then pn j else dd (101 * (if (mf 8).toInt = 14 then i + 1 else i) + j) := by
  obtain ⟨h0, h1⟩ := h
  have z14 : (14 : Int32).toInt = 14 := by decide
  have z1 : (1 : Int32).toInt = 1 := by decide
  have z0 : (0 : Int32).toInt.toNat = 0 := by decide
  have E : P_X4_note mf pn dd = (if (mf 8) = 14 then (P_X4_note_11 pn ((((1313 : Int32)).toInt - (0 : Int32).toInt).toNat + 1) 0 mf dd) else ((upd mf 8 ((mf 8) + 1)), P_X4_copyPage 101 1414 pn dd 0 (101 * (mf 8)))) := rfl
  rw [E]
  by_cases c : mf 8 = 14
  · rw [if_pos c]
    have c' : (mf 8).toInt = 14 := by rw [c]; exact z14
    rw [if_pos c']
    obtain ⟨dd', k1, k2⟩ := sh101 pn mf ((((1313 : Int32)).toInt - (0 : Int32).toInt).toNat + 1) 0 dd (by decide) (Nat.lt_succ_self _)
    have s1 := toI_sub (a := mf 8) (b := 1) (by omega) (by omega)
    have s2 := toI_add (a := mf 8 - 1) (b := 1) (by omega) (by omega)
    have m := m101 (x := mf 8 - 1) (a := 13) (by omega) (by decide) (by decide)
    rw [k2, copy_eq cp0 (cp_b c)]
    refine ⟨by show (upd mf 8 (mf 8 - 1 + 1) 8).toInt = 14; rw [upd_me]; omega, fun j hj => upd_o hj, fun i j hj hi => ?_⟩
    show (if (101 * (mf 8 - 1)).toInt.toNat ≤ 101 * i + j ∧ 101 * i + j < (101 * (mf 8 - 1)).toInt.toNat + 101 then pn ((0 : Int32).toInt.toNat + (101 * i + j - (101 * (mf 8 - 1)).toInt.toNat)) else dd' (101 * i + j)) = _
    rw [m, z0]
    by_cases q : (i : Int) + 1 = 14
    · rw [if_pos q, if_pos (by omega)]
      exact congrArg pn (by omega)
    · rw [if_neg q, if_neg (by omega), k1, z0, if_pos (by omega), if_pos c']
      exact congrArg dd (by omega)
  · rw [if_neg c]
    have c' : ¬ (mf 8).toInt = 14 := fun q => c (Int32.toInt_inj.mp (q.trans z14.symm))
    rw [if_neg c']
    have s2 := toI_add (a := mf 8) (b := 1) (by omega) (by omega)
    have m := m101 (x := mf 8) rfl h0 h1
    rw [copy_eq cp0 (cp_a ⟨h0, h1⟩ c)]
    refine ⟨by show (upd mf 8 (mf 8 + 1) 8).toInt = _; rw [upd_me]; omega, fun j hj => upd_o hj, fun i j hj hi => ?_⟩
    show (if (101 * (mf 8)).toInt.toNat ≤ 101 * i + j ∧ 101 * i + j < (101 * (mf 8)).toInt.toNat + 101 then pn ((0 : Int32).toInt.toNat + (101 * i + j - (101 * (mf 8)).toInt.toNat)) else dd (101 * i + j)) = _
    rw [m, z0]
    by_cases q : (i : Int) + 1 = (mf 8).toInt + 1
    · rw [if_pos q, if_pos (by omega)]
      exact congrArg pn (by omega)
    · rw [if_neg q, if_neg (by omega), if_neg c']
theorem rem_eq (bf : Nat → Int32) (pg : Nat → Option Nat) (f oh lf ce f2 oh2 lf2 ce2 : Nat → Int32) : P_X3_remember bf pg f oh lf ce f2 oh2 lf2 ce2 = (upd (upd bf 5 (if 13 ≤ bf 5 then 0 else bf 5 + 1)) 4 (jmin 14 (bf 4 + 1)), (P_X1_copyFrom f2 oh2 lf2 ce2 f oh lf ce).1, (P_X1_copyFrom f2 oh2 lf2 ce2 f oh lf ce).2.1, (P_X1_copyFrom f2 oh2 lf2 ce2 f oh lf ce).2.2.1, (P_X1_copyFrom f2 oh2 lf2 ce2 f oh lf ce).2.2.2) := by
  unfold P_X3_remember
  by_cases c : 13 ≤ bf 5
  · have e : (if 13 ≤ bf 5 then 0 else bf 5 + 1 : Int32) = 0 := if_pos c
    rw [e]
    exact if_pos c
  · have e : (if 13 ≤ bf 5 then 0 else bf 5 + 1 : Int32) = bf 5 + 1 := if_neg c
    rw [e]
    exact if_neg c
/-- one more state is remembered, by both -/
theorem dr_note {bf : Nat → Int32} {C : Nat → ct4} {mf0 mf dd f oh lf ce pn : Nat → Int32} (h : DR bf C mf0 dd) (s : SR f oh lf ce pn) (h8 : mf 8 = mf0 8) (pg : Nat → Option Nat) :
    DR (P_X3_remember bf pg f oh lf ce (C (bf 5).toInt.toNat).1 (C (bf 5).toInt.toNat).2.1 (C (bf 5).toInt.toNat).2.2.1 (C (bf 5).toInt.toNat).2.2.2).1 (updC C (bf 5).toInt.toNat (P_X3_remember bf pg f oh lf ce (C (bf 5).toInt.toNat).1 (C (bf 5).toInt.toNat).2.1 (C (bf 5).toInt.toNat).2.2.1 (C (bf 5).toInt.toNat).2.2.2).2) (P_X4_note mf pn dd).1 (P_X4_note mf pn dd).2 := by
  obtain ⟨h4, hA, ⟨b0, b1⟩, hs⟩ := h
  have sc := sr_copy s (C (bf 5).toInt.toNat).1 (C (bf 5).toInt.toNat).2.1 (C (bf 5).toInt.toNat).2.2.1 (C (bf 5).toInt.toNat).2.2.2
  rw [rem_eq]
  have hA2 : AB (mf 8) := by rw [h8]; exact hA
  obtain ⟨n1, n2, n3⟩ := note_i hA2 pn dd
  generalize P_X4_note mf pn dd = N at *
  generalize P_X1_copyFrom (C (bf 5).toInt.toNat).1 (C (bf 5).toInt.toNat).2.1 (C (bf 5).toInt.toNat).2.2.1 (C (bf 5).toInt.toNat).2.2.2 f oh lf ce = cp at *
  rw [h8] at n1 n3
  obtain ⟨a0, a1⟩ := hA
  have z13 : (13 : Int32).toInt = 13 := by decide
  have z14 : (14 : Int32).toInt = 14 := by decide
  have z1 : (1 : Int32).toInt = 1 := by decide
  have z0 : (0 : Int32).toInt = 0 := by decide
  have s4 := toI_add (a := bf 4) (b := 1) (by rw [h4]; omega) (by rw [h4]; omega)
  have s5 := toI_add (a := bf 5) (b := 1) (by omega) (by omega)
  rw [h4] at s4
  have e4 : (jmin 14 (bf 4 + 1)).toInt = (if (mf0 8).toInt = 14 then 14 else (mf0 8).toInt + 1) := by
    rw [jmin_i, h4, s4, z14, z1]
    by_cases q : (mf0 8).toInt = 14
    · rw [if_pos q, if_neg (by omega)]
    · rw [if_neg q]
      by_cases q2 : (mf0 8).toInt + 1 < 14
      · rw [if_pos q2]
      · rw [if_neg q2]; omega
  have e5 : ((if 13 ≤ bf 5 then 0 else bf 5 + 1 : Int32)).toInt = (((bf 5).toInt.toNat + 1) % 14 : Nat) := by
    by_cases q : 13 ≤ bf 5
    · rw [if_pos q]
      rw [Int32.le_iff_toInt_le] at q
      omega
    · rw [if_neg q]
      rw [Int32.le_iff_toInt_le] at q
      omega
  have eb5 : (upd (upd bf 5 (if 13 ≤ bf 5 then 0 else bf 5 + 1)) 4 (jmin 14 (bf 4 + 1))) 5 = (if 13 ≤ bf 5 then 0 else bf 5 + 1) := by rw [upd_o (by decide), upd_me]
  refine ⟨?_, ?_, ?_, fun i hi => ?_⟩
  · show (upd (upd bf 5 (if 13 ≤ bf 5 then 0 else bf 5 + 1)) 4 (jmin 14 (bf 4 + 1))) 4 = _
    rw [upd_me]
    exact Int32.toInt_inj.mp (e4.trans n1.symm)
  · refine ⟨?_, ?_⟩ <;> rw [n1] <;> split <;> omega
  · show 0 ≤ ((upd (upd bf 5 (if 13 ≤ bf 5 then 0 else bf 5 + 1)) 4 (jmin 14 (bf 4 + 1))) 5).toInt ∧ ((upd (upd bf 5 (if 13 ≤ bf 5 then 0 else bf 5 + 1)) 4 (jmin 14 (bf 4 + 1))) 5).toInt ≤ 13
    rw [eb5, e5]
    omega
  · show SRc (updC C (bf 5).toInt.toNat (cp.1, cp.2.1, cp.2.2.1, cp.2.2.2) (pix ((upd (upd bf 5 (if 13 ≤ bf 5 then 0 else bf 5 + 1)) 4 (jmin 14 (bf 4 + 1))) 5).toInt.toNat (N.1 8).toInt.toNat i)) (fun j => N.2 (101 * i + j))
    rw [eb5, e5]
    have n3 := n3 i
    have hi' := hi
    rw [n1] at hi' ⊢
    by_cases q : (i : Int) + 1 = (if (mf0 8).toInt = 14 then 14 else (mf0 8).toInt + 1)
    · have ei : pix (((((bf 5).toInt.toNat + 1) % 14 : Nat) : Int)).toNat (if (mf0 8).toInt = 14 then 14 else (mf0 8).toInt + 1).toNat i = (bf 5).toInt.toNat := by
        unfold pix
        rw [← q]
        omega
      rw [ei, updC_me]
      refine sr_pg sc (fun j hj => ?_)
      show N.2 (101 * i + j) = _
      rw [n3 j hj hi', if_pos q]
    · have hb : ((if (mf0 8).toInt = 14 then i + 1 else i : Nat) : Int) < (mf0 8).toInt := by
        by_cases q2 : (mf0 8).toInt = 14
        · rw [if_pos q2] at q hi' ⊢; omega
        · rw [if_neg q2] at q hi' ⊢; omega
      have ei : pix (((((bf 5).toInt.toNat + 1) % 14 : Nat) : Int)).toNat (if (mf0 8).toInt = 14 then 14 else (mf0 8).toInt + 1).toNat i = pix (bf 5).toInt.toNat (mf0 8).toInt.toNat (if (mf0 8).toInt = 14 then i + 1 else i) := by
        unfold pix
        by_cases q2 : (mf0 8).toInt = 14
        · rw [if_pos q2] at q hi' ⊢
          rw [if_pos q2, q2]
          omega
        · rw [if_neg q2] at q hi' ⊢
          rw [if_neg q2]
          omega
      have ne : pix (bf 5).toInt.toNat (mf0 8).toInt.toNat (if (mf0 8).toInt = 14 then i + 1 else i) ≠ (bf 5).toInt.toNat := by
        unfold pix
        by_cases q2 : (mf0 8).toInt = 14
        · rw [if_pos q2] at q hi' hb ⊢
          omega
        · rw [if_neg q2] at q hi' hb ⊢
          omega
      rw [ei, updC_o ne]
      refine sr_pg (hs _ hb) (fun j hj => ?_)
      show N.2 (101 * i + j) = _
      rw [n3 j hj hi', if_neg q]
theorem dr_mf {bf : Nat → Int32} {C : Nat → ct4} {mf q dd : Nat → Int32} (h : DR bf C mf dd) (hq : q 8 = mf 8) : DR bf C q dd := by
  obtain ⟨a, b, c, d⟩ := h
  exact ⟨by rw [hq]; exact a, by rw [hq]; exact b, c, by rw [hq]; exact d⟩
theorem pz_up {C : Nat → ct4} (h : ∀ k : Nat, (C k).1 9 = 0 ∨ (C k).1 9 = 1) {k : Nat} {x : ct4} (hx : x.1 9 = 0 ∨ x.1 9 = 1) : ∀ j : Nat, (updC C k x j).1 9 = 0 ∨ (updC C k x j).1 9 = 1 := fun j => by
  by_cases q : j = k
  · rw [q, updC_me]; exact hx
  · rw [updC_o q]; exact h j
theorem kr_up {ff ki : Nat → Int32} {C : Nat → ct4} {kk : Nat → Int32} (h : KR ff ki C kk) {k : Nat} (hk : k < 14) {x : ct4} (hx : x.1 9 = 0 ∨ x.1 9 = 1) : KR ff ki (updC C k x) kk := ⟨pz_up h.1 hx, fun s hs => by
  obtain ⟨a, b, c⟩ := h.2 s hs
  exact ⟨a, b, fun q => by rw [updC_o (by omega)]; exact c q⟩⟩
theorem rem_stk {f oh lf ce pn : Nat → Int32} (s : SR f oh lf ce pn) (bf : Nat → Int32) (pg : Nat → Option Nat) (f2 oh2 lf2 ce2 : Nat → Int32) : (P_X3_remember bf pg f oh lf ce f2 oh2 lf2 ce2).2.1 9 = 0 ∨ (P_X3_remember bf pg f oh lf ce f2 oh2 lf2 ce2).2.1 9 = 1 := by
  rw [rem_eq]
  exact (sr_copy s f2 oh2 lf2 ce2).stk
theorem inv_mf {bf tf tc f oh lf ce ff : Nat → Int32} {C : Nat → ct4} {mf q tt pn dd kk ki : Nat → Int32} (h : INV bf tf tc f oh lf ce ff C mf tt pn dd kk ki) (h2 : q 2 = mf 2) (h8 : q 8 = mf 8) : INV bf tf tc f oh lf ce ff C q tt pn dd kk ki :=
  ⟨h.1.up h2, h.2.1, dr_mf h.2.2.1 h8, h.2.2.2⟩
