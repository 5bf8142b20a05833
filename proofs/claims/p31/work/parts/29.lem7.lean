/-! the reference's text: what its indices rest on -/
def WS (mf : Nat → Int32) : Prop := TB (mf 2) ∧ 0 ≤ (mf 3).toInt
theorem ix_tx {mf : Nat → Int32} (h : WS mf) (c : ¬ mf 2 ≤ mf 3) : vp_in (mf 3) 60 := by
  obtain ⟨⟨h1, h2⟩, h3⟩ := h
  rw [Int32.le_iff_toInt_le] at c
  exact ix_of rfl h3 (by omega)
theorem ws_inc {mf : Nat → Int32} (h : WS mf) (c : ¬ mf 2 ≤ mf 3) : WS (upd mf 3 (mf 3 + 1)) := by
  obtain ⟨⟨h1, h2⟩, h3⟩ := h
  rw [Int32.le_iff_toInt_le] at c
  have e1 : (1 : Int32).toInt = 1 := by decide
  have e := toI_add (a := mf 3) (b := 1) (by omega) (by omega)
  exact ⟨⟨h1, h2⟩, show 0 ≤ (mf 3 + 1).toInt by omega⟩
theorem ws_0 {mf : Nat → Int32} (h : TB (mf 2)) : WS (upd mf 3 0) := ⟨h, show 0 ≤ (0 : Int32).toInt by decide⟩
theorem ws_z {mf : Nat → Int32} (h : WS mf) : WS (upd mf 3 (mf 3 + 0)) := ⟨h.1, show 0 ≤ (mf 3 + 0).toInt by rw [Int32.add_zero]; exact h.2⟩
theorem mu_10p {x : Int32} (c : ¬ x ≤ 0) : (x / 10).toInt.toNat < x.toInt.toNat := by
  rw [Int32.le_iff_toInt_le] at c
  have e0 : (0 : Int32).toInt = 0 := by decide
  have e := div10 (x := x) (by omega)
  omega
def ZR (pr : Nat → Int32) (v : Int32) : Prop := ∀ j : Nat, (j : Int) < v.toInt → pr j = 0
theorem zr_0 (pr : Nat → Int32) : ZR pr 0 := fun j h => by
  have e0 : (0 : Int32).toInt = 0 := by decide
  omega
theorem zr_s {pr : Nat → Int32} {v : Int32} (h : ZR pr v) (h0 : ¬ v < 0) (c : ¬ 101 ≤ v) : ZR (upd pr v.toNatClampNeg 0) (v + 1) := fun j hj => by
  rw [Int32.lt_iff_toInt_lt] at h0
  rw [Int32.le_iff_toInt_le] at c
  have e0 : (0 : Int32).toInt = 0 := by decide
  have e1 : (1 : Int32).toInt = 1 := by decide
  have e2 : (101 : Int32).toInt = 101 := by decide
  have e := toI_add (a := v) (b := 1) (by omega) (by omega)
  show (if j = v.toNatClampNeg then 0 else pr j) = 0
  have e3 : v.toNatClampNeg = v.toInt.toNat := rfl
  by_cases q : j = v.toNatClampNeg
  · rw [if_pos q]
  · rw [if_neg q]
    exact h j (by omega)
def NB (x : Int32) : Prop := 0 ≤ x.toInt ∧ x.toInt ≤ 6
theorem nb_z {pr : Nat → Int32} {v : Int32} (h : ZR pr v) (c : 101 ≤ v) : NB (pr 9) := by
  rw [Int32.le_iff_toInt_le] at c
  have e2 : (101 : Int32).toInt = 101 := by decide
  rw [h 9 (by omega)]
  exact ⟨by decide, by decide⟩
theorem ix_c {x : Int32} (h0 : 0 ≤ x.toInt) (h1 : x.toInt ≤ 6) : vp_in x 101 := ix_of rfl h0 (by omega)
theorem ix_nb {x : Int32} (h : NB x) (c : ¬ 6 ≤ x) : vp_in (15 + x) 101 := by
  obtain ⟨h1, h2⟩ := h
  have e4 : (15 : Int32).toInt = 15 := by decide
  have a1 := toI_add (a := 15) (b := x) (by omega) (by omega)
  exact ix_of a1 (by omega) (by omega)
theorem nb_5 {pr : Nat → Int32} {x : Int32} (h : NB (pr 9)) : NB ((upd pr 5 x) 9) := h
theorem nb_i {x : Int32} (h : NB x) (c : ¬ 6 ≤ x) : (x + 1).toInt = x.toInt + 1 := by
  obtain ⟨h1, h2⟩ := h
  have e4 : (1 : Int32).toInt = 1 := by decide
  exact (toI_add (a := x) (b := 1) (by omega) (by omega)).trans (by rw [e4])
theorem upd_me {f : Nat → Int32} {k : Nat} {x : Int32} : upd f k x k = x := if_pos rfl
