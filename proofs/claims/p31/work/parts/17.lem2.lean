theorem mu_dn {i : Int32} (h : ¬ i < 0) : ((i + (-1) : Int32).toInt + 1).toNat < ((i : Int32).toInt + 1).toNat := by
  rw [Int32.lt_iff_toInt_lt] at h
  have h2 : (0 : Int32).toInt = 0 := by decide
  have h3 : (-1 : Int32).toInt = -1 := by decide
  have hb := i.toInt_lt
  have e : (i + (-1)).toInt = i.toInt - 1 := by
    rw [Int32.toInt_add, h3]
    apply Int.bmod_eq_of_le <;> omega
  omega
theorem ix_lenN {i : Int32} {n : Nat} (hn : n < 2147483648) (h0 : ¬ i < 0) (h1 : ¬ Int32.ofNat n ≤ i) : vp_in i n := ix_le h0 h1 (nI_toInt hn)
section KQ
variable {p : Program} {l : Launch} {e : Env} {R : Room} {s : State} {m : MethodId} {args : Array Value} {below : List Frame} {meth : Method} {c : Code} {H : Heap} {locs : List Loc} {cells slots : Nat} {Q : State → Prop}
variable {cc : ByteArray} {nL : Nat} {own : String} {Ts : List Cond} {G : gG} {A : Nat → Prop} {pc : Nat} {ls : Array Slot} {rest : List Value}
theorem k_qret {r : Option Nat} {w1 : va_W} {X : String} (cx : Cx p s m args meth c cc nL own Ts (some (.object X)) G A) (hP : va_P G.1 vwCl w1 H) (hS : va_S A s.heap H locs) (hdg : decode cc pc = .ok (.areturn, 1)) :
    W p l e R s m args below meth c H locs cells slots (MQ below (qQ G r w1 A) args s cells slots A) (F0 m pc ls [va_rf r]) := by
  obtain ⟨hx, hb, hml, hown, hts, hr, hlocks, hK, hA⟩ := cx
  exact W.aret (v := va_rf r) hx hb hr (Or.inl ⟨X, rfl⟩) (va_rf_or r) (fun t ht hW => ⟨⟨r, (), rfl, rfl, by show va_P G.1 vwCl w1 t.heap; rw [ht]; exact hP⟩, hS.F ht⟩) hS.2.2 hdg
theorem k_known {r : Option Nat} {a : Nat} (h : r = some a) (k : W p l e R s m args below meth c H locs cells slots Q (F0 m pc ls (.ref a :: rest))) : W p l e R s m args below meth c H locs cells slots Q (F0 m pc ls (va_rf r :: rest)) := by
  subst h
  exact k
end KQ
/-! the reference's pages -/
def CP (n : Nat) (a : Int32) : Prop := 0 ≤ a.toInt ∧ a.toInt + 101 ≤ n ∧ n < 2147483648
def RB (x : Int32) : Prop := 0 ≤ x.toInt ∧ x.toInt ≤ 9999
def PV (pg : Nat → Int32) : Prop := (1 ≤ (pg 9).toInt ∧ (pg 9).toInt ≤ 6) ∧ (0 ≤ (pg 10).toInt ∧ (pg 10).toInt < (pg 9).toInt) ∧ (∀ i : Nat, (i : Int) < (pg 9).toInt → 1 ≤ (pg (15 + i)).toInt ∧ (pg (15 + i)).toInt ≤ 9999) ∧ RB (pg 2) ∧ (0 ≤ (pg 12).toInt ∧ (pg 12).toInt ≤ 20)
theorem toI_add {a b : Int32} (h1 : -2147483648 ≤ a.toInt + b.toInt) (h2 : a.toInt + b.toInt < 2147483648) : (a + b).toInt = a.toInt + b.toInt := by
  rw [Int32.toInt_add]
  apply Int.bmod_eq_of_le <;> omega
theorem toI_sub {a b : Int32} (h1 : -2147483648 ≤ a.toInt - b.toInt) (h2 : a.toInt - b.toInt < 2147483648) : (a - b).toInt = a.toInt - b.toInt := by
  rw [Int32.toInt_sub]
  apply Int.bmod_eq_of_le <;> omega
theorem toI_mul {a b : Int32} (h1 : -2147483648 ≤ a.toInt * b.toInt) (h2 : a.toInt * b.toInt < 2147483648) : (a * b).toInt = a.toInt * b.toInt := by
  rw [Int32.toInt_mul]
  apply Int.bmod_eq_of_le <;> omega
theorem cp_ix {n : Nat} {a k : Int32} (h : CP n a) (h0 : ¬ k < 0) (h1 : ¬ 101 ≤ k) : vp_in (a + k) n := by
  obtain ⟨e1, e2, e3⟩ := h
  rw [Int32.lt_iff_toInt_lt] at h0
  rw [Int32.le_iff_toInt_le] at h1
  have h2 : (0 : Int32).toInt = 0 := by decide
  have h3 : (101 : Int32).toInt = 101 := by decide
  have e := toI_add (a := a) (b := k) (by omega) (by omega)
  exact vp_in_iff.mpr ⟨by omega, by omega⟩
theorem pv_x {pg : Nat → Int32} (h : PV pg) : vp_in (15 + pg 10) 101 := by
  obtain ⟨h1, h2, -⟩ := h
  have h3 : (15 : Int32).toInt = 15 := by decide
  have e := toI_add (a := 15) (b := pg 10) (by omega) (by omega)
  exact vp_in_iff.mpr ⟨by omega, by omega⟩
theorem pv_r {pg : Nat → Int32} (h : PV pg) : RB (pg 2) := h.2.2.2.1
theorem mu_dn2 {i : Int32} (h : ¬ i < 25) : ((i + (-1) : Int32).toInt - 24).toNat < ((i : Int32).toInt - 24).toNat := by
  rw [Int32.lt_iff_toInt_lt] at h
  have h2 : (25 : Int32).toInt = 25 := by decide
  have h3 : (-1 : Int32).toInt = -1 := by decide
  have hb := i.toInt_lt
  have e := toI_add (a := i) (b := -1) (by omega) (by omega)
  omega
theorem le_dn {i : Int32} (h1 : i.toInt ≤ 100) (h : ¬ i < 25) : (i + (-1)).toInt ≤ 100 := by
  rw [Int32.lt_iff_toInt_lt] at h
  have h2 : (25 : Int32).toInt = 25 := by decide
  have h3 : (-1 : Int32).toInt = -1 := by decide
  have e := toI_add (a := i) (b := -1) (by omega) (by omega)
  omega
theorem ix_sh {i : Int32} (h1 : i.toInt ≤ 100) (h : ¬ i < 25) : vp_in i 101 := by
  rw [Int32.lt_iff_toInt_lt] at h
  have h2 : (25 : Int32).toInt = 25 := by decide
  exact vp_in_iff.mpr ⟨by omega, by omega⟩
theorem ix_sh4 {i : Int32} (h1 : i.toInt ≤ 100) (h : ¬ i < 25) : vp_in (i - 4) 101 := by
  rw [Int32.lt_iff_toInt_lt] at h
  have h2 : (25 : Int32).toInt = 25 := by decide
  have h3 : (4 : Int32).toInt = 4 := by decide
  have e := toI_sub (a := i) (b := 4) (by omega) (by omega)
  exact vp_in_iff.mpr ⟨by omega, by omega⟩
