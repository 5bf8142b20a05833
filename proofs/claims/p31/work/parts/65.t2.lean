/-! the reference's reading of the text -/
def cdg (LO HI V U t : Int) : Prop := dgc t ∧ V + (t - 48) * U ≤ HI ∧ LO ≤ V + (t - 48) * U + U - 1
/-- a number's digits, one after the other: where it stops, what it is -/
def NR (T : Nat → Int) (N : Nat) (LO HI : Int) : List Int → Int → Nat → Int → Nat → Prop
  | [], V, s, r, s' => r = V ∧ s' = s
  | U :: us, V, s, r, s' => (r = -9999 ∧ s' = s ∧ (s < N → ¬ cdg LO HI V U (T s))) ∨ (s < N ∧ cdg LO HI V U (T s) ∧ NR T N LO HI us (V + (T s - 48) * U) (s + 1) r s')
def UN : Int32 → List Int → Prop
  | u, [] => u = 0
  | u, U :: us => u.toInt = U ∧ P10 U ∧ UN (u / 10) us
section TY
variable {tf tc mf0 tt : Nat → Int32}
theorem num_nr (h : TR tf tc mf0 tt) {d lo hi : Int32} {LO HI : Int} (hlo : lo.toInt = LO) (hhi : hi.toInt = HI) (hb : 0 ≤ LO ∧ HI ≤ 9999) : ∀ (us : List Int) (n : Nat) (u v : Int32) (mf : Nat → Int32) (s : Nat), us.length < n → UN u us → mf 2 = mf0 2 → (mf 3).toInt = s → s ≤ (mf0 2).toInt.toNat → 0 ≤ v.toInt ∧ v.toInt ≤ 9999 →
    ∃ (w : Int32) (q : Nat → Int32) (s' : Nat), P_X4_number_28 tt d lo hi n u v mf = (w, q) ∧ NR (TI tc) (mf0 2).toInt.toNat LO HI us v.toInt s w.toInt s' ∧ (q 3).toInt = s' ∧ ∀ j, j ≠ 3 → q j = mf j := by
  intro us
  obtain ⟨hN1, hN2⟩ := h.2.1
  have z0 : (0 : Int32).toInt = 0 := by decide
  have z1 : (1 : Int32).toInt = 1 := by decide
  have z48 : (48 : Int32).toInt = 48 := by decide
  have zl0 : (0 : Int64).toInt = 0 := by decide
  have zl9 : (9 : Int64).toInt = 9 := by decide
  have z99 : (-9999 : Int32).toInt = -9999 := by decide
  induction us with
  | nil =>
    intro n u v mf s hn hu hm hs hsN hv
    obtain ⟨m, rfl⟩ : ∃ m, n = m + 1 := ⟨n - 1, by omega⟩
    have hu : u = 0 := hu
    subst hu
    unfold P_X4_number_28
    rw [if_pos (by decide)]
    exact ⟨v, mf, s, rfl, ⟨rfl, rfl⟩, hs, fun _ _ => rfl⟩
  | cons U us ih =>
    intro n u v mf s hn hu hm hs hsN hv
    obtain ⟨hu1, hu2, hu3⟩ := hu
    obtain ⟨m, rfl⟩ : ∃ m, n = m + 1 := ⟨n - 1, by omega⟩
    have hU : 1 ≤ U ∧ U ≤ 1000 := by rcases hu2 with q | q | q | q <;> omega
    unfold P_X4_number_28
    rw [if_neg (by rw [Int32.le_iff_toInt_le]; omega)]
    by_cases c : mf 2 ≤ mf 3
    · rw [if_pos c, if_pos (by decide)]
      rw [Int32.le_iff_toInt_le, hm] at c
      exact ⟨-9999, mf, s, rfl, Or.inl ⟨z99, rfl, fun q => by omega⟩, hs, fun _ _ => rfl⟩
    · rw [if_neg c]
      rw [Int32.le_iff_toInt_le, hm] at c
      have en : (mf 3).toNatClampNeg = s := by show (mf 3).toInt.toNat = s; omega
      have et : tt s = tc s := (h.2.2.1 s (by omega)).symm
      rw [en, et]
      have hc := h.2.2.2 s
      have d0 := toI_sub (a := tc s) (b := 48) (by omega) (by omega)
      have hT : TI tc s = (tc s).toInt := rfl
      have hm2 : ((tc s - 48) * u).toInt = (TI tc s - 48) * U := by
        rw [toI_mk hu1 (by rcases hu2 with q | q | q | q <;> rw [q] <;> omega) (by rcases hu2 with q | q | q | q <;> rw [q] <;> omega), d0, z48]
        rfl
      have hbd : -48000 ≤ (TI tc s - 48) * U ∧ (TI tc s - 48) * U ≤ 207000 := by
        rcases hu2 with q | q | q | q <;> rw [q] <;> omega
      have a1 := toI_add (a := v) (b := (tc s - 48) * u) (by omega) (by omega)
      have a2 := toI_add (a := v + (tc s - 48) * u) (b := u) (by omega) (by omega)
      have a3 := toI_sub (a := v + (tc s - 48) * u + u) (b := 1) (by omega) (by omega)
      have bad : ∀ q : ¬ cdg LO HI v.toInt U (TI tc s), ∃ (w : Int32) (q : Nat → Int32) (s' : Nat), ((-9999 : Int32), mf) = (w, q) ∧ NR (TI tc) (mf0 2).toInt.toNat LO HI (U :: us) v.toInt s w.toInt s' ∧ (q 3).toInt = s' ∧ ∀ j, j ≠ 3 → q j = mf j := fun q => ⟨-9999, mf, s, rfl, Or.inl ⟨z99, rfl, fun _ => q⟩, hs, fun _ _ => rfl⟩
      by_cases c1 : P_X4_in (tc s - 48).toInt64 0 9 = 0
      · rw [if_pos c1]
        have := in_0 c1
        rw [Int32.toInt_toInt64, d0] at this
        exact bad (fun q => by obtain ⟨⟨q1, q2⟩, -⟩ := q; omega)
      rw [if_neg c1]
      have i1 := in_i c1
      by_cases c2 : hi < v + (tc s - 48) * u
      · rw [if_pos c2]
        rw [Int32.lt_iff_toInt_lt] at c2
        exact bad (fun q => by obtain ⟨-, q1, -⟩ := q; omega)
      rw [if_neg c2]
      rw [Int32.lt_iff_toInt_lt] at c2
      by_cases c3 : lo ≤ v + (tc s - 48) * u + u - 1
      · rw [if_pos c3]
        rw [Int32.le_iff_toInt_le] at c3
        have hdig : cdg LO HI v.toInt U (TI tc s) := ⟨⟨by omega, by omega⟩, by omega, by omega⟩
        have hnn : 0 ≤ (TI tc s - 48) * U := Int.mul_nonneg (by omega) (by omega)
        have a4 := toI_add (a := mf 3) (b := 1) (by omega) (by omega)
        obtain ⟨w, q, s', e1, e2, e3, e4⟩ := ih m (u / 10) (v + (tc s - 48) * u) (upd mf 3 (mf 3 + 1)) (s + 1) (by simp at hn; omega) hu3 hm (by show (upd mf 3 (mf 3 + 1) 3).toInt = _; rw [upd_me]; omega) (by omega) ⟨by omega, by omega⟩
        refine ⟨w, q, s', e1, Or.inr ⟨by omega, hdig, ?_⟩, e3, fun j hj => (e4 j hj).trans (upd_o hj)⟩
        rw [a1, hm2] at e2
        exact e2
      · rw [if_neg c3]
        rw [Int32.le_iff_toInt_le] at c3
        exact bad (fun q => by obtain ⟨-, -, q1⟩ := q; omega)
theorem un_1 : UN 1 [1] := ⟨by decide, Or.inl rfl, (show (1 / 10 : Int32) = 0 by decide)⟩
theorem un_10 : UN 10 [10, 1] := ⟨by decide, Or.inr (Or.inl rfl), by decide, Or.inl rfl, (show (10 / 10 / 10 : Int32) = 0 by decide)⟩
theorem un_1000 : UN 1000 [1000, 100, 10, 1] := ⟨by decide, Or.inr (Or.inr (Or.inr rfl)), by decide, Or.inr (Or.inr (Or.inl rfl)), by decide, Or.inr (Or.inl rfl), by decide, Or.inl rfl, (show (1000 / 10 / 10 / 10 / 10 : Int32) = 0 by decide)⟩
theorem num_1 (mf : Nat → Int32) (lo hi : Int32) : P_X4_number mf tt 1 lo hi = P_X4_number_28 tt 1 lo hi 2 1 0 mf := by
  have k : (((1 : Int32).toInt - (1 : Int32).toInt).toNat + 1) = 1 := by decide
  have k2 : (1 : Int32).toInt.toNat + 1 = 2 := by decide
  unfold P_X4_number
  rw [k]
  show (if (1 : Int32) ≤ 1 then P_X4_number_28 tt 1 lo hi ((1 : Int32).toInt.toNat + 1) 1 0 mf else _) = _
  rw [if_pos (by decide), k2]
theorem num_2 (mf : Nat → Int32) (lo hi : Int32) : P_X4_number mf tt 2 lo hi = P_X4_number_28 tt 2 lo hi 11 10 0 mf := by
  have k : (((2 : Int32).toInt - (1 : Int32).toInt).toNat + 1) = 2 := by decide
  have k2 : (1 * 10 : Int32).toInt.toNat + 1 = 11 := by decide
  have k3 : (1 * 10 : Int32) = 10 := by decide
  unfold P_X4_number
  rw [k]
  show (if (2 : Int32) ≤ 1 then _ else (if (2 : Int32) ≤ 1 + 1 then P_X4_number_28 tt 2 lo hi ((1 * 10 : Int32).toInt.toNat + 1) (1 * 10) 0 mf else _)) = _
  rw [if_neg (by decide), if_pos (by decide), k2, k3]
theorem num_4 (mf : Nat → Int32) (lo hi : Int32) : P_X4_number mf tt 4 lo hi = P_X4_number_28 tt 4 lo hi 1001 1000 0 mf := by
  have k : (((4 : Int32).toInt - (1 : Int32).toInt).toNat + 1) = 4 := by decide
  have k2 : (1 * 10 * 10 * 10 : Int32).toInt.toNat + 1 = 1001 := by decide
  have k3 : (1 * 10 * 10 * 10 : Int32) = 1000 := by decide
  unfold P_X4_number
  rw [k]
  show (if (4 : Int32) ≤ 1 then _ else (if (4 : Int32) ≤ 1 + 1 then _ else (if (4 : Int32) ≤ 1 + 1 + 1 then _ else (if (4 : Int32) ≤ 1 + 1 + 1 + 1 then P_X4_number_28 tt 4 lo hi ((1 * 10 * 10 * 10 : Int32).toInt.toNat + 1) (1 * 10 * 10 * 10) 0 mf else _)))) = _
  rw [if_neg (by decide), if_neg (by decide), if_neg (by decide), if_pos (by decide), k2, k3]
/-- where the reading stands: s characters are allowed and read -/
def PS (tc mf0 : Nat → Int32) (s : Nat) (q : Nat → Int32) : Prop := (q 3).toInt = s ∧ s ≤ (mf0 2).toInt.toNat ∧ (∀ i, i < s → okc (TI tc) i) ∧ ∀ j, j ≠ 3 → q j = mf0 j
/-- the reading stops with an error -/
def FL (tc mf0 : Nat → Int32) (q : Nat → Int32) : Prop := ∃ s : Nat, PS tc mf0 s q ∧ (s < (mf0 2).toInt.toNat → ¬ okc (TI tc) s) ∧ (s = (mf0 2).toInt.toNat → ¬ (15 < (mf0 2).toInt.toNat ∧ ((mf0 2).toInt.toNat - 15) % 5 = 0))
theorem FL.fe {q : Nat → Int32} (h : FL tc mf0 q) : FE (TI tc) (mf0 2).toInt.toNat (q 3).toInt := by
  obtain ⟨s, ⟨h1, h2, h3, h4⟩, h5, h6⟩ := h
  by_cases c : s < (mf0 2).toInt.toNat
  · exact Or.inl ⟨s, c, h3, h5 c, h1⟩
  · have e : s = (mf0 2).toInt.toNat := by omega
    exact Or.inr ⟨fun i hi => h3 i (by omega), Or.inr ⟨h6 e, by omega⟩⟩
theorem PS.fl {q : Nat → Int32} {s : Nat} (h : PS tc mf0 s q) (h1 : s < (mf0 2).toInt.toNat → ¬ okc (TI tc) s) (h2 : s ≤ 15 ∨ ¬ (s - 15) % 5 = 0) : FL tc mf0 q :=
  ⟨s, h, h1, fun e q => by omega⟩
theorem PS.nx {q q' : Nat → Int32} {s : Nat} (h : PS tc mf0 s q) (hN : s < (mf0 2).toInt.toNat) (ho : okc (TI tc) s) (h3 : (q' 3).toInt = s + 1) (hq : ∀ j, j ≠ 3 → q' j = q j) : PS tc mf0 (s + 1) q' :=
  ⟨h3, hN, ok_ext h.2.2.1 ho, fun j hj => (hq j hj).trans (h.2.2.2 j hj)⟩
theorem eat_i (h : TR tf tc mf0 tt) {q : Nat → Int32} {s : Nat} (p : PS tc mf0 s q) {ch : Int32} {C : Int} (hch : ch.toInt = C) : (∃ q', P_X4_eat q tt ch = (1, q') ∧ (q' 3).toInt = s + 1 ∧ (∀ j, j ≠ 3 → q' j = q j) ∧ s < (mf0 2).toInt.toNat ∧ TI tc s = C) ∨ (∃ q', P_X4_eat q tt ch = (0, q') ∧ PS tc mf0 s q' ∧ (s < (mf0 2).toInt.toNat → ¬ TI tc s = C)) := by
  obtain ⟨p1, p2, p3, p4⟩ := p
  have hN := h.2.1
  have z1 : (1 : Int32).toInt = 1 := by decide
  have e2 : q 2 = mf0 2 := p4 2 (by decide)
  have a := toI_add (a := q 3) (b := 1) (by obtain ⟨_, _⟩ := hN; omega) (by obtain ⟨_, _⟩ := hN; omega)
  obtain ⟨hN1, hN2⟩ := hN
  have same : PS tc mf0 s (upd q 3 (q 3 + 0)) := ⟨by rw [upd_me, Int32.add_zero]; exact p1, p2, p3, fun j hj => (upd_o hj).trans (p4 j hj)⟩
  unfold P_X4_eat
  rw [e2]
  by_cases c : mf0 2 ≤ q 3
  · rw [if_pos c]
    rw [Int32.le_iff_toInt_le] at c
    exact Or.inr ⟨_, rfl, same, fun q => by omega⟩
  · rw [if_neg c]
    rw [Int32.le_iff_toInt_le] at c
    have en : (q 3).toNatClampNeg = s := by show (q 3).toInt.toNat = s; omega
    rw [en, (h.2.2.1 s (by omega)).symm]
    by_cases c2 : tc s = ch
    · rw [if_pos c2]
      exact Or.inl ⟨_, rfl, by rw [upd_me]; omega, fun j hj => upd_o hj, by omega, by show (tc s).toInt = C; rw [c2]; exact hch⟩
    · rw [if_neg c2]
      exact Or.inr ⟨_, rfl, same, fun _ q => c2 (Int32.toInt_inj.mp (Eq.trans (show (tc s).toInt = C from q) hch.symm))⟩
theorem put_nr (h : TR tf tc mf0 tt) {q : Nat → Int32} {s : Nat} (p : PS tc mf0 s q) (pr : Nat → Int32) (ax : Int32) {d lo hi u : Int32} {LO HI : Int} (hlo : lo.toInt = LO) (hhi : hi.toInt = HI) (hb : 0 ≤ LO ∧ HI ≤ 9999) {us : List Int} {n : Nat} (hn : us.length < n) (hu : UN u us) (e : P_X4_number q tt d lo hi = P_X4_number_28 tt d lo hi n u 0 q) :
    ∃ (w : Int32) (q' : Nat → Int32) (s' : Nat), P_X4_put q pr tt ax d lo hi = (if w = (-9999) then 0 else 1, q', upd pr ax.toNatClampNeg w) ∧ NR (TI tc) (mf0 2).toInt.toNat LO HI us 0 s w.toInt s' ∧ (q' 3).toInt = s' ∧ ∀ j, j ≠ 3 → q' j = q j := by
  obtain ⟨w, q', s', e1, e2, e3, e4⟩ := num_nr h hlo hhi hb us n u 0 q s hn hu (p.2.2.2 2 (by decide)) p.1 p.2.1 ⟨by decide, by decide⟩
  refine ⟨w, q', s', ?_, e2, e3, e4⟩
  rw [put_eq, e, e1]
theorem w_ne {w : Int32} (h : 0 ≤ w.toInt) : (if w = (-9999) then (0 : Int32) else 1) = 1 := if_neg (fun q => by rw [q] at h; exact absurd h (by decide))
theorem w_eq {w : Int32} (h : w.toInt = -9999) : (if w = (-9999) then (0 : Int32) else 1) = 0 := if_pos (Int32.toInt_inj.mp (h.trans (by decide)))
/-- what a put leaves: an error, or k characters more and the number -/
def PO (tc mf0 : Nat → Int32) (s k : Nat) (pr : Nat → Int32) (ax : Int32) (val : Int) (r : Int32 × (Nat → Int32) × (Nat → Int32)) : Prop := (∃ q' p', r = (0, q', p') ∧ FL tc mf0 q') ∨ (∃ w q', r = (1, q', upd pr ax.toNatClampNeg w) ∧ w.toInt = val ∧ PS tc mf0 (s + k) q')
theorem put_1 (h : TR tf tc mf0 tt) {q : Nat → Int32} {s : Nat} (p : PS tc mf0 s q) (pr : Nat → Int32) (ax : Int32) (hs : s ≤ 15) (hok : cdg 0 3 0 1 (TI tc s) ↔ okc (TI tc) s) : PO tc mf0 s 1 pr ax (TI tc s - 48) (P_X4_put q pr tt ax 1 0 3) := by
  obtain ⟨w, q', s', e1, e2, e3, e4⟩ := put_nr h p pr ax (d := 1) (lo := 0) (hi := 3) (LO := 0) (HI := 3) (by decide) (by decide) ⟨by decide, by decide⟩ (n := 2) (by decide) un_1 (num_1 q 0 3)
  rw [e1]
  rcases e2 with ⟨a, b, c⟩ | ⟨a, b, c, d⟩
  · rw [w_eq a]
    subst b
    exact Or.inl ⟨q', _, rfl, PS.fl ⟨e3, p.2.1, p.2.2.1, fun j hj => (e4 j hj).trans (p.2.2.2 j hj)⟩ (fun q2 q3 => c q2 (hok.mpr q3)) (Or.inl hs)⟩
  · have hd := b.1
    obtain ⟨hd1, hd2⟩ := hd
    rw [w_ne (by omega)]
    subst d
    exact Or.inr ⟨w, q', rfl, by omega, PS.nx p a (hok.mp b) e3 e4⟩
theorem PS.st {q q' : Nat → Int32} {s s' : Nat} (h : PS tc mf0 s q) (e : s' = s) (h3 : (q' 3).toInt = s') (hq : ∀ j, j ≠ 3 → q' j = q j) : PS tc mf0 s' q' := by
  subst e
  exact ⟨h3, h.2.1, h.2.2.1, fun j hj => (hq j hj).trans (h.2.2.2 j hj)⟩
/-- a part of a number is read -/
theorem PS.mv {q : Nat → Int32} {s : Nat} (h : PS tc mf0 s q) (hN : s < (mf0 2).toInt.toNat) (ho : okc (TI tc) s) : PS tc mf0 (s + 1) (upd q 3 (Int32.ofNat (s + 1))) := by
  refine ⟨?_, hN, ok_ext h.2.2.1 ho, fun j hj => (upd_o hj).trans (h.2.2.2 j hj)⟩
  rw [upd_me]
  have := (mf0 2).toInt_lt
  exact nI_toInt (by omega)
theorem mv_o {q q' : Nat → Int32} {x : Int32} (h : ∀ j, j ≠ 3 → q' j = q j) : ∀ j, j ≠ 3 → q' j = upd q 3 x j := fun j hj => (h j hj).trans (upd_o hj).symm
theorem put_2 (h : TR tf tc mf0 tt) {q : Nat → Int32} {s : Nat} (p : PS tc mf0 s q) (pr : Nat → Int32) (ax : Int32) {lo hi : Int32} {LO HI : Int} (hlo : lo.toInt = LO) (hhi : hi.toInt = HI) (hb : 0 ≤ LO ∧ HI ≤ 9999) (hs : s ≤ 14) (ok0 : cdg LO HI 0 10 (TI tc s) ↔ okc (TI tc) s) (ok1 : okc (TI tc) s → (cdg LO HI (0 + (TI tc s - 48) * 10) 1 (TI tc (s + 1)) ↔ okc (TI tc) (s + 1))) : PO tc mf0 s 2 pr ax (10 * (TI tc s - 48) + (TI tc (s + 1) - 48)) (P_X4_put q pr tt ax 2 lo hi) := by
  obtain ⟨w, q', s', e1, e2, e3, e4⟩ := put_nr h p pr ax (d := 2) hlo hhi hb (n := 11) (by decide) un_10 (num_2 q lo hi)
  rw [e1]
  rcases e2 with ⟨a, b, c⟩ | ⟨a, b, c⟩
  · rw [w_eq a]
    exact Or.inl ⟨q', _, rfl, PS.fl (PS.st p b e3 e4) (fun q2 q3 => c (by omega) (ok0.mpr (by rw [b] at q3; exact q3))) (Or.inl (by omega))⟩
  have o0 := ok0.mp b
  have p1 := PS.mv p a o0
  rcases c with ⟨a1, b1, c1⟩ | ⟨a1, b1, c1, d1⟩
  · rw [w_eq a1]
    exact Or.inl ⟨q', _, rfl, PS.fl (PS.st p1 b1 e3 (mv_o e4)) (fun q2 q3 => c1 (by omega) ((ok1 o0).mpr (by rw [b1] at q3; exact q3))) (Or.inl (by omega))⟩
  · obtain ⟨hd1, hd2⟩ := b.1
    obtain ⟨hd3, hd4⟩ := b1.1
    rw [w_ne (by omega)]
    exact Or.inr ⟨w, q', rfl, by omega, PS.nx p1 a1 ((ok1 o0).mp b1) (by omega) (mv_o e4)⟩
theorem put_4 (h : TR tf tc mf0 tt) {q : Nat → Int32} {s : Nat} (p : PS tc mf0 s q) (pr : Nat → Int32) (ax : Int32) {lo hi : Int32} {LO HI : Int} (hlo : lo.toInt = LO) (hhi : hi.toInt = HI) (hb : 0 ≤ LO ∧ HI ≤ 9999) (hs : s + 4 ≤ 15 ∨ (15 < s ∧ (s - 15) % 5 = 1)) (ok0 : cdg LO HI 0 1000 (TI tc s) ↔ okc (TI tc) s) (ok1 : okc (TI tc) s → (cdg LO HI (0 + (TI tc s - 48) * 1000) 100 (TI tc (s + 1)) ↔ okc (TI tc) (s + 1)))
    (ok2 : okc (TI tc) s → okc (TI tc) (s + 1) → (cdg LO HI (0 + (TI tc s - 48) * 1000 + (TI tc (s + 1) - 48) * 100) 10 (TI tc (s + 1 + 1)) ↔ okc (TI tc) (s + 1 + 1))) (ok3 : okc (TI tc) s → okc (TI tc) (s + 1) → okc (TI tc) (s + 1 + 1) → (cdg LO HI (0 + (TI tc s - 48) * 1000 + (TI tc (s + 1) - 48) * 100 + (TI tc (s + 1 + 1) - 48) * 10) 1 (TI tc (s + 1 + 1 + 1)) ↔ okc (TI tc) (s + 1 + 1 + 1))) :
    PO tc mf0 s 4 pr ax (1000 * (TI tc s - 48) + 100 * (TI tc (s + 1) - 48) + 10 * (TI tc (s + 2) - 48) + (TI tc (s + 3) - 48)) (P_X4_put q pr tt ax 4 lo hi) := by
  obtain ⟨w, q', s', e1, e2, e3, e4⟩ := put_nr h p pr ax (d := 4) hlo hhi hb (n := 1001) (by decide) un_1000 (num_4 q lo hi)
  rw [e1]
  rcases e2 with ⟨a, b, c⟩ | ⟨a, b, c⟩
  · rw [w_eq a]
    exact Or.inl ⟨q', _, rfl, PS.fl (PS.st p b e3 e4) (fun q2 q3 => c (by omega) (ok0.mpr (by rw [b] at q3; exact q3))) (by omega)⟩
  have o0 := ok0.mp b
  have p1 := PS.mv p a o0
  rcases c with ⟨a1, b1, c1⟩ | ⟨a1, b1, c1⟩
  · rw [w_eq a1]
    exact Or.inl ⟨q', _, rfl, PS.fl (PS.st p1 b1 e3 (mv_o e4)) (fun q2 q3 => c1 (by omega) ((ok1 o0).mpr (by rw [b1] at q3; exact q3))) (by omega)⟩
  have o1 := (ok1 o0).mp b1
  have p2 := PS.mv p1 a1 o1
  rcases c1 with ⟨a2, b2, c2⟩ | ⟨a2, b2, c2⟩
  · rw [w_eq a2]
    exact Or.inl ⟨q', _, rfl, PS.fl (PS.st p2 b2 e3 (mv_o (mv_o e4))) (fun q2 q3 => c2 (by omega) ((ok2 o0 o1).mpr (by rw [b2] at q3; exact q3))) (by omega)⟩
  have o2 := (ok2 o0 o1).mp b2
  have p3 := PS.mv p2 a2 o2
  rcases c2 with ⟨a3, b3, c3⟩ | ⟨a3, b3, c3, d3⟩
  · rw [w_eq a3]
    exact Or.inl ⟨q', _, rfl, PS.fl (PS.st p3 b3 e3 (mv_o (mv_o (mv_o e4)))) (fun q2 q3 => c3 (by omega) ((ok3 o0 o1 o2).mpr (by rw [b3] at q3; exact q3))) (by omega)⟩
  · obtain ⟨hd1, hd2⟩ := b.1
    obtain ⟨hd3, hd4⟩ := b1.1
    obtain ⟨hd5, hd6⟩ := b2.1
    obtain ⟨hd7, hd8⟩ := b3.1
    rw [w_ne (by omega)]
    refine Or.inr ⟨w, q', rfl, ?_, PS.nx p3 a3 ((ok3 o0 o1 o2).mp b3) (by omega) (mv_o (mv_o (mv_o e4)))⟩
    show w.toInt = 1000 * (TI tc s - 48) + 100 * (TI tc (s + 1) - 48) + 10 * (TI tc (s + 1 + 1) - 48) + (TI tc (s + 1 + 1 + 1) - 48)
    omega
end TY
