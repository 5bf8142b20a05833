/-! the whole text read by the reference -/
theorem ch_let {α β : Type} {P : β → Prop} {a a' : α} {f : α → β} (e : a = a') (h : P (f a')) : P (let x := a; f x) := by
  subst e
  exact h
theorem ch_pos {β : Type} {P : β → Prop} {c : Prop} {d : Decidable c} {a b : β} (hc : c) (h : P a) : P (if c then a else b) := by rw [if_pos hc]; exact h
theorem ch_neg {β : Type} {P : β → Prop} {c : Prop} {d : Decidable c} {a b : β} (hc : ¬ c) (h : P b) : P (if c then a else b) := by rw [if_neg hc]; exact h
theorem c3_0 (t : Int) : cdg 0 3 0 1 t ↔ (48 ≤ t ∧ t ≤ 51) := by unfold cdg dgc; omega
theorem cR_0 (t : Int) : cdg 0 9999 0 1000 t ↔ dgc t := by unfold cdg dgc; omega
theorem cR_1 {a : Int} (o : dgc a) (t : Int) : cdg 0 9999 (0 + (a - 48) * 1000) 100 t ↔ dgc t := by unfold dgc at o; unfold cdg dgc; omega
theorem cR_2 {a b : Int} (o : dgc a) (o1 : dgc b) (t : Int) : cdg 0 9999 (0 + (a - 48) * 1000 + (b - 48) * 100) 10 t ↔ dgc t := by unfold dgc at o o1; unfold cdg dgc; omega
theorem cR_3 {a b c : Int} (o : dgc a) (o1 : dgc b) (o2 : dgc c) (t : Int) : cdg 0 9999 (0 + (a - 48) * 1000 + (b - 48) * 100 + (c - 48) * 10) 1 t ↔ dgc t := by unfold dgc at o o1 o2; unfold cdg dgc; omega
theorem cE_0 (t : Int) : cdg 1 99 0 10 t ↔ dgc t := by unfold cdg dgc; omega
theorem cE_1 {a : Int} (o : dgc a) (t : Int) : cdg 1 99 (0 + (a - 48) * 10) 1 t ↔ (dgc t ∧ 0 < 10 * (a - 48) + (t - 48)) := by unfold dgc at o; unfold cdg dgc; omega
theorem cS_0 (t : Int) : cdg 0 50 0 10 t ↔ (48 ≤ t ∧ t ≤ 53) := by unfold cdg dgc; omega
theorem cS_1 {a : Int} (o : 48 ≤ a ∧ a ≤ 53) (t : Int) : cdg 0 50 (0 + (a - 48) * 10) 1 t ↔ (dgc t ∧ 10 * (a - 48) + (t - 48) ≤ 50) := by unfold cdg dgc; omega
theorem cD_0 (t : Int) : cdg 0 20 0 10 t ↔ (48 ≤ t ∧ t ≤ 50) := by unfold cdg dgc; omega
theorem cD_1 {a : Int} (o : 48 ≤ a ∧ a ≤ 50) (t : Int) : cdg 0 20 (0 + (a - 48) * 10) 1 t ↔ (dgc t ∧ 10 * (a - 48) + (t - 48) ≤ 20) := by unfold cdg dgc; omega
theorem cX_0 (t : Int) : cdg 1 9999 0 1000 t ↔ dgc t := by unfold cdg dgc; omega
theorem cX_1 {a : Int} (o : dgc a) (t : Int) : cdg 1 9999 (0 + (a - 48) * 1000) 100 t ↔ dgc t := by unfold dgc at o; unfold cdg dgc; omega
theorem cX_2 {a b : Int} (o : dgc a) (o1 : dgc b) (t : Int) : cdg 1 9999 (0 + (a - 48) * 1000 + (b - 48) * 100) 10 t ↔ dgc t := by unfold dgc at o o1; unfold cdg dgc; omega
theorem cX_3 {a b c : Int} (o : dgc a) (o1 : dgc b) (o2 : dgc c) (t : Int) : cdg 1 9999 (0 + (a - 48) * 1000 + (b - 48) * 100 + (c - 48) * 10) 1 t ↔ (dgc t ∧ 0 < 1000 * (a - 48) + 100 * (b - 48) + 10 * (c - 48) + (t - 48)) := by unfold dgc at o o1 o2; unfold cdg dgc; omega
theorem okc_15 (T : Nat → Int) (j : Nat) : okc T (j + 15) ↔ (j < 30 ∧ ((j % 5 = 0 → T (j + 15) = 120) ∧ (¬ j % 5 = 0 → dgc (T (j + 15))) ∧ (j % 5 = 4 → 0 < 1000 * (T (j + 12) - 48) + 100 * (T (j + 13) - 48) + 10 * (T (j + 14) - 48) + (T (j + 15) - 48)))) := Iff.rfl
theorem okd {T : Nat → Int} {s : Nat} (h : 15 ≤ s) (h2 : s < 45) (h3 : ¬ (s - 15) % 5 = 0) (h4 : ¬ (s - 15) % 5 = 4) : okc T s ↔ dgc (T s) := by
  obtain ⟨j, rfl⟩ : ∃ j, s = j + 15 := ⟨s - 15, by omega⟩
  rw [okc_15]
  have e : j + 15 - 15 = j := by omega
  rw [e] at h3 h4
  exact ⟨fun q => q.2.2.1 h3, fun q => ⟨by omega, fun q2 => absurd q2 h3, fun _ => q, fun q2 => absurd q2 h4⟩⟩
theorem okx {T : Nat → Int} {s : Nat} (h : 15 ≤ s) (h2 : s < 45) (h3 : (s - 15) % 5 = 0) : okc T s ↔ T s = 120 := by
  obtain ⟨j, rfl⟩ : ∃ j, s = j + 15 := ⟨s - 15, by omega⟩
  rw [okc_15]
  have e : j + 15 - 15 = j := by omega
  rw [e] at h3
  exact ⟨fun q => q.2.1 h3, fun q => ⟨by omega, fun _ => q, fun q2 => absurd h3 q2, fun q2 => by omega⟩⟩
theorem okl {T : Nat → Int} {s : Nat} (h : 15 < s) (h2 : s + 3 < 45) (h3 : (s - 15) % 5 = 1) : okc T (s + 1 + 1 + 1) ↔ (dgc (T (s + 1 + 1 + 1)) ∧ 0 < 1000 * (T s - 48) + 100 * (T (s + 1) - 48) + 10 * (T (s + 1 + 1) - 48) + (T (s + 1 + 1 + 1) - 48)) := by
  obtain ⟨j, rfl⟩ : ∃ j, s = j + 12 := ⟨s - 12, by omega⟩
  show okc T (j + 15) ↔ (dgc (T (j + 15)) ∧ 0 < 1000 * (T (j + 12) - 48) + 100 * (T (j + 13) - 48) + 10 * (T (j + 14) - 48) + (T (j + 15) - 48))
  rw [okc_15]
  have h4 : j % 5 = 4 := by omega
  exact ⟨fun q => ⟨q.2.2.1 (by omega), q.2.2.2 h4⟩, fun q => ⟨by omega, fun q2 => by omega, fun _ => q.1, fun _ => q.2⟩⟩
def U4 (T : Nat → Int) (j : Nat) : Int := 1000 * (T j - 48) + 100 * (T (j + 1) - 48) + 10 * (T (j + 2) - 48) + (T (j + 3) - 48)
/-- the page that the text tells, with K unknown resistors read -/
def PG (T : Nat → Int) (K : Nat) (pr : Nat → Int32) : Prop := ((pr 0).toInt = T 1 - 48 ∧ (pr 1).toInt = T 2 - 48 ∧ (pr 2).toInt = U4 T 3 ∧ (pr 3).toInt = 10 * (T 7 - 48) + (T 8 - 48) ∧ (pr 4).toInt = T 9 - 48 ∧ (pr 5).toInt = (if T 10 = 45 then -(10 * (T 11 - 48) + (T 12 - 48)) else 10 * (T 11 - 48) + (T 12 - 48)) ∧ (pr 6).toInt = 10 * (T 13 - 48) + (T 14 - 48)) ∧ (∀ i, i < K → (pr (15 + i)).toInt = U4 T (16 + 5 * i)) ∧ (pr 9).toInt = K ∧ (pr 7 = 0 ∧ pr 8 = 0 ∧ pr 10 = 0 ∧ pr 11 = 0 ∧ pr 12 = 0 ∧ pr 13 = 0 ∧ pr 14 = 0)
def RS (tc mf0 : Nat → Int32) (u : Int32 × (Nat → Int32) × (Nat → Int32)) : Prop := (u.1 = 0 ∧ FL tc mf0 u.2.1) ∨ (u.1 = 1 ∧ PS tc mf0 (mf0 2).toInt.toNat u.2.1 ∧ ∃ K, (mf0 2).toInt.toNat = 15 + 5 * K ∧ 1 ≤ K ∧ K ≤ 6 ∧ PG (TI tc) K u.2.2)
section TZ
variable {tf tc mf0 tt : Nat → Int32}
theorem pg_nx {pr : Nat → Int32} {K : Nat} {w : Int32} (h : PG (TI tc) K pr) (hK : K < 6) (hw : w.toInt = U4 (TI tc) (16 + 5 * K)) : PG (TI tc) (K + 1) (upd (upd pr (15 + pr 9).toNatClampNeg w) 9 ((upd pr (15 + pr 9).toNatClampNeg w) 9 + 1)) := by
  obtain ⟨⟨a0, a1, a2, a3, a4, a5, a6⟩, b, c, d7, d8, d10, d11, d12, d13, d14⟩ := h
  have z15 : (15 : Int32).toInt = 15 := by decide
  have z1 : (1 : Int32).toInt = 1 := by decide
  have s := toI_add (a := 15) (b := pr 9) (by omega) (by omega)
  have s2 := toI_add (a := pr 9) (b := 1) (by omega) (by omega)
  have n : (15 + pr 9).toNatClampNeg = 15 + K := by show (15 + pr 9).toInt.toNat = _; omega
  have e9 : upd pr (15 + K) w 9 = pr 9 := upd_o (by omega)
  rw [n, e9]
  have lo : ∀ j, j < 15 → j ≠ 9 → upd (upd pr (15 + K) w) 9 (pr 9 + 1) j = pr j := fun j h1 h2 => by rw [upd_o h2, upd_o (by omega)]
  refine ⟨⟨by rw [lo 0 (by decide) (by decide)]; exact a0, by rw [lo 1 (by decide) (by decide)]; exact a1, by rw [lo 2 (by decide) (by decide)]; exact a2, by rw [lo 3 (by decide) (by decide)]; exact a3, by rw [lo 4 (by decide) (by decide)]; exact a4, by rw [lo 5 (by decide) (by decide)]; exact a5, by rw [lo 6 (by decide) (by decide)]; exact a6⟩, fun i hi => ?_, by rw [upd_me]; omega, by rw [lo 7 (by decide) (by decide)]; exact d7, by rw [lo 8 (by decide) (by decide)]; exact d8, by rw [lo 10 (by decide) (by decide)]; exact d10, by rw [lo 11 (by decide) (by decide)]; exact d11, by rw [lo 12 (by decide) (by decide)]; exact d12, by rw [lo 13 (by decide) (by decide)]; exact d13, by rw [lo 14 (by decide) (by decide)]; exact d14⟩
  rw [upd_o (by omega)]
  by_cases q : i = K
  · subst q; rw [upd_me]; exact hw
  · rw [upd_o (by omega)]; exact b i (by omega)
theorem un_lp (h : TR tf tc mf0 tt) : ∀ (n K : Nat) (q pr : Nat → Int32), PS tc mf0 (15 + 5 * K) q → K ≤ 6 → PG (TI tc) K pr → 6 - K < n → RS tc mf0 (P_X4_readAll_168 tt n q pr) := by
  intro n
  have z6 : (6 : Int32).toInt = 6 := by decide
  have z0 : (0 : Int32).toInt = 0 := by decide
  have hN := h.2.1
  induction n with
  | zero => intro K q pr _ _ _ hn; omega
  | succ n ih =>
    intro K q pr p hK g hn
    have g9 := g.2.2.1
    show RS tc mf0 (if 6 ≤ (pr 9) then (if (pr 9) ≤ 0 then (0, q, pr) else (if (q 3) = (q 2) then (1, q, pr) else (0, q, pr))) else ((fun u183 : Int32 × (Nat → Int32) => (if u183.1 = 0 then (if (pr 9) ≤ 0 then (0, u183.2, pr) else (if (u183.2 3) = (u183.2 2) then (1, u183.2, pr) else (0, u183.2, pr))) else ((fun u205 : Int32 × (Nat → Int32) × (Nat → Int32) => (if u205.1 = 0 then (0, u205.2.1, u205.2.2) else (P_X4_readAll_168 tt n u205.2.1 (upd u205.2.2 9 ((u205.2.2 9) + 1))))) (P_X4_put u183.2 pr tt (15 + (pr 9)) 4 1 9999)))) (P_X4_eat q tt 120)))
    by_cases c : 6 ≤ pr 9
    · refine ch_pos (P := RS tc mf0) c ?_
      rw [Int32.le_iff_toInt_le] at c
      have hK6 : K = 6 := by omega
      subst hK6
      refine ch_neg (P := RS tc mf0) (by rw [Int32.le_iff_toInt_le]; omega) ?_
      have e2 : q 2 = mf0 2 := p.2.2.2 2 (by decide)
      have p1 := p.1
      by_cases c2 : q 3 = q 2
      · refine ch_pos (P := RS tc mf0) c2 ?_
        rw [c2, e2] at p1
        obtain ⟨hN1, hN2⟩ := hN
        have e : (mf0 2).toInt.toNat = 15 + 5 * 6 := by omega
        exact Or.inr ⟨rfl, by rw [e]; exact p, 6, e, by decide, by decide, g⟩
      · refine ch_neg (P := RS tc mf0) c2 ?_
        refine Or.inl ⟨rfl, 45, p, fun _ q2 => ?_, fun e => absurd (Int32.toInt_inj.mp ?_) c2⟩
        · have h30 : (30 : Nat) < 30 := q2.1
          omega
        · rw [p1, e2]
          obtain ⟨hN1, hN2⟩ := hN
          omega
    · refine ch_neg (P := RS tc mf0) c ?_
      rw [Int32.le_iff_toInt_le] at c
      have hK6 : K < 6 := by omega
      rcases eat_i h p (ch := 120) (C := 120) (by decide) with ⟨q1, e1, a1, a2, a3, a4⟩ | ⟨q1, e1, p1, c1⟩
      · rw [e1]
        refine ch_neg (P := RS tc mf0) (show ¬ (1 : Int32) = 0 by decide) ?_
        have o0 : okc (TI tc) (15 + 5 * K) := (okx (by omega) (by omega) (by omega)).mpr a4
        have p1 := PS.nx p a3 o0 a1 a2
        have k1 := put_4 h p1 pr (15 + pr 9) (lo := 1) (hi := 9999) (LO := 1) (HI := 9999) (by decide) (by decide) ⟨by decide, by decide⟩ (Or.inr ⟨by omega, by omega⟩)
          ((cX_0 _).trans (okd (by omega) (by omega) (by omega) (by omega)).symm)
          (fun o => (cX_1 ((okd (by omega) (by omega) (by omega) (by omega)).mp o) _).trans (okd (by omega) (by omega) (by omega) (by omega)).symm)
          (fun o o1 => (cX_2 ((okd (by omega) (by omega) (by omega) (by omega)).mp o) ((okd (by omega) (by omega) (by omega) (by omega)).mp o1) _).trans (okd (by omega) (by omega) (by omega) (by omega)).symm)
          (fun o o1 o2 => (cX_3 ((okd (by omega) (by omega) (by omega) (by omega)).mp o) ((okd (by omega) (by omega) (by omega) (by omega)).mp o1) ((okd (by omega) (by omega) (by omega) (by omega)).mp o2) _).trans (okl (by omega) (by omega) (by omega)).symm)
        rcases k1 with ⟨q2, r2, e2, f2⟩ | ⟨w2, q2, e2, v2, p2⟩
        · rw [e2]
          refine ch_pos (P := RS tc mf0) rfl ?_
          exact Or.inl ⟨rfl, f2⟩
        · rw [e2]
          refine ch_neg (P := RS tc mf0) (show ¬ (1 : Int32) = 0 by decide) ?_
          have e5 : 15 + 5 * K + 1 + 4 = 15 + 5 * (K + 1) := by omega
          have e6 : 15 + 5 * K + 1 = 16 + 5 * K := by omega
          rw [e5] at p2
          rw [e6] at v2
          exact ih (K + 1) _ _ p2 (by omega) (pg_nx g hK6 v2) (by omega)
      · rw [e1]
        refine ch_pos (P := RS tc mf0) rfl ?_
        have no : 15 + 5 * K < (mf0 2).toInt.toNat → ¬ okc (TI tc) (15 + 5 * K) := fun q2 q3 => c1 q2 ((okx (by omega) (by omega) (by omega)).mp q3)
        by_cases c2 : pr 9 ≤ 0
        · refine ch_pos (P := RS tc mf0) c2 ?_
          rw [Int32.le_iff_toInt_le] at c2
          exact Or.inl ⟨rfl, PS.fl p1 no (by omega)⟩
        · refine ch_neg (P := RS tc mf0) c2 ?_
          rw [Int32.le_iff_toInt_le] at c2
          have e2 : q1 2 = mf0 2 := p1.2.2.2 2 (by decide)
          have p11 := p1.1
          obtain ⟨hN1, hN2⟩ := hN
          by_cases c3 : q1 3 = q1 2
          · refine ch_pos (P := RS tc mf0) c3 ?_
            rw [c3, e2] at p11
            have e : (mf0 2).toInt.toNat = 15 + 5 * K := by omega
            exact Or.inr ⟨rfl, by rw [e]; exact p1, K, e, by omega, hK, g⟩
          · refine ch_neg (P := RS tc mf0) c3 ?_
            refine Or.inl ⟨rfl, _, p1, no, fun e => absurd (Int32.toInt_inj.mp ?_) c3⟩
            rw [p11, e2]
            omega
theorem ra_tail (h : TR tf tc mf0 tt) {q pr : Nat → Int32} (p : PS tc mf0 15 q) (x : Int32) (h9 : pr 9 = 0) (hz : pr 7 = 0 ∧ pr 8 = 0 ∧ pr 10 = 0 ∧ pr 11 = 0 ∧ pr 12 = 0 ∧ pr 13 = 0 ∧ pr 14 = 0) (h0 : (pr 0).toInt = TI tc 1 - 48 ∧ (pr 1).toInt = TI tc 2 - 48 ∧ (pr 2).toInt = U4 (TI tc) 3 ∧ (pr 3).toInt = 10 * (TI tc 7 - 48) + (TI tc 8 - 48) ∧ (pr 4).toInt = TI tc 9 - 48) (hx : x.toInt = (if TI tc 10 = 45 then -(10 * (TI tc 11 - 48) + (TI tc 12 - 48)) else 10 * (TI tc 11 - 48) + (TI tc 12 - 48))) (h6 : (pr 6).toInt = 10 * (TI tc 13 - 48) + (TI tc 14 - 48)) :
    RS tc mf0 (P_X4_readAll_168 tt ((7 - ((upd pr 5 x) 9).toInt).toNat + 1) q (upd pr 5 x)) := by
  have e9 : (upd pr 5 x) 9 = 0 := (upd_o (by decide)).trans h9
  rw [e9]
  obtain ⟨d7, d8, d10, d11, d12, d13, d14⟩ := hz
  obtain ⟨a0, a1, a2, a3, a4⟩ := h0
  refine un_lp h _ 0 q (upd pr 5 x) p (by decide) ⟨⟨?_, ?_, ?_, ?_, ?_, ?_, ?_⟩, fun i hi => absurd hi (Nat.not_lt_zero _), by rw [e9]; rfl, (upd_o (by decide)).trans d7, (upd_o (by decide)).trans d8, (upd_o (by decide)).trans d10, (upd_o (by decide)).trans d11, (upd_o (by decide)).trans d12, (upd_o (by decide)).trans d13, (upd_o (by decide)).trans d14⟩ (by decide)
  · rw [upd_o (by decide)]; exact a0
  · rw [upd_o (by decide)]; exact a1
  · rw [upd_o (by decide)]; exact a2
  · rw [upd_o (by decide)]; exact a3
  · rw [upd_o (by decide)]; exact a4
  · rw [upd_me]; exact hx
  · rw [upd_o (by decide)]; exact h6
theorem neg_v {w : Int32} {V : Int} (h : w.toInt = V) (hb : -1000 ≤ V) : (-w).toInt = -V := by rw [neg_i (by omega), h]
theorem ra_mid (h : TR tf tc mf0 tt) {q pr : Nat → Int32} (p : PS tc mf0 11 q) (mn : Int32) (hmn : (mn = 0 ∧ ¬ TI tc 10 = 45) ∨ (mn = 1 ∧ TI tc 10 = 45)) (hz : pr 7 = 0 ∧ pr 8 = 0 ∧ pr 10 = 0 ∧ pr 11 = 0 ∧ pr 12 = 0 ∧ pr 13 = 0 ∧ pr 14 = 0) (h9 : pr 9 = 0) (h0 : (pr 0).toInt = TI tc 1 - 48 ∧ (pr 1).toInt = TI tc 2 - 48 ∧ (pr 2).toInt = U4 (TI tc) 3 ∧ (pr 3).toInt = 10 * (TI tc 7 - 48) + (TI tc 8 - 48) ∧ (pr 4).toInt = TI tc 9 - 48) :
    RS tc mf0 ((fun u121 : Int32 × (Nat → Int32) × (Nat → Int32) => (if u121.1 = 0 then (0, u121.2.1, u121.2.2) else ((fun u134 : Int32 × (Nat → Int32) × (Nat → Int32) => (if u134.1 = 0 then (0, u134.2.1, u134.2.2) else (if mn = 0 then (P_X4_readAll_168 tt ((7 - ((upd u134.2.2 5 (u134.2.2 5)) 9).toInt).toNat + 1) u134.2.1 (upd u134.2.2 5 (u134.2.2 5))) else (P_X4_readAll_168 tt ((7 - ((upd u134.2.2 5 (-(u134.2.2 5))) 9).toInt).toNat + 1) u134.2.1 (upd u134.2.2 5 (-(u134.2.2 5))))))) (P_X4_put u121.2.1 u121.2.2 tt 6 2 0 20)))) (P_X4_put q pr tt 5 2 0 50)) := by
  rcases put_2 h p pr 5 (lo := 0) (hi := 50) (LO := 0) (HI := 50) (by decide) (by decide) ⟨by decide, by decide⟩ (by decide) (cS_0 _) (fun o => cS_1 o _) with ⟨q1, r1, e1, f1⟩ | ⟨w1, q1, e1, v1, p1⟩
  · rw [e1]
    refine ch_pos (P := RS tc mf0) rfl ?_
    exact Or.inl ⟨rfl, f1⟩
  rw [e1]
  refine ch_neg (P := RS tc mf0) (show ¬ (1 : Int32) = 0 by decide) ?_
  have p1 : PS tc mf0 13 q1 := p1
  rcases put_2 h p1 (upd pr (5 : Int32).toNatClampNeg w1) 6 (lo := 0) (hi := 20) (LO := 0) (HI := 20) (by decide) (by decide) ⟨by decide, by decide⟩ (by decide) (cD_0 _) (fun o => cD_1 o _) with ⟨q2, r2, e2, f2⟩ | ⟨w2, q2, e2, v2, p2⟩
  · rw [e2]
    refine ch_pos (P := RS tc mf0) rfl ?_
    exact Or.inl ⟨rfl, f2⟩
  rw [e2]
  refine ch_neg (P := RS tc mf0) (show ¬ (1 : Int32) = 0 by decide) ?_
  have p2 : PS tc mf0 15 q2 := p2
  have lo : ∀ j, j ≠ 5 → j ≠ 6 → upd (upd pr 5 w1) 6 w2 j = pr j := fun j h1 h2 => by rw [upd_o h2, upd_o h1]
  have m5 : upd (upd pr 5 w1) 6 w2 5 = w1 := by rw [upd_o (by decide), upd_me]
  have m6 : upd (upd pr 5 w1) 6 w2 6 = w2 := upd_me
  obtain ⟨d7, d8, d10, d11, d12, d13, d14⟩ := hz
  obtain ⟨a0, a1, a2, a3, a4⟩ := h0
  have o11 : okc (TI tc) 11 := p2.2.2.1 11 (by decide)
  have o12 : okc (TI tc) 12 := p2.2.2.1 12 (by decide)
  have o11 : 48 ≤ TI tc 11 ∧ TI tc 11 ≤ 53 := o11
  have o12 : dgc (TI tc 12) ∧ 10 * (TI tc 11 - 48) + (TI tc 12 - 48) ≤ 50 := o12
  have v1 : w1.toInt = 10 * (TI tc 11 - 48) + (TI tc 12 - 48) := v1
  have v2 : w2.toInt = 10 * (TI tc 13 - 48) + (TI tc 14 - 48) := v2
  have b12 : 48 ≤ TI tc 12 := o12.1.1
  have tl : ∀ x : Int32, x.toInt = (if TI tc 10 = 45 then -(10 * (TI tc 11 - 48) + (TI tc 12 - 48)) else 10 * (TI tc 11 - 48) + (TI tc 12 - 48)) → RS tc mf0 (P_X4_readAll_168 tt ((7 - ((upd (upd (upd pr 5 w1) 6 w2) 5 x) 9).toInt).toNat + 1) q2 (upd (upd (upd pr 5 w1) 6 w2) 5 x)) := fun x hx =>
    ra_tail h p2 x ((lo 9 (by decide) (by decide)).trans h9) ⟨(lo 7 (by decide) (by decide)).trans d7, (lo 8 (by decide) (by decide)).trans d8, (lo 10 (by decide) (by decide)).trans d10, (lo 11 (by decide) (by decide)).trans d11, (lo 12 (by decide) (by decide)).trans d12, (lo 13 (by decide) (by decide)).trans d13, (lo 14 (by decide) (by decide)).trans d14⟩ ⟨by rw [lo 0 (by decide) (by decide)]; exact a0, by rw [lo 1 (by decide) (by decide)]; exact a1, by rw [lo 2 (by decide) (by decide)]; exact a2, by rw [lo 3 (by decide) (by decide)]; exact a3, by rw [lo 4 (by decide) (by decide)]; exact a4⟩ hx (by rw [m6]; exact v2)
  rcases hmn with ⟨k1, k2⟩ | ⟨k1, k2⟩
  · refine ch_pos (P := RS tc mf0) k1 ?_
    refine tl (upd (upd pr 5 w1) 6 w2 5) ?_
    rw [m5, if_neg k2]
    exact v1
  · refine ch_neg (P := RS tc mf0) (by rw [k1]; decide) ?_
    refine tl (-(upd (upd pr 5 w1) 6 w2 5)) ?_
    rw [m5, if_pos k2]
    exact neg_v v1 (by omega)
set_option maxHeartbeats 4000000 in
theorem ra_101 (h : TR tf tc mf0 tt) {q pr : Nat → Int32} (p : PS tc mf0 0 q) (hz : ∀ j : Nat, j < 101 → pr j = 0) : RS tc mf0 (P_X4_readAll_7 tt 1 101 q pr) := by
  show RS tc mf0 (if (101 : Int32) ≤ 101 then ((fun u29 : Int32 × (Nat → Int32) => (if u29.1 = 0 then (0, u29.2, pr) else ((fun u40 : Int32 × (Nat → Int32) × (Nat → Int32) => (if u40.1 = 0 then (0, u40.2.1, u40.2.2) else ((fun u51 : Int32 × (Nat → Int32) × (Nat → Int32) => (if u51.1 = 0 then (0, u51.2.1, u51.2.2) else ((fun u64 : Int32 × (Nat → Int32) × (Nat → Int32) => (if u64.1 = 0 then (0, u64.2.1, u64.2.2) else ((fun u76 : Int32 × (Nat → Int32) × (Nat → Int32) => (if u76.1 = 0 then (0, u76.2.1, u76.2.2) else ((fun u87 : Int32 × (Nat → Int32) × (Nat → Int32) => (if u87.1 = 0 then (0, u87.2.1, u87.2.2) else ((fun u98 : Int32 × (Nat → Int32) => (if u98.1 = 0 then ((fun u109 : Int32 × (Nat → Int32) => (if u109.1 = 0 then (0, u109.2, u87.2.2) else ((fun u121 : Int32 × (Nat → Int32) × (Nat → Int32) => (if u121.1 = 0 then (0, u121.2.1, u121.2.2) else ((fun u134 : Int32 × (Nat → Int32) × (Nat → Int32) => (if u134.1 = 0 then (0, u134.2.1, u134.2.2) else (if u98.1 = 0 then (P_X4_readAll_168 tt ((7 - ((upd u134.2.2 5 (u134.2.2 5)) 9).toInt).toNat + 1) u134.2.1 (upd u134.2.2 5 (u134.2.2 5))) else (P_X4_readAll_168 tt ((7 - ((upd u134.2.2 5 (-(u134.2.2 5))) 9).toInt).toNat + 1) u134.2.1 (upd u134.2.2 5 (-(u134.2.2 5))))))) (P_X4_put u121.2.1 u121.2.2 tt 6 2 0 20)))) (P_X4_put u109.2 u87.2.2 tt 5 2 0 50)))) (P_X4_eat u98.2 tt 43)) else ((fun u121 : Int32 × (Nat → Int32) × (Nat → Int32) => (if u121.1 = 0 then (0, u121.2.1, u121.2.2) else ((fun u134 : Int32 × (Nat → Int32) × (Nat → Int32) => (if u134.1 = 0 then (0, u134.2.1, u134.2.2) else (if u98.1 = 0 then (P_X4_readAll_168 tt ((7 - ((upd u134.2.2 5 (u134.2.2 5)) 9).toInt).toNat + 1) u134.2.1 (upd u134.2.2 5 (u134.2.2 5))) else (P_X4_readAll_168 tt ((7 - ((upd u134.2.2 5 (-(u134.2.2 5))) 9).toInt).toNat + 1) u134.2.1 (upd u134.2.2 5 (-(u134.2.2 5))))))) (P_X4_put u121.2.1 u121.2.2 tt 6 2 0 20)))) (P_X4_put u98.2 u87.2.2 tt 5 2 0 50)))) (P_X4_eat u87.2.1 tt 45)))) (P_X4_put u76.2.1 u76.2.2 tt 4 1 0 3)))) (P_X4_put u64.2.1 u64.2.2 tt 3 2 1 99)))) (P_X4_put u51.2.1 u51.2.2 tt 2 4 0 9999)))) (P_X4_put u40.2.1 u40.2.2 tt 1 1 0 3)))) (P_X4_put u29.2 pr tt 0 1 0 3)))) (P_X4_eat q tt 71)) else (P_X4_readAll_7 tt 0 (101 + 1) q (upd pr (101 : Int32).toNatClampNeg 0)))
  refine ch_pos (P := RS tc mf0) (by decide) ?_
  rcases eat_i h p (ch := 71) (C := 71) (by decide) with ⟨q1, e1, a1, a2, a3, a4⟩ | ⟨q1, e1, p1, c1⟩
  rotate_left
  · rw [e1]
    refine ch_pos (P := RS tc mf0) rfl ?_
    exact Or.inl ⟨rfl, PS.fl p1 c1 (Or.inl (by decide))⟩
  rw [e1]
  refine ch_neg (P := RS tc mf0) (show ¬ (1 : Int32) = 0 by decide) ?_
  have p1 : PS tc mf0 1 q1 := PS.nx p a3 a4 a1 a2
  rcases put_1 h p1 pr 0 (by decide) (c3_0 _) with ⟨q2, r2, e2, f2⟩ | ⟨w2, q2, e2, v2, p2⟩
  · rw [e2]
    refine ch_pos (P := RS tc mf0) rfl ?_
    exact Or.inl ⟨rfl, f2⟩
  rw [show (0 : Int32).toNatClampNeg = 0 from by decide] at e2
  rw [e2]
  refine ch_neg (P := RS tc mf0) (show ¬ (1 : Int32) = 0 by decide) ?_
  have p2 : PS tc mf0 2 q2 := p2
  rcases put_1 h p2 (upd pr 0 w2) 1 (by decide) (c3_0 _) with ⟨q3, r3, e3, f3⟩ | ⟨w3, q3, e3, v3, p3⟩
  · rw [e3]
    refine ch_pos (P := RS tc mf0) rfl ?_
    exact Or.inl ⟨rfl, f3⟩
  rw [show (1 : Int32).toNatClampNeg = 1 from by decide] at e3
  rw [e3]
  refine ch_neg (P := RS tc mf0) (show ¬ (1 : Int32) = 0 by decide) ?_
  have p3 : PS tc mf0 3 q3 := p3
  rcases put_4 h p3 (upd (upd pr 0 w2) 1 w3) 2 (lo := 0) (hi := 9999) (LO := 0) (HI := 9999) (by decide) (by decide) ⟨by decide, by decide⟩ (Or.inl (by decide)) (cR_0 _) (fun o => cR_1 o _) (fun o o1 => cR_2 o o1 _) (fun o o1 o2 => cR_3 o o1 o2 _) with ⟨q4, r4, e4, f4⟩ | ⟨w4, q4, e4, v4, p4⟩
  · rw [e4]
    refine ch_pos (P := RS tc mf0) rfl ?_
    exact Or.inl ⟨rfl, f4⟩
  rw [show (2 : Int32).toNatClampNeg = 2 from by decide] at e4
  rw [e4]
  refine ch_neg (P := RS tc mf0) (show ¬ (1 : Int32) = 0 by decide) ?_
  have p4 : PS tc mf0 7 q4 := p4
  rcases put_2 h p4 (upd (upd (upd pr 0 w2) 1 w3) 2 w4) 3 (lo := 1) (hi := 99) (LO := 1) (HI := 99) (by decide) (by decide) ⟨by decide, by decide⟩ (by decide) (cE_0 _) (fun o => cE_1 o _) with ⟨q5, r5, e5, f5⟩ | ⟨w5, q5, e5, v5, p5⟩
  · rw [e5]
    refine ch_pos (P := RS tc mf0) rfl ?_
    exact Or.inl ⟨rfl, f5⟩
  rw [show (3 : Int32).toNatClampNeg = 3 from by decide] at e5
  rw [e5]
  refine ch_neg (P := RS tc mf0) (show ¬ (1 : Int32) = 0 by decide) ?_
  have p5 : PS tc mf0 9 q5 := p5
  rcases put_1 h p5 (upd (upd (upd (upd pr 0 w2) 1 w3) 2 w4) 3 w5) 4 (by decide) (c3_0 _) with ⟨q6, r6, e6, f6⟩ | ⟨w6, q6, e6, v6, p6⟩
  · rw [e6]
    refine ch_pos (P := RS tc mf0) rfl ?_
    exact Or.inl ⟨rfl, f6⟩
  rw [show (4 : Int32).toNatClampNeg = 4 from by decide] at e6
  rw [e6]
  refine ch_neg (P := RS tc mf0) (show ¬ (1 : Int32) = 0 by decide) ?_
  have p6 : PS tc mf0 10 q6 := p6
  have pz : ∀ j, 4 < j → j < 101 → upd (upd (upd (upd (upd pr 0 w2) 1 w3) 2 w4) 3 w5) 4 w6 j = 0 := fun j h1 h2 => by rw [upd_o (by omega), upd_o (by omega), upd_o (by omega), upd_o (by omega), upd_o (by omega)]; exact hz j h2
  have hzz : ∀ P5 : Nat → Int32, P5 = upd (upd (upd (upd (upd pr 0 w2) 1 w3) 2 w4) 3 w5) 4 w6 → P5 7 = 0 ∧ P5 8 = 0 ∧ P5 10 = 0 ∧ P5 11 = 0 ∧ P5 12 = 0 ∧ P5 13 = 0 ∧ P5 14 = 0 := fun P5 e => by
    rw [e]
    exact ⟨pz 7 (by decide) (by decide), pz 8 (by decide) (by decide), pz 10 (by decide) (by decide), pz 11 (by decide) (by decide), pz 12 (by decide) (by decide), pz 13 (by decide) (by decide), pz 14 (by decide) (by decide)⟩
  have h00 : ∀ P5 : Nat → Int32, P5 = upd (upd (upd (upd (upd pr 0 w2) 1 w3) 2 w4) 3 w5) 4 w6 → (P5 0).toInt = TI tc 1 - 48 ∧ (P5 1).toInt = TI tc 2 - 48 ∧ (P5 2).toInt = U4 (TI tc) 3 ∧ (P5 3).toInt = 10 * (TI tc 7 - 48) + (TI tc 8 - 48) ∧ (P5 4).toInt = TI tc 9 - 48 := fun P5 e => by
    rw [e]
    refine ⟨?_, ?_, ?_, ?_, ?_⟩
    · rw [upd_o (by decide), upd_o (by decide), upd_o (by decide), upd_o (by decide), upd_me]; exact v2
    · rw [upd_o (by decide), upd_o (by decide), upd_o (by decide), upd_me]; exact v3
    · rw [upd_o (by decide), upd_o (by decide), upd_me]; exact v4
    · rw [upd_o (by decide), upd_me]; exact v5
    · rw [upd_me]; exact v6
  rcases eat_i h p6 (ch := 45) (C := 45) (by decide) with ⟨q7, e7, a71, a72, a73, a74⟩ | ⟨q7, e7, p7, c7⟩
  · rw [e7]
    refine ch_neg (P := RS tc mf0) (show ¬ (1 : Int32) = 0 by decide) ?_
    have p7 : PS tc mf0 11 q7 := PS.nx p6 a73 (Or.inr a74) a71 a72
    exact ra_mid h p7 1 (Or.inr ⟨rfl, a74⟩) (hzz _ rfl) (pz 9 (by decide) (by decide)) (h00 _ rfl)
  · rw [e7]
    refine ch_pos (P := RS tc mf0) rfl ?_
    rcases eat_i h p7 (ch := 43) (C := 43) (by decide) with ⟨q8, e8, a81, a82, a83, a84⟩ | ⟨q8, e8, p8, c8⟩
    · rw [e8]
      refine ch_neg (P := RS tc mf0) (show ¬ (1 : Int32) = 0 by decide) ?_
      have p8 : PS tc mf0 11 q8 := PS.nx p7 a83 (Or.inl a84) a81 a82
      exact ra_mid h p8 0 (Or.inl ⟨rfl, by rw [a84]; decide⟩) (hzz _ rfl) (pz 9 (by decide) (by decide)) (h00 _ rfl)
    · rw [e8]
      refine ch_pos (P := RS tc mf0) rfl ?_
      exact Or.inl ⟨rfl, PS.fl p8 (fun q2 q3 => q3.elim (c8 q2) (c7 q2)) (Or.inl (by decide))⟩
theorem ra_z (q : Nat → Int32) : ∀ (n : Nat) (v : Int32) (pr : Nat → Int32), ZR pr v → ¬ v < 0 → v.toInt ≤ 101 → ((101 : Int32).toInt - v.toInt).toNat < n → ∃ pr0, (∀ j : Nat, j < 101 → pr0 j = 0) ∧ P_X4_readAll_7 tt n v q pr = P_X4_readAll_7 tt 1 101 q pr0 := by
  intro n
  have z : (101 : Int32).toInt = 101 := by decide
  have z1 : (1 : Int32).toInt = 1 := by decide
  have z0 : (0 : Int32).toInt = 0 := by decide
  induction n with
  | zero => intro v pr _ _ _ hn; omega
  | succ n ih =>
    intro v pr hz h0 h1 hn
    by_cases c : 101 ≤ v
    · have e : v = 101 := by
        rw [Int32.le_iff_toInt_le] at c
        exact Int32.toInt_inj.mp (by omega)
      subst e
      refine ⟨pr, fun j hj => hz j (by omega), ?_⟩
      conv => lhs; unfold P_X4_readAll_7
      conv => rhs; unfold P_X4_readAll_7
      rw [if_pos c, if_pos c]
    · have hz2 := zr_s hz h0 c
      have hmu := mu_up c
      rw [Int32.le_iff_toInt_le] at c
      rw [Int32.lt_iff_toInt_lt] at h0
      have a := toI_add (a := v) (b := 1) (by omega) (by omega)
      obtain ⟨pr0, k1, k2⟩ := ih (v + 1) _ hz2 (by rw [Int32.lt_iff_toInt_lt]; omega) (by omega) (by omega)
      refine ⟨pr0, k1, Eq.trans ?_ k2⟩
      conv => lhs; unfold P_X4_readAll_7
      rw [if_neg (by rw [Int32.le_iff_toInt_le]; omega)]
theorem ra_i (h : TR tf tc mf0 tt) (pr : Nat → Int32) : RS tc mf0 (P_X4_readAll mf0 pr tt) := by
  obtain ⟨pr0, k1, k2⟩ := ra_z (tt := tt) (upd mf0 3 0) (((101 : Int32).toInt - (0 : Int32).toInt).toNat + 1) 0 pr (zr_0 pr) (by decide) (by decide) (Nat.lt_succ_self _)
  unfold P_X4_readAll
  rw [k2]
  exact ra_101 h ⟨by rw [upd_me]; rfl, Nat.zero_le _, fun i hi => absurd hi (Nat.not_lt_zero _), fun j hj => upd_o hj⟩ k1
end TZ
