/-! answers alike: the text's calls -/
theorem i32_bv {x : Int32} (h : 0 ≤ x.toInt) : (x.toBitVec.toNat : Int) = x.toInt := by
  have e : x.toInt = x.toBitVec.toInt := rfl
  have hlt := x.toBitVec.isLt
  rw [e, BitVec.toInt_eq_toNat_cond] at h
  rw [e, BitVec.toInt_eq_toNat_cond]
  by_cases c : 2 * x.toBitVec.toNat < 2 ^ 32
  · rw [if_pos c]
  · rw [if_neg c] at h
    omega
theorem chr_i {c : Int32} (h : 0 ≤ c.toInt ∧ c.toInt ≤ 255) : ((c.toUInt32 % 65536).toInt32) = c := by
  rw [pk_char]
  have b := i32_bv h.1
  have e : c.toBitVec.toNat % 65536 = c.toInt.toNat := by omega
  rw [e]
  exact Int32.toInt_inj.mp (by rw [nI_toInt (by omega)]; omega)
theorem nar_ch {c : Int32} (h : 0 ≤ c.toInt ∧ c.toInt ≤ 255) : narrow .char (.int c) = .int c := by
  rw [← chr_i h]
  exact pk_nc c
section TW
variable {tf tc mf tt : Nat → Int32}
theorem TR.up (h : TR tf tc mf tt) {q : Nat → Int32} (hq : q 2 = mf 2) : TR tf tc q tt := by
  obtain ⟨a, b, c, d⟩ := h
  exact ⟨by rw [hq]; exact a, by rw [hq]; exact b, by rw [hq]; exact c, d⟩
theorem TR.ch (h : TR tf tc mf tt) : ∀ j, narrow .char (.int (tc j)) = .int (tc j) := fun j => nar_ch (h.2.2.2 j)
/-- the error position: both alike, nothing changed but the place of reading and what is read -/
theorem q_errorPosition (h : TR tf tc mf tt) (bf pr : Nat → Int32) : P_X3_errorPosition bf tf tc = (P_X4_errorPosition mf pr tt).1 ∧ ∀ j, j ≠ 3 → (P_X4_errorPosition mf pr tt).2.1 j = upd mf 0 0 j := by
  have h' : TR tf tc (upd mf 0 0) tt := h.up rfl
  have fe := fe_i h'
  have rs := ra_i h' pr
  have E : P_X4_errorPosition mf pr tt = (if (P_X4_readAll (upd mf 0 0) pr tt).1 = 0 then (((P_X4_readAll (upd mf 0 0) pr tt).2.1 3), (P_X4_readAll (upd mf 0 0) pr tt).2.1, (P_X4_readAll (upd mf 0 0) pr tt).2.2) else ((-9999), (P_X4_readAll (upd mf 0 0) pr tt).2.1, (P_X4_readAll (upd mf 0 0) pr tt).2.2)) := rfl
  rw [E]
  generalize P_X4_readAll (upd mf 0 0) pr tt = u at *
  rcases rs with ⟨a, b⟩ | ⟨a, p, K, k1, k2, k3, g⟩
  · rw [if_pos a]
    refine ⟨Int32.toInt_inj.mp (FE.uni fe b.fe), ?_⟩
    obtain ⟨s, p, -⟩ := b
    exact p.2.2.2
  · rw [if_neg (by rw [a]; decide)]
    refine ⟨Int32.toInt_inj.mp (FE.uni fe (Or.inr ⟨p.2.2.1, Or.inl ⟨by omega, by omega, (show (-9999 : Int32).toInt = -9999 by decide)⟩⟩)), p.2.2.2⟩
theorem q_clearText (h : TR tf tc mf tt) (bf : Nat → Int32) : (P_X3_clearText bf tf).1 = (P_X4_clearText mf).1 ∧ TR (P_X3_clearText bf tf).2 tc (P_X4_clearText mf).2 tt ∧ (∀ j, j ≠ 2 → (P_X4_clearText mf).2 j = upd mf 0 0 j) ∧ ∀ j, j ≠ 1 → (P_X3_clearText bf tf).2 j = tf j := by
  refine ⟨h.1, ⟨rfl, ⟨(show 0 ≤ (0 : Int32).toInt by decide), (show (0 : Int32).toInt ≤ 60 by decide)⟩, fun j hj => ?_, h.2.2.2⟩, fun j hj => upd_o hj, fun j hj => upd_o hj⟩
  have hj : (j : Int) < (0 : Int32).toInt := hj
  have z : (0 : Int32).toInt = 0 := by decide
  omega
theorem q_append (h : TR tf tc mf tt) (bf : Nat → Int32) (c : Int32) : ((P_X3_append bf tf tc c).1 = 0 ∨ (P_X3_append bf tf tc c).1 = 1 ∨ (P_X3_append bf tf tc c).1 = 2) ∧ TR (P_X3_append bf tf tc c).2.2.1 (P_X3_append bf tf tc c).2.2.2 (P_X4_append mf tt c).2.1 (P_X4_append mf tt c).2.2 ∧ (∀ j, j ≠ 2 → (P_X4_append mf tt c).2.1 j = upd mf 0 (hm 1 (P_X3_append bf tf tc c).1) j) ∧ ((P_X3_append bf tf tc c).1 = 0 → (P_X3_append bf tf tc c).2.1 = (P_X4_append mf tt c).1) ∧ (¬ (P_X3_append bf tf tc c).1 = 0 → (P_X3_append bf tf tc c).2 = (0, tf, tc)) := by
  unfold P_X3_append P_X4_append
  rcases io (v := c) (lo := 0) (hi := 255) (l := 0) (h := 255) (by decide) (by decide) with ⟨a, b, c1, d1⟩ | ⟨a, b⟩
  · rw [if_pos a, if_neg b]
    have z60 : (60 : Int32).toInt = 60 := by decide
    have z1 : (1 : Int32).toInt = 1 := by decide
    have z0 : (0 : Int32).toInt = 0 := by decide
    have z255 : (255 : Int32).toInt = 255 := by decide
    obtain ⟨h1, ⟨h2, h3⟩, h4, h5⟩ := id h
    by_cases q : mf 2 = 60
    · rw [if_pos q, if_neg (by rw [Int32.lt_iff_toInt_lt, h1, q]; decide)]
      exact ⟨Or.inr (Or.inr rfl), h.up rfl, fun j _ => rfl, fun q2 => absurd (show (2 : Int32) = 0 from q2) (by decide), fun _ => rfl⟩
    · have q3 : ¬ (mf 2).toInt = 60 := fun q2 => q (Int32.toInt_inj.mp (q2.trans z60.symm))
      rw [if_neg q, if_pos (by rw [Int32.lt_iff_toInt_lt, h1]; omega)]
      have ce : ((c.toUInt32 % 65536).toInt32) = c := chr_i ⟨by omega, by omega⟩
      have E : P_X2_put tf tc ((c.toUInt32 % 65536).toInt32) = (upd tf 1 (tf 1 + 1), upd tc (tf 1).toNatClampNeg c) := by
        unfold P_X2_put
        rw [ce, if_neg (by rw [Int32.lt_iff_toInt_lt, h1]; omega), if_neg (by rw [Int32.le_iff_toInt_le, h1]; omega)]
      rw [E]
      have a1 := toI_add (a := mf 2) (b := 1) (by omega) (by omega)
      have e2 : (upd (upd mf 0 0) 2 (mf 2 + 1)) 2 = mf 2 + 1 := upd_me
      refine ⟨Or.inl rfl, ⟨?_, ?_, fun j hj => ?_, fun j => ?_⟩, fun j hj => upd_o hj, fun _ => ?_, fun q2 => absurd rfl q2⟩
      · show upd tf 1 (tf 1 + 1) 1 = (upd (upd mf 0 0) 2 (mf 2 + 1)) 2
        rw [e2, upd_me, h1]
      · show TB ((upd (upd mf 0 0) 2 (mf 2 + 1)) 2)
        rw [e2]
        exact ⟨by omega, by omega⟩
      · have hj : (j : Int) < ((upd (upd mf 0 0) 2 (mf 2 + 1)) 2).toInt := hj
        rw [e2] at hj
        show upd tc (tf 1).toNatClampNeg c j = upd tt (mf 2).toNatClampNeg c j
        rw [h1]
        by_cases q4 : j = (mf 2).toNatClampNeg
        · rw [q4, upd_me, upd_me]
        · rw [upd_o q4, upd_o q4]
          have : (mf 2).toNatClampNeg = (mf 2).toInt.toNat := rfl
          exact h4 j (by omega)
      · show 0 ≤ (upd tc (tf 1).toNatClampNeg c j).toInt ∧ (upd tc (tf 1).toNatClampNeg c j).toInt ≤ 255
        by_cases q4 : j = (tf 1).toNatClampNeg
        · rw [q4, upd_me]; exact ⟨by omega, by omega⟩
        · rw [upd_o q4]; exact h5 j
      · show upd tf 1 (tf 1 + 1) 1 = mf 2 + 1
        rw [upd_me, h1]
  · rw [if_neg a, if_pos b]
    exact ⟨Or.inr (Or.inl rfl), h.up rfl, fun j _ => rfl, fun q2 => absurd (show (1 : Int32) = 0 from q2) (by decide), fun _ => rfl⟩
theorem unk_n (h : TR tf tc mf tt) {K : Nat} (hK : (mf 2).toInt.toNat = 15 + 5 * K) : (P_X2_unknowns tf).toInt = K := by
  have hN := h.2.1
  obtain ⟨hN1, hN2⟩ := hN
  have z15 : (15 : Int32).toInt = 15 := by decide
  have z5 : (5 : Int32).toInt = 5 := by decide
  unfold P_X2_unknowns
  rw [h.1]
  have s := toI_sub (a := mf 2) (b := 15) (by omega) (by omega)
  have d := i32_div (g := mf 2 - 15) (k := 5) (by omega) (by decide)
  rw [z5] at d
  omega
theorem unk_at (h : TR tf tc mf tt) {K : Nat} (hK : (mf 2).toInt.toNat = 15 + 5 * K) {x : Int32} {i : Nat} (hx : x.toInt = i) (hi : i < K) : (P_X2_unknownAt tf tc x).toInt = U4 (TI tc) (16 + 5 * i) := by
  have hN := h.2.1
  obtain ⟨hN1, hN2⟩ := hN
  have z15 : (15 : Int32).toInt = 15 := by decide
  have z5 : (5 : Int32).toInt = 5 := by decide
  have z1 : (1 : Int32).toInt = 1 := by decide
  have m : (5 * x).toInt = x.toInt * 5 := by
    rw [Int32.mul_comm]
    exact toI_mk z5 (by omega) (by omega)
  have a := toI_add (a := 15) (b := 5 * x) (by omega) (by omega)
  have b := toI_add (a := 15 + 5 * x) (b := 1) (by omega) (by omega)
  unfold P_X2_unknownAt
  exact dig4_i h (x := 15 + 5 * x + 1) (j := 16 + 5 * i) (by omega) (by omega)
theorem tk_lp (h : TR tf tc mf tt) (ce : Nat → Int32) {K : Nat} (hK : (mf 2).toInt.toNat = 15 + 5 * K) (hK6 : K ≤ 6) : ∀ (n : Nat) (v : Int32) (f oh lf : Nat → Int32) (i : Nat), v.toInt = i → (f 13).toInt = i → i ≤ K → (∀ j, j < i → (oh j).toInt = U4 (TI tc) (16 + 5 * j)) → ((6 : Int32).toInt - v.toInt).toNat < n →
    (∀ j, j ≠ 13 → j ≠ 14 → (P_X1_take_128 ce tf tc n v f oh lf).1 j = f j) ∧ ((P_X1_take_128 ce tf tc n v f oh lf).1 13).toInt = K ∧ (P_X1_take_128 ce tf tc n v f oh lf).1 14 = 0 ∧ (∀ j, j < K → ((P_X1_take_128 ce tf tc n v f oh lf).2.1 j).toInt = U4 (TI tc) (16 + 5 * j)) ∧ (P_X1_take_128 ce tf tc n v f oh lf).2.2 1 = 0 ∧ (P_X1_take_128 ce tf tc n v f oh lf).2.2 2 = 0 := by
  intro n
  have z6 : (6 : Int32).toInt = 6 := by decide
  have z1 : (1 : Int32).toInt = 1 := by decide
  have z0 : (0 : Int32).toInt = 0 := by decide
  have un := unk_n h hK
  induction n with
  | zero => intro v f oh lf i _ _ _ _ hn; omega
  | succ n ih =>
    intro v f oh lf i hv hf hi ho hn
    have E : P_X1_take_128 ce tf tc (n + 1) v f oh lf = (if (P_X2_unknowns tf) ≤ v then ((upd f 14 0), oh, P_X0_wipe lf) else (if 6 ≤ v then ((upd f 14 0), oh, P_X0_wipe lf) else (P_X1_take_128 ce tf tc n (v + 1) (P_X1_putUnknown f oh (P_X2_unknownAt tf tc v)).1 (P_X1_putUnknown f oh (P_X2_unknownAt tf tc v)).2 lf))) := rfl
    rw [E]
    by_cases c : P_X2_unknowns tf ≤ v
    · rw [if_pos c]
      rw [Int32.le_iff_toInt_le] at c
      have e : i = K := by omega
      subst e
      exact ⟨fun j _ h14 => upd_o h14, by show ((upd f 14 0) 13).toInt = _; rw [upd_o (by decide)]; exact hf, (show upd f 14 0 14 = 0 from upd_me), ho, rfl, rfl⟩
    · rw [if_neg c]
      rw [Int32.le_iff_toInt_le] at c
      rw [if_neg (by rw [Int32.le_iff_toInt_le]; omega)]
      have a := toI_add (a := v) (b := 1) (by omega) (by omega)
      have a2 := toI_add (a := f 13) (b := 1) (by omega) (by omega)
      have E2 : P_X1_putUnknown f oh (P_X2_unknownAt tf tc v) = (upd f 13 (f 13 + 1), upd oh i (P_X2_unknownAt tf tc v)) := by
        have n13 : (f 13).toNatClampNeg = i := by show (f 13).toInt.toNat = i; omega
        unfold P_X1_putUnknown
        rw [if_neg (by rw [Int32.lt_iff_toInt_lt]; omega), if_neg (by rw [Int32.le_iff_toInt_le]; omega), n13]
      rw [E2]
      obtain ⟨i1, i2, i3, i4, i5, i6⟩ := ih (v + 1) (upd f 13 (f 13 + 1)) (upd oh i (P_X2_unknownAt tf tc v)) lf (i + 1) (by omega) (by rw [upd_me]; omega) (by omega) (fun j hj => by
        by_cases q : j = i
        · subst q; rw [upd_me]; exact unk_at h hK hv (by omega)
        · rw [upd_o q]; exact ho j (by omega)) (by omega)
      exact ⟨fun j h13 h14 => (i1 j h13 h14).trans (upd_o h13), i2, i3, i4, i5, i6⟩
theorem okc_U4 {T : Nat → Int} {N K : Nat} (hN : N = 15 + 5 * K) (ho : ∀ i, i < N → okc T i) {i : Nat} (hi : i < K) : 1 ≤ U4 T (16 + 5 * i) ∧ U4 T (16 + 5 * i) ≤ 9999 := by
  have hK : K ≤ 6 := by
    by_cases q : K ≤ 6
    · exact q
    · have h30 : (30 : Nat) < 30 := (ho 45 (by omega)).1
      omega
  have o0 := (okd (by omega) (by omega) (by omega) (by omega)).mp (ho (16 + 5 * i) (by omega))
  have o1 := (okd (by omega) (by omega) (by omega) (by omega)).mp (ho (16 + 5 * i + 1) (by omega))
  have o2 := (okd (by omega) (by omega) (by omega) (by omega)).mp (ho (16 + 5 * i + 1 + 1) (by omega))
  have o3 := (okl (by omega) (by omega) (by omega)).mp (ho (16 + 5 * i + 1 + 1 + 1) (by omega))
  unfold dgc at o0 o1 o2 o3
  show 1 ≤ 1000 * (T (16 + 5 * i) - 48) + 100 * (T (16 + 5 * i + 1) - 48) + 10 * (T (16 + 5 * i + 1 + 1) - 48) + (T (16 + 5 * i + 1 + 1 + 1) - 48) ∧ 1000 * (T (16 + 5 * i) - 48) + 100 * (T (16 + 5 * i + 1) - 48) + 10 * (T (16 + 5 * i + 1 + 1) - 48) + (T (16 + 5 * i + 1 + 1 + 1) - 48) ≤ 9999
  omega
/-- what the class takes from a text without an error is the page that the reference reads -/
theorem sr_take (h : TR tf tc mf tt) {q pr : Nat → Int32} {K : Nat} (p : PS tc mf (mf 2).toInt.toNat q) (hK : (mf 2).toInt.toNat = 15 + 5 * K) (hK1 : 1 ≤ K) (hK6 : K ≤ 6) (g : PG (TI tc) K pr) (f oh lf ce : Nat → Int32) : SR (P_X1_take f oh lf ce tf tc).1 (P_X1_take f oh lf ce tf tc).2.1 (P_X1_take f oh lf ce tf tc).2.2 ce pr := by
  have hN := h.2.1
  obtain ⟨hN1, hN2⟩ := hN
  have ho := p.2.2.1
  have z0 : (0 : Int32).toInt = 0 := by decide
  obtain ⟨⟨g0, g1, g2, g3, g4, g5, g6⟩, gb, g9, g7, g8, g10, g11, g12, g13, g14⟩ := g
  have o1 : 48 ≤ TI tc 1 ∧ TI tc 1 ≤ 51 := ho 1 (by omega)
  have o2 : 48 ≤ TI tc 2 ∧ TI tc 2 ≤ 51 := ho 2 (by omega)
  have o3 : dgc (TI tc 3) := ho 3 (by omega)
  have o4 : dgc (TI tc 4) := ho 4 (by omega)
  have o5 : dgc (TI tc 5) := ho 5 (by omega)
  have o6 : dgc (TI tc 6) := ho 6 (by omega)
  have o7 : dgc (TI tc 7) := ho 7 (by omega)
  have o8 : dgc (TI tc 8) ∧ 0 < 10 * (TI tc 7 - 48) + (TI tc 8 - 48) := ho 8 (by omega)
  have o9 : 48 ≤ TI tc 9 ∧ TI tc 9 ≤ 51 := ho 9 (by omega)
  have o11 : 48 ≤ TI tc 11 ∧ TI tc 11 ≤ 53 := ho 11 (by omega)
  have o12 : dgc (TI tc 12) ∧ 10 * (TI tc 11 - 48) + (TI tc 12 - 48) ≤ 50 := ho 12 (by omega)
  have o13 : 48 ≤ TI tc 13 ∧ TI tc 13 ≤ 50 := ho 13 (by omega)
  have o14 : dgc (TI tc 14) ∧ 10 * (TI tc 13 - 48) + (TI tc 14 - 48) ≤ 20 := ho 14 (by omega)
  unfold dgc at o3 o4 o5 o6 o7 o8 o12 o14
  have e2 : (pr 2).toInt = 1000 * (TI tc 3 - 48) + 100 * (TI tc 4 - 48) + 10 * (TI tc 5 - 48) + (TI tc 6 - 48) := g2
  have d0 := dig1_i h (x := 1) (j := 1) (by decide) (by omega)
  have d1 := dig1_i h (x := 2) (j := 2) (by decide) (by omega)
  have d2 := dig4_i h (x := 3) (j := 3) (by decide) (by omega)
  have d3 := dig2_i h (x := 7) (j := 7) (by decide) (by omega)
  have d4 := dig1_i h (x := 9) (j := 9) (by decide) (by omega)
  have d5 := dig2_i h (x := 11) (j := 11) (by decide) (by omega)
  have d6 := dig2_i h (x := 13) (j := 13) (by decide) (by omega)
  have key : ∀ x : Int32, x = pr 5 → SR (P_X1_take_128 ce tf tc ((((6 : Int32)).toInt - (0 : Int32).toInt).toNat + 1) 0 (upd (upd (upd (upd (upd (upd (upd (upd (upd (upd (upd (upd (upd f 0 (P_X2_digits tf tc 1 1)) 1 (P_X2_digits tf tc 2 1)) 2 (P_X2_digits tf tc 3 4)) 3 (P_X2_digits tf tc 7 2)) 4 (P_X2_digits tf tc 9 1)) 5 x) 6 (P_X2_digits tf tc 13 2)) 7 0) 8 0) 9 0) 10 0) 11 0) 13 0) oh lf).1 (P_X1_take_128 ce tf tc ((((6 : Int32)).toInt - (0 : Int32).toInt).toNat + 1) 0 (upd (upd (upd (upd (upd (upd (upd (upd (upd (upd (upd (upd (upd f 0 (P_X2_digits tf tc 1 1)) 1 (P_X2_digits tf tc 2 1)) 2 (P_X2_digits tf tc 3 4)) 3 (P_X2_digits tf tc 7 2)) 4 (P_X2_digits tf tc 9 1)) 5 x) 6 (P_X2_digits tf tc 13 2)) 7 0) 8 0) 9 0) 10 0) 11 0) 13 0) oh lf).2.1 (P_X1_take_128 ce tf tc ((((6 : Int32)).toInt - (0 : Int32).toInt).toNat + 1) 0 (upd (upd (upd (upd (upd (upd (upd (upd (upd (upd (upd (upd (upd f 0 (P_X2_digits tf tc 1 1)) 1 (P_X2_digits tf tc 2 1)) 2 (P_X2_digits tf tc 3 4)) 3 (P_X2_digits tf tc 7 2)) 4 (P_X2_digits tf tc 9 1)) 5 x) 6 (P_X2_digits tf tc 13 2)) 7 0) 8 0) 9 0) 10 0) 11 0) 13 0) oh lf).2.2 ce pr := by
    intro x hx
    have F : ∃ F : Nat → Int32, F = (upd (upd (upd (upd (upd (upd (upd (upd (upd (upd (upd (upd (upd f 0 (P_X2_digits tf tc 1 1)) 1 (P_X2_digits tf tc 2 1)) 2 (P_X2_digits tf tc 3 4)) 3 (P_X2_digits tf tc 7 2)) 4 (P_X2_digits tf tc 9 1)) 5 x) 6 (P_X2_digits tf tc 13 2)) 7 0) 8 0) 9 0) 10 0) 11 0) 13 0) := ⟨_, rfl⟩
    obtain ⟨F, eF⟩ := F
    have F0 : F 0 = P_X2_digits tf tc 1 1 := by rw [eF]; rfl
    have F1 : F 1 = P_X2_digits tf tc 2 1 := by rw [eF]; rfl
    have F2 : F 2 = P_X2_digits tf tc 3 4 := by rw [eF]; rfl
    have F3 : F 3 = P_X2_digits tf tc 7 2 := by rw [eF]; rfl
    have F4 : F 4 = P_X2_digits tf tc 9 1 := by rw [eF]; rfl
    have F5 : F 5 = x := by rw [eF]; rfl
    have F6 : F 6 = P_X2_digits tf tc 13 2 := by rw [eF]; rfl
    have F7 : F 7 = 0 := by rw [eF]; rfl
    have F8 : F 8 = 0 := by rw [eF]; rfl
    have F9 : F 9 = 0 := by rw [eF]; rfl
    have F10 : F 10 = 0 := by rw [eF]; rfl
    have F11 : F 11 = 0 := by rw [eF]; rfl
    have F13 : F 13 = 0 := by rw [eF]; rfl
    rw [← eF]
    clear eF
    obtain ⟨i1, i2, i3, i4, i5, i6⟩ := tk_lp h ce hK hK6 ((((6 : Int32)).toInt - (0 : Int32).toInt).toNat + 1) 0 F oh lf 0 (by decide) (by rw [F13]; decide) (Nat.zero_le _) (fun j hj => absurd hj (Nat.not_lt_zero _)) (Nat.lt_succ_self _)
    generalize P_X1_take_128 ce tf tc ((((6 : Int32)).toInt - (0 : Int32).toInt).toNat + 1) 0 F oh lf = u at *
    have e9 : pr 9 = u.1 13 := Int32.toInt_inj.mp (by rw [g9, i2])
    have e5 := g5
    have b5 : -50 ≤ (pr 5).toInt ∧ (pr 5).toInt ≤ 50 := by
      rw [e5]
      split <;> omega
    refine ⟨fun j hj => ?_, ⟨e9, by rw [g10, i3], by rw [g11, i1 9 (by decide) (by decide), F9], by rw [g12, i5], by rw [g13, i1 10 (by decide) (by decide), F10], by rw [g14, i1 11 (by decide) (by decide), F11]⟩, fun i hi => ?_, ⟨by rw [i6]; exact ⟨by decide, by decide⟩, fun j w hj hw => ?_⟩, ⟨by rw [g9]; exact ⟨by omega, by omega⟩, by rw [g10, g9, z0]; exact ⟨by decide, by omega⟩, fun i hi => ?_, by unfold RB; rw [e2]; exact ⟨by omega, by omega⟩, by rw [g12]; exact ⟨by decide, by decide⟩⟩, ⟨by rw [g3]; exact ⟨by omega, by omega⟩, b5, by rw [g6]; exact ⟨by omega, by omega⟩, by rw [g7]; exact ⟨by decide, by decide⟩, Or.inl g11⟩⟩
    · rw [i1 j (by omega) (by omega)]
      match j, hj with
      | 0, _ => rw [F0]; exact Int32.toInt_inj.mp (g0.trans d0.symm)
      | 1, _ => rw [F1]; exact Int32.toInt_inj.mp (g1.trans d1.symm)
      | 2, _ => rw [F2]; exact Int32.toInt_inj.mp (e2.trans d2.symm)
      | 3, _ => rw [F3]; exact Int32.toInt_inj.mp (g3.trans d3.symm)
      | 4, _ => rw [F4]; exact Int32.toInt_inj.mp (g4.trans d4.symm)
      | 5, _ => rw [F5]; exact hx.symm
      | 6, _ => rw [F6]; exact Int32.toInt_inj.mp (g6.trans d6.symm)
      | 7, _ => rw [F7]; exact g7
      | 8, _ => rw [F8]; exact g8
    · rw [i2] at hi
      exact Int32.toInt_inj.mp ((gb i (by omega)).trans (i4 i (by omega)).symm)
    · rw [i5, z0] at hj
      omega
    · rw [g9] at hi
      rw [gb i (by omega)]
      exact okc_U4 hK ho (by omega)
  have hl := let_i h (x := 10) (j := 10) (by decide) (by omega)
  have z45 : (45 : Int32).toInt = 45 := by decide
  unfold P_X1_take
  by_cases c : P_X2_letter tf tc 10 = 45
  · have ct : TI tc 10 = 45 := by
      show (tc 10).toInt = 45
      rw [← hl, c]
      exact z45
    rw [if_pos c]
    refine key _ (Int32.toInt_inj.mp ?_)
    rw [g5, if_pos ct]
    exact neg_v d5 (by omega)
  · have ct : ¬ TI tc 10 = 45 := fun q => c (Int32.toInt_inj.mp (by rw [hl, z45]; exact q))
    rw [if_neg c]
    refine key _ (Int32.toInt_inj.mp ?_)
    rw [g5, if_neg ct]
    exact d5
end TW
