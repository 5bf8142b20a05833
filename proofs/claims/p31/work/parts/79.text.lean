/-! a text that grows, letter by letter -/
theorem okc_cg {T T' : Nat → Int} : ∀ (i : Nat), (∀ j, j ≤ i → T j = T' j) → okc T i → okc T' i
  | 0, h, o => by have := h 0 (by omega); unfold okc at o ⊢; omega
  | 1, h, o => by have := h 1 (by omega); unfold okc at o ⊢; omega
  | 2, h, o => by have := h 2 (by omega); unfold okc at o ⊢; omega
  | 3, h, o => by have := h 3 (by omega); unfold okc dgc at o ⊢; omega
  | 4, h, o => by have := h 4 (by omega); unfold okc dgc at o ⊢; omega
  | 5, h, o => by have := h 5 (by omega); unfold okc dgc at o ⊢; omega
  | 6, h, o => by have := h 6 (by omega); unfold okc dgc at o ⊢; omega
  | 7, h, o => by have := h 7 (by omega); unfold okc dgc at o ⊢; omega
  | 8, h, o => by have := h 7 (by omega); have := h 8 (by omega); unfold okc dgc at o ⊢; omega
  | 9, h, o => by have := h 9 (by omega); unfold okc at o ⊢; omega
  | 10, h, o => by have := h 10 (by omega); unfold okc at o ⊢; omega
  | 11, h, o => by have := h 11 (by omega); unfold okc at o ⊢; omega
  | 12, h, o => by have := h 11 (by omega); have := h 12 (by omega); unfold okc dgc at o ⊢; omega
  | 13, h, o => by have := h 13 (by omega); unfold okc at o ⊢; omega
  | 14, h, o => by have := h 13 (by omega); have := h 14 (by omega); unfold okc dgc at o ⊢; omega
  | j + 15, h, o => by
    have a := h (j + 12) (by omega)
    have b := h (j + 13) (by omega)
    have c := h (j + 14) (by omega)
    have d := h (j + 15) (by omega)
    rw [okc_15] at o ⊢
    rw [a, b, c, d] at o
    exact o
/-- the text's letters, each allowed where it stands -/
def Lf (l : List Int) : Nat → Int := fun i => l.getD i 0
def TK (n : Int32) (tt : Pg) (l : List Int) : Prop := n = nI l.length ∧ l.length ≤ 50 ∧ (∀ i, i < l.length → TI tt i = Lf l i) ∧ ∀ i, i < l.length → okc (Lf l) i
theorem Lf_lo {l : List Int} {c : Int} {i : Nat} (h : i < l.length) : Lf (l ++ [c]) i = Lf l i := by
  unfold Lf
  rw [List.getD_eq_getElem?_getD, List.getD_eq_getElem?_getD, List.getElem?_append_left h]
theorem Lf_me {l : List Int} {c : Int} : Lf (l ++ [c]) l.length = c := by
  unfold Lf
  rw [List.getD_eq_getElem?_getD, List.getElem?_append_right (Nat.le_refl _), Nat.sub_self]
  rfl
theorem tk_0 (tt : Pg) : TK 0 tt [] := ⟨rfl, by decide, fun i h => absurd h (Nat.not_lt_zero i), fun i h => absurd h (Nat.not_lt_zero i)⟩
theorem tk_n {n : Int32} {tt : Pg} {l : List Int} (K : TK n tt l) : n.toInt = l.length := by
  rw [K.1, nI_toInt (by have := K.2.1; omega)]
theorem tk_ap {n : Int32} {tt : Pg} {l : List Int} (K : TK n tt l) {ch : Int32} {c : Int} (hc : ch.toInt = c) (hl : l.length < 50) (hok : okc (Lf (l ++ [c])) l.length) : TK (n + 1) (upd tt n.toNatClampNeg ch) (l ++ [c]) := by
  obtain ⟨h1, h2, h3, h4⟩ := K
  have en : n.toNatClampNeg = l.length := by rw [h1]; exact nI_clamp (by omega)
  refine ⟨by rw [h1, nI_1, List.length_append]; rfl, by rw [List.length_append]; simp; omega, fun i hi => ?_, fun i hi => ?_⟩
  · rw [List.length_append] at hi
    have hi : i < l.length + 1 := hi
    rw [en]
    by_cases q : i = l.length
    · subst q
      rw [Lf_me]
      show (upd tt l.length ch l.length).toInt = c
      rw [upd_me, hc]
    · rw [Lf_lo (by omega)]
      show (upd tt l.length ch i).toInt = _
      rw [upd_o q]
      exact h3 i (by omega)
  · rw [List.length_append] at hi
    have hi : i < l.length + 1 := hi
    by_cases q : i = l.length
    · subst q; exact hok
    · exact okc_cg i (fun j hj => (Lf_lo (by omega)).symm) (h4 i (by omega))
theorem tk_okT {n : Int32} {tt : Pg} {l : List Int} (K : TK n tt l) : ∀ i, i < l.length → okc (TI tt) i := fun i hi => okc_cg i (fun j hj => (K.2.2.1 j (by omega)).symm) (K.2.2.2 i hi)
theorem tk_N {n : Int32} {tt : Pg} {l : List Int} (K : TK n tt l) : n.toInt.toNat = l.length := by rw [tk_n K]; omega
theorem fe_in {n : Int32} {tt : Pg} {l : List Int} (K : TK n tt l) {r : Int} (hr : r = l.length) (h : ¬ (15 < l.length ∧ (l.length - 15) % 5 = 0)) : FE (TI tt) n.toInt.toNat r := by
  rw [tk_N K]
  exact Or.inr ⟨tk_okT K, Or.inr ⟨h, hr⟩⟩
theorem fe_ok {n : Int32} {tt : Pg} {l : List Int} (K : TK n tt l) (h : 15 < l.length ∧ (l.length - 15) % 5 = 0) : FE (TI tt) n.toInt.toNat (-9999) := by
  rw [tk_N K]
  exact Or.inr ⟨tk_okT K, Or.inl ⟨h.1, h.2, rfl⟩⟩
/-- a letter that is not allowed -/
theorem fe_bad {n : Int32} {tt : Pg} {l : List Int} (K : TK n tt l) {ch : Int32} {c : Int} (hc : ch.toInt = c) (hl : l.length < 50) (hok : ¬ okc (Lf (l ++ [c])) l.length) : FE (TI (upd tt n.toNatClampNeg ch)) (n + 1).toInt.toNat l.length := by
  obtain ⟨h1, h2, h3, h4⟩ := id K
  have en : n.toNatClampNeg = l.length := by rw [h1]; exact nI_clamp (by omega)
  have z1 : (1 : Int32).toInt = 1 := by decide
  have e1 := tk_n K
  have a := toI_add (a := n) (b := 1) (by omega) (by omega)
  have hv : ∀ j, j ≤ l.length → TI (upd tt n.toNatClampNeg ch) j = Lf (l ++ [c]) j := fun j hj => by
    rw [en]
    by_cases q : j = l.length
    · subst q
      rw [Lf_me]
      show (upd tt l.length ch l.length).toInt = c
      rw [upd_me, hc]
    · rw [Lf_lo (by omega)]
      show (upd tt l.length ch j).toInt = _
      rw [upd_o q]
      exact h3 j (by omega)
  refine Or.inl ⟨l.length, by omega, fun i hi => ?_, fun q => hok (okc_cg _ hv q), rfl⟩
  exact okc_cg i (fun j hj => by rw [hv j (by omega), Lf_lo (by omega)]) (h4 i hi)
theorem tk_two {n : Int32} {tt : Pg} {l : List Int} (K : TK n tt l) {v : Int32} {V : Int} (hv : v.toInt = V) (h0 : 0 ≤ V ∧ V ≤ 99) (hl : l.length < 49) (ok1 : okc (Lf (l ++ [48 + V / 10])) l.length) (ok2 : okc (Lf (l ++ [48 + V / 10] ++ [48 + V % 10])) (l.length + 1)) : TK (n + 1 + 1) (upd (upd tt n.toNatClampNeg (48 + v / 10)) (n + 1).toNatClampNeg (48 + (v - v / 10 * 10))) (l ++ [48 + V / 10] ++ [48 + V % 10]) := by
  have z : (48 : Int32).toInt = 48 := by decide
  have z10 : (10 : Int32).toInt = 10 := by decide
  have dv := div10 (x := v) (by omega)
  have a := toI_add (a := 48) (b := v / 10) (by omega) (by omega)
  have m := i32_mod (g := v) (k := 10) (by omega) (by decide)
  rw [z10] at m
  have a2 := toI_add (a := 48) (b := v - v / 10 * 10) (by omega) (by omega)
  have K1 := tk_ap K (ch := 48 + v / 10) (c := 48 + V / 10) (by omega) (by omega) ok1
  exact tk_ap K1 (ch := 48 + (v - v / 10 * 10)) (c := 48 + V % 10) (by omega) (by rw [List.length_append]; simp; omega) (by rw [List.length_append]; exact ok2)
/-- what the first fifteen letters say -/
def V15 (l : List Int) (box bat st y : Int32) : Prop := 15 ≤ l.length ∧ U4 (Lf l) 3 = box.toInt ∧ 10 * (Lf l 7 - 48) + (Lf l 8 - 48) = bat.toInt ∧ 10 * (Lf l 11 - 48) + (Lf l 12 - 48) = st.toInt ∧ (0 ≤ st.toInt ∧ st.toInt ≤ 50) ∧ (((y - y / 2 * 2) = 0 ∧ Lf l 10 = 43) ∨ (¬ (y - y / 2 * 2) = 0 ∧ Lf l 10 = 45))
theorem v15_ap {l : List Int} {box bat st y : Int32} (V : V15 l box bat st y) (c : Int) : V15 (l ++ [c]) box bat st y := by
  obtain ⟨h0, h1, h2, h3, h4, h5⟩ := V
  have e : ∀ j, j < 15 → Lf (l ++ [c]) j = Lf l j := fun j hj => Lf_lo (by omega)
  unfold V15 U4
  rw [e 3 (by decide), e (3 + 1) (by decide), e (3 + 2) (by decide), e (3 + 3) (by decide), e 7 (by decide), e 8 (by decide), e 11 (by decide), e 12 (by decide), e 10 (by decide)]
  exact ⟨by rw [List.length_append]; omega, h1, h2, h3, h4, h5⟩
section TLS
variable {n : Int32} {tt pg' : Pg} {l : List Int} {M K' : Nat} {many box bat st y : Int32}
theorem tl_9 {T : Nat → Int} (g : PG T K' pg') (h : K' = M) (hM : 1 ≤ M ∧ M ≤ 6) : pg' 9 = nI M := by
  subst h
  exact Int32.toInt_inj.mp (by rw [g.2.2.1, nI_toInt (by omega)])
theorem tl_T (K : TK n tt l) (V : V15 l box bat st y) {j : Nat} (hj : j < 15) : TI tt j = Lf l j := K.2.2.1 j (by have := V.1; omega)
theorem tl_2 (K : TK n tt l) (V : V15 l box bat st y) (g : PG (TI tt) K' pg') : pg' 2 = box := by
  refine Int32.toInt_inj.mp ?_
  rw [g.1.2.2.1]
  have h := V.2.1
  unfold U4 at h ⊢
  rw [tl_T K V (j := 3) (by decide), tl_T K V (j := 3 + 1) (by decide), tl_T K V (j := 3 + 2) (by decide), tl_T K V (j := 3 + 3) (by decide)]
  exact h
theorem tl_3 (K : TK n tt l) (V : V15 l box bat st y) (g : PG (TI tt) K' pg') : pg' 3 = bat := by
  refine Int32.toInt_inj.mp ?_
  rw [g.1.2.2.2.1, tl_T K V (j := 7) (by decide), tl_T K V (j := 8) (by decide)]
  exact V.2.2.1
theorem tl_5n (K : TK n tt l) (V : V15 l box bat st y) (g : PG (TI tt) K' pg') (c : ¬ (y - y / 2 * 2) = 0) : (-st) = pg' 5 := by
  refine Int32.toInt_inj.mp ?_
  have e := (V.2.2.2.2.2.resolve_left (fun q => c q.1)).2
  have b := V.2.2.2.2.1
  rw [g.1.2.2.2.2.2.1, tl_T K V (j := 10) (by decide), tl_T K V (j := 11) (by decide), tl_T K V (j := 12) (by decide), e, if_pos rfl, neg_i (by omega), V.2.2.2.1]
theorem tl_5p (K : TK n tt l) (V : V15 l box bat st y) (g : PG (TI tt) K' pg') (c : (y - y / 2 * 2) = 0) : st = pg' 5 := by
  refine Int32.toInt_inj.mp ?_
  have e := (V.2.2.2.2.2.resolve_right (fun q => q.1 c)).2
  rw [g.1.2.2.2.2.2.1, tl_T K V (j := 10) (by decide), tl_T K V (j := 11) (by decide), tl_T K V (j := 12) (by decide), e, if_neg (by decide), V.2.2.2.1]
theorem tl_e (h : many = nI M) (hM : 1 ≤ M ∧ M ≤ 6) : nI (15 + 5 * M) = (15 + (5 * many)) := by
  have z15 : (15 : Int32).toInt = 15 := by decide
  have z5 : (5 : Int32).toInt = 5 := by decide
  have em : many.toInt = M := by rw [h, nI_toInt (by omega)]
  have m := toI_mul (a := 5) (b := many) (by rw [z5]; omega) (by rw [z5]; omega)
  rw [z5] at m
  have a := toI_add (a := 15) (b := 5 * many) (by omega) (by omega)
  exact Int32.toInt_inj.mp (by rw [nI_toInt (by omega)]; omega)
theorem ok_121 (hl : l.length = 15 + 5 * M) : ¬ okc (Lf (l ++ [121])) l.length := by
  have e : l.length = 5 * M + 15 := by omega
  have hv : Lf (l ++ [121]) (5 * M + 15) = 121 := by rw [← e]; exact Lf_me
  rw [e, okc_15, hv]
  rintro ⟨-, h, -⟩
  exact absurd (h (by omega)) (by decide)
theorem ok_120 (hl : l.length = 15 + 5 * M) (hM : M < 6) : okc (Lf (l ++ [120])) l.length := (okx (by omega) (by omega) (by omega)).mpr Lf_me
theorem ok_dg {c : Int} (hl : 15 ≤ l.length ∧ l.length < 45) (h3 : ¬ (l.length - 15) % 5 = 0) (h4 : ¬ (l.length - 15) % 5 = 4) (hc : 48 ≤ c ∧ c ≤ 57) : okc (Lf (l ++ [c])) l.length := (okd hl.1 hl.2 h3 h4).mpr (by rw [Lf_me]; exact hc)
theorem ok_la {a b c d : Int} (hl : 15 < l.length ∧ l.length + 3 < 45) (h3 : (l.length - 15) % 5 = 1) (hd : 48 ≤ d ∧ d ≤ 57) (hp : 0 < 1000 * (a - 48) + 100 * (b - 48) + 10 * (c - 48) + (d - 48)) : okc (Lf (l ++ [a] ++ [b] ++ [c] ++ [d])) (l.length + 1 + 1 + 1) := by
  have n1 : (l ++ [a]).length = l.length + 1 := by rw [List.length_append]; rfl
  have n2 : (l ++ [a] ++ [b]).length = l.length + 1 + 1 := by rw [List.length_append, n1]; rfl
  have n3 : (l ++ [a] ++ [b] ++ [c]).length = l.length + 1 + 1 + 1 := by rw [List.length_append, n2]; rfl
  have ed : Lf (l ++ [a] ++ [b] ++ [c] ++ [d]) (l.length + 1 + 1 + 1) = d := by rw [← n3]; exact Lf_me
  have ec : Lf (l ++ [a] ++ [b] ++ [c] ++ [d]) (l.length + 1 + 1) = c := by rw [Lf_lo (by omega), ← n2]; exact Lf_me
  have eb : Lf (l ++ [a] ++ [b] ++ [c] ++ [d]) (l.length + 1) = b := by rw [Lf_lo (by omega), Lf_lo (by omega), ← n1]; exact Lf_me
  have ea : Lf (l ++ [a] ++ [b] ++ [c] ++ [d]) l.length = a := by rw [Lf_lo (by omega), Lf_lo (by omega), Lf_lo (by omega)]; exact Lf_me
  refine (okl hl.1 hl.2 h3).mpr ?_
  rw [ed, ec, eb, ea]
  exact ⟨hd, hp⟩
theorem bd_1 (hn : n.toInt = (l.length : Int)) (hl : l.length = 15 + 5 * M) (hM : M ≤ 6) (K : TK n tt l) : FE (TI (upd tt n.toNatClampNeg 121)) (n + 1).toInt.toNat ((15 + 5 * M : Nat) : Int) := by
  have h := fe_bad K (ch := 121) (c := 121) (by decide) (by omega) (ok_121 hl)
  rw [hl] at h
  exact h
end TLS
theorem z_b {r : Int32} (h : 0 ≤ r.toInt) : 1 ≤ ((r - r / 9999 * 9999) + 1).toInt ∧ ((r - r / 9999 * 9999) + 1).toInt ≤ 9999 := by
  have z1 : (1 : Int32).toInt = 1 := by decide
  have z : (9999 : Int32).toInt = 9999 := by decide
  have m := i32_mod (g := r) (k := 9999) h (by decide)
  rw [z] at m
  have a := toI_add (a := r - r / 9999 * 9999) (b := 1) (by omega) (by omega)
  omega
theorem dvi {x k : Int32} {K : Int} (h : 0 ≤ x.toInt) (hk : k.toInt = K) (hK : 0 < K) : (x / k).toInt = x.toInt / K := by rw [i32_div_i h (by omega), hk]
theorem mdi {x k : Int32} {K : Int} (h : 0 ≤ x.toInt) (hk : k.toInt = K) (hK : 0 < K) : (x - x / k * k).toInt = x.toInt % K := by rw [i32_mod h (by omega), hk]
theorem adi {x k : Int32} {K : Int} (hk : k.toInt = K) (hK : 0 ≤ K ∧ K ≤ 1000000) (h : 0 ≤ x.toInt ∧ x.toInt ≤ 1000000) : (k + x).toInt = K + x.toInt := by rw [toI_add (by omega) (by omega), hk]
theorem d4i {x k : Int32} {K : Int} (h : 0 ≤ x.toInt) (hk : k.toInt = K) (hK : 0 < K) : (48 + (x / k - x / k / 4 * 4)).toInt = 48 + x.toInt / K % 4 := by
  have e := dvi h hk hK
  have e0 : 0 ≤ x.toInt / K := Int.ediv_nonneg h (by omega)
  have m := mdi (x := x / k) (k := 4) (K := 4) (by omega) (by decide) (by decide)
  rw [adi (k := 48) (K := 48) (by decide) (by decide) (by rw [m]; omega), m, e]
theorem tk_lt {n : Int32} {tt : Pg} {l : List Int} (K : TK n tt l) {k : Nat} (h : l.length < k) : n.toInt < k := by rw [tk_n K]; omega
theorem ax_1 {ax : Int32} (h : 0 ≤ ax.toInt ∧ ax.toInt ≤ 1000) : 0 ≤ (ax + 1).toInt := by
  have z1 : (1 : Int32).toInt = 1 := by decide
  have a := toI_add (a := ax) (b := 1) (by omega) (by omega)
  omega
theorem ax_i {ax : Int32} {i : Nat} (h : 0 ≤ ax.toInt ∧ ax.toInt ≤ 1000) (hi : i ≤ 6) : 0 ≤ ((ax + 2) + (nI i)).toInt := by
  have z2 : (2 : Int32).toInt = 2 := by decide
  have a := toI_add (a := ax) (b := 2) (by omega) (by omega)
  have e := nI_toInt (n := i) (by omega)
  have a2 := toI_add (a := ax + 2) (b := nI i) (by omega) (by omega)
  omega
theorem tw_e {i : Nat} (h : i ≤ 6) : nI (16 + 5 * i) = (16 + (5 * (nI i))) := by
  have z16 : (16 : Int32).toInt = 16 := by decide
  have z5 : (5 : Int32).toInt = 5 := by decide
  have e := nI_toInt (n := i) (by omega)
  have m := toI_mul (a := 5) (b := nI i) (by rw [z5]; omega) (by rw [z5]; omega)
  rw [z5] at m
  have a := toI_add (a := 16) (b := 5 * nI i) (by omega) (by omega)
  exact Int32.toInt_inj.mp (by rw [nI_toInt (by omega)]; omega)
section TWS
variable {l : List Int} {i : Nat} {Z : Int}
theorem tw_a (hll : l.length = 15 + 5 * i) (hi : i < 6) (hZ : 1 ≤ Z ∧ Z ≤ 9999) : okc (Lf (l ++ [120] ++ [48 + Z / 100 / 10])) (l ++ [120]).length := by
  have e : (l ++ [120]).length = 16 + 5 * i := by rw [List.length_append, hll]; simp; omega
  exact ok_dg (by omega) (by omega) (by omega) (by omega)
theorem tw_b (hll : l.length = 15 + 5 * i) (hi : i < 6) (hZ : 1 ≤ Z ∧ Z ≤ 9999) : okc (Lf (l ++ [120] ++ [48 + Z / 100 / 10] ++ [48 + Z / 100 % 10])) ((l ++ [120]).length + 1) := by
  have e : (l ++ [120]).length = 16 + 5 * i := by rw [List.length_append, hll]; simp; omega
  have e2 : (l ++ [120] ++ [48 + Z / 100 / 10]).length = (l ++ [120]).length + 1 := by rw [List.length_append]; rfl
  rw [← e2]
  exact ok_dg (by omega) (by omega) (by omega) (by omega)
theorem tw_c (hll : l.length = 15 + 5 * i) (hi : i < 6) (hZ : 1 ≤ Z ∧ Z ≤ 9999) : okc (Lf (l ++ [120] ++ [48 + Z / 100 / 10] ++ [48 + Z / 100 % 10] ++ [48 + Z % 100 / 10] ++ [48 + Z % 100 % 10])) ((l ++ [120] ++ [48 + Z / 100 / 10] ++ [48 + Z / 100 % 10]).length + 1) := by
  have e : (l ++ [120]).length = 16 + 5 * i := by rw [List.length_append, hll]; simp; omega
  have e2 : (l ++ [120] ++ [48 + Z / 100 / 10] ++ [48 + Z / 100 % 10]).length = (l ++ [120]).length + 1 + 1 := by rw [List.length_append, List.length_append (as := l ++ [120])]; rfl
  rw [e2]
  exact ok_la (by omega) (by omega) (by omega) (by omega)
end TWS
/-- what else holds of a page: the latest reading is within the scale, its indexes are not negative -/
def RDR (pg : Pg) : Prop := ¬ pg 12 ≤ 0 → -500 ≤ (pg 21).toInt ∧ (pg 21).toInt ≤ 500
def OKP (pg : Pg) : Prop := RDR pg ∧ 0 ≤ (pg 0).toInt ∧ 0 ≤ (pg 1).toInt ∧ 0 ≤ (pg 4).toInt
theorem tl_ok {n : Int32} {tt pg' : Pg} {l : List Int} {K' : Nat} {box bat st y : Int32} (K : TK n tt l) (V : V15 l box bat st y) (g : PG (TI tt) K' pg') : OKP pg' := by
  have hl := V.1
  have o1 : 48 ≤ Lf l 1 ∧ Lf l 1 ≤ 51 := K.2.2.2 1 (by omega)
  have o2 : 48 ≤ Lf l 2 ∧ Lf l 2 ≤ 51 := K.2.2.2 2 (by omega)
  have o9 : 48 ≤ Lf l 9 ∧ Lf l 9 ≤ 51 := K.2.2.2 9 (by omega)
  refine ⟨fun h => absurd (by rw [g.2.2.2.2.2.2.2.1]; decide) h, ?_, ?_, ?_⟩
  · rw [g.1.1, tl_T K V (j := 1) (by decide)]; omega
  · rw [g.1.2.1, tl_T K V (j := 2) (by decide)]; omega
  · rw [g.1.2.2.2.2.1, tl_T K V (j := 9) (by decide)]; omega
