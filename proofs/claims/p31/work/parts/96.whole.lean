/-! the law -/
theorem st_wb {G : gG} {d : AD} {x : XT} {f0 p0 : va_W} (h1 : f0 = wF G d x) (h2 : p0 = pw G d.2.2.2.2.2.2.2.2.2.2 x.2.2.2.2.2.2 (List.range 16)) (wr : va_W) : (f0 ++ p0) ++ wr = wB G d x wr := by
  rw [h1, h2, List.append_assoc]
  rfl
theorem hi_law_3 : ∀ w ∈ u_ws RX3 TX3 8, w ∈ wsL_law := by decide +kernel
set_option maxRecDepth 100000 in
set_option maxHeartbeats 8000000 in
theorem whole_start {p : Program} {e : Env} {s : State} {m : MethodId} {below : List Frame} {meth : Method} {c : Code} (l : Launch) (hflags : l.flags = flags0) {b L : Nat} {xs : Nat → Int32} (hL : L ≤ 260) (C0 : lw_At p s m meth c b L xs) : W p l e room_1 s m #[Value.ref b] below meth c s.heap [] 0 0 (lw_Z below #[Value.ref b] s) (entryFrame m ([Value.ref b] : List Value).toArray 9) := by
  obtain ⟨hx, hb, hr, hml, hown, hts, hX, hbl, hlocks, hgv⟩ := id C0
  obtain ⟨G, hK, hAO⟩ := st_G hts
  obtain ⟨hE, hN, hZ⟩ := st_eK hts hgv
  have hA : ∀ q : Nat, s.heap.size ≤ q → (fun q : Nat => s.heap.size ≤ q) q := fun _ h => h
  have htl : ∀ w ∈ wsL_law, w.before #[Value.ref b] s = true := fun w h => hts w (wsL_law_in w h)
  have cx : Cx p s m #[Value.ref b] meth c cL_law 9 RL wsL_law (some .boolean) G (fun q : Nat => s.heap.size ≤ q) := ⟨hx, hb, hml, hown, htl, hr, hlocks, hK, hA⟩
  have cl : CL s (fun q : Nat => s.heap.size ≤ q) b L xs := ⟨hE, hN, hZ, hX, hbl, Nat.not_le.mpr hbl⟩
  have hfin : FIN p l e s m #[Value.ref b] below meth c (lw_Z below #[Value.ref b] s) (fun q : Nat => s.heap.size ≤ q) := by
    intro H locs ls cells slots h1 h2 hS
    refine W.widen (k := 600130) (n := 7301080) h1 h2 ?_
    refine va_forget (fun q hq => hS.2.2 q hq) ?_
    exact lw_ret hx hb hr hlocks dL_law_366
  have hS : va_S (fun q : Nat => s.heap.size ≤ q) s.heap s.heap [] := va_S.rf
  have hP : va_P G.1 vwCl [] s.heap := fun k q h => by simp at h
  have hD : va_D (fun q : Nat => s.heap.size ≤ q) [] := ⟨fun i j p q h => by simp at h, fun k q h => by simp at h⟩
  have hl := lv_entry ([.ref b]) (n := 9) (Nat.le_of_ble_eq_true rfl)
  rw [lg_entry_eq]
  generalize (lg_sl ([.ref b]) ++ List.replicate (9 - (lg_sl ([.ref b])).length) Slot.unset).toArray = ls at hl ⊢
  have hl : lv_has ls 9 [(0, .ref b)] := hl
  refine k_new (ws := []) (T := TX3) (C := RX3) (N := 8) (ci := 3) (ty := tyX3) (fs := [.null, .null, .null, .null, .int 0, .int 0, .null, .null]) cx hi_law_3 tyX3_ok (by decide +kernel) (by decide +kernel) (by decide +kernel) hP hD hS rfl rfl (Nat.le_of_ble_eq_true rfl) (Nat.le_of_ble_eq_true rfl) dL_law_0 (fun xb H hP hD hS => ?_)
  refine lv_dup hx hb dL_law_3 rfl ?_
  refine k_initM (mc := 77) (ms := 1970) (ws := []) cx hAO (c_X3_init l G xb) gL_law_X3_init rfl rfl rfl (by decide +kernel) (by decide +kernel) (by decide +kernel) rfl (by decide +kernel) ⟨Nat.le_of_ble_eq_true rfl, Nat.le_of_ble_eq_true rfl⟩ hP hD hS hl (Nat.le_of_ble_eq_true rfl) dL_law_4 ⟨Nat.le_of_ble_eq_true rfl, Nat.le_of_ble_eq_true rfl⟩ (fun u H locs hu hP hD hS => ?_)
  obtain ⟨tx, tk, qs, qt, pa, sl, fi, L1, L2⟩ := u
  obtain ⟨hL1, hL2⟩ := hu
  have hL1 : L1.length = 14 := hL1
  have hL2 : L2.length = 2 := hL2
  have hP : va_P G.1 vwCl (fx0 G xb tx tk qs qt pa sl fi L1 L2 ++ pool0 G (L1 ++ L2)) H := hP
  have hD : va_D (fun q : Nat => s.heap.size ≤ q) (fx0 G xb tx tk qs qt pa sl fi L1 L2 ++ pool0 G (L1 ++ L2)) := hD
  refine lv_astore_n (lv' := [(1, .ref xb), (0, .ref b)]) hx hb dL_law_7 rfl hl (by decide) rfl (fun ls hl => ?_)
  refine k_new (ws := fx0 G xb tx tk qs qt pa sl fi L1 L2 ++ pool0 G (L1 ++ L2)) (T := TX3) (C := RX3) (N := 8) (ci := 3) (ty := tyX3) (fs := [.null, .null, .null, .null, .int 0, .int 0, .null, .null]) cx hi_law_3 tyX3_ok (by decide +kernel) (by decide +kernel) (by decide +kernel) hP hD hS rfl rfl (Nat.le_of_ble_eq_true rfl) (Nat.le_of_ble_eq_true rfl) dL_law_8 (fun yb H hP hD hS => ?_)
  refine lv_dup hx hb dL_law_11 rfl ?_
  refine k_initM (mc := 77) (ms := 1970) (ws := fx0 G xb tx tk qs qt pa sl fi L1 L2 ++ pool0 G (L1 ++ L2)) cx hAO (c_X3_init l G yb) gL_law_X3_init rfl rfl rfl (by decide +kernel) (by decide +kernel) (by decide +kernel) rfl (by decide +kernel) ⟨Nat.le_of_ble_eq_true rfl, Nat.le_of_ble_eq_true rfl⟩ hP hD hS hl (Nat.le_of_ble_eq_true rfl) dL_law_12 ⟨Nat.le_of_ble_eq_true rfl, Nat.le_of_ble_eq_true rfl⟩ (fun u H locs hu hP hD hS => ?_)
  obtain ⟨tx', tk', qs', qt', pa', sl', fi', M1, M2⟩ := u
  obtain ⟨hM1, hM2⟩ := hu
  have hM1 : M1.length = 14 := hM1
  have hM2 : M2.length = 2 := hM2
  refine lv_astore_n (lv' := [(2, .ref yb), (1, .ref xb), (0, .ref b)]) hx hb dL_law_15 rfl hl (by decide) rfl (fun ls hl => ?_)
  have e2 := st_wb (G := G) (d := (yb, tx', tk', pa', sl', fi', qs', qt', pgL M1, pgL M2, Q16 (M1 ++ M2))) (x := x_0) (f0 := fx0 G yb tx' tk' qs' qt' pa' sl' fi' M1 M2) (p0 := pool0 G (M1 ++ M2)) rfl (pool_pw G (L := M1 ++ M2) (by rw [List.length_append]; omega)) []
  rw [List.append_nil] at e2
  have e1 := st_wb (G := G) (d := (xb, tx, tk, pa, sl, fi, qs, qt, pgL L1, pgL L2, Q16 (L1 ++ L2))) (x := x_0) (f0 := fx0 G xb tx tk qs qt pa sl fi L1 L2) (p0 := pool0 G (L1 ++ L2)) rfl (pool_pw G (L := L1 ++ L2) (by rw [List.length_append]; omega)) (wB G (yb, tx', tk', pa', sl', fi', qs', qt', pgL M1, pgL M2, Q16 (M1 ++ M2)) x_0 [])
  have hP : va_P G.1 vwCl ((fx0 G xb tx tk qs qt pa sl fi L1 L2 ++ pool0 G (L1 ++ L2)) ++ (fx0 G yb tx' tk' qs' qt' pa' sl' fi' M1 M2 ++ pool0 G (M1 ++ M2))) H := hP
  have hD : va_D (fun q : Nat => s.heap.size ≤ q) ((fx0 G xb tx tk qs qt pa sl fi L1 L2 ++ pool0 G (L1 ++ L2)) ++ (fx0 G yb tx' tk' qs' qt' pa' sl' fi' M1 M2 ++ pool0 G (M1 ++ M2))) := hD
  rw [e2, e1] at hP hD
  exact lw_s (d1 := (xb, tx, tk, pa, sl, fi, qs, qt, pgL L1, pgL L2, Q16 (L1 ++ L2))) (d2 := (yb, tx', tk', pa', sl', fi', qs', qt', pgL M1, pgL M2, Q16 (M1 ++ M2))) (st_flags hflags) cx cl (pq_16 hL1 hL2) (pq_16 hM1 hM2) j_0 j_0 hL hfin hP hD hS hl
