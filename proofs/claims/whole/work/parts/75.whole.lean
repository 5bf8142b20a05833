/-! the law's walk from its entry -/
theorem hi_law_3 : ∀ w ∈ u_ws RX3 TX3 8, w ∈ wsL_law := by decide +kernel
theorem hi_law_4 : ∀ w ∈ u_ws RX4 TX4 11, w ∈ wsL_law := by decide +kernel
set_option maxRecDepth 100000 in
set_option maxHeartbeats 8000000 in
theorem whole_start {p : Program} {e : Env} {s : State} {m : MethodId} {below : List Frame} {meth : Method} {c : Code} (l : Launch) (hflags : l.flags = flags0) {b L : Nat} {xs : Nat → Int32} (hL : L ≤ 2048) (C0 : lw_At p s m meth c b L xs) : W p l e room_1 s m #[Value.ref b] below meth c s.heap [] 0 0 (lw_Z below #[Value.ref b] s) (entryFrame m ([Value.ref b] : List Value).toArray 7) := by
  obtain ⟨hx, hb, hr, hml, hown, hts, hX, hbl, hlocks, hgv⟩ := id C0
  obtain ⟨G, cJ, hK, hKJ, hAO⟩ := st_G hts
  obtain ⟨hE, hN, hZ⟩ := st_eK hts hgv
  have hA : ∀ q : Nat, s.heap.size ≤ q → (fun q : Nat => s.heap.size ≤ q) q := fun _ h => h
  have htl : ∀ w ∈ wsL_law, w.before #[Value.ref b] s = true := fun w h => hts w (wsL_law_in w h)
  have cx : Cx p s m #[Value.ref b] meth c cL_law 7 RL wsL_law ret G (fun q : Nat => s.heap.size ≤ q) := ⟨hx, hb, hml, hown, htl, hr, hlocks, hK, hA⟩
  have X : LX p l s m meth c G cJ b L xs := ⟨st_flags hflags, cx, hKJ, hE, hN, hZ, hX, hbl⟩
  have hS : va_S (fun q : Nat => s.heap.size ≤ q) s.heap s.heap [] := va_S.rf
  have hP : va_P G.1 vwCl [] s.heap := fun k q h => by simp at h
  have hD : va_D (fun q : Nat => s.heap.size ≤ q) [] := ⟨fun i j p q h => by simp at h, fun k q h => by simp at h⟩
  have hl := lv_entry ([.ref b]) (n := 7) (Nat.le_of_ble_eq_true rfl)
  rw [lg_entry_eq]
  generalize (lg_sl ([.ref b]) ++ List.replicate (7 - (lg_sl ([.ref b])).length) Slot.unset).toArray = ls at hl ⊢
  have hl : lv_has ls 7 [(0, .ref b)] := hl
  refine k_new (ws := []) (T := TX3) (C := RX3) (N := 8) (ci := 3) (ty := tyX3) (fs := [.null, .null, .null, .null, .int 0, .int 0, .null, .null]) cx hi_law_3 tyX3_ok (by decide +kernel) (by decide +kernel) (by decide +kernel) hP hD hS rfl rfl (Nat.le_of_ble_eq_true rfl) (Nat.le_of_ble_eq_true rfl) dL_law_0 (fun xb H hP hD hS => ?_)
  refine lv_dup hx hb dL_law_3 rfl ?_
  refine k_initM (mc := 77) (ms := 1970) (ws := []) cx hAO (c_X3_init l G xb) gL_law_X3_init rfl rfl rfl (by decide +kernel) (by decide +kernel) (by decide +kernel) rfl (by decide +kernel) ⟨Nat.le_of_ble_eq_true rfl, Nat.le_of_ble_eq_true rfl⟩ hP hD hS hl (Nat.le_of_ble_eq_true rfl) dL_law_4 ⟨Nat.le_of_ble_eq_true rfl, Nat.le_of_ble_eq_true rfl⟩ (fun u H locs hu hP hD hS => ?_)
  obtain ⟨tx, tk, qs, qt, pa, sl, fi, L1, L2⟩ := u
  obtain ⟨hL1, hL2⟩ := hu
  have hL1 : L1.length = 14 := hL1
  have hL2 : L2.length = 2 := hL2
  have hP : va_P G.1 vwCl (fx0 G xb tx tk qs qt pa sl fi L1 L2 ++ pool0 G (L1 ++ L2)) H := hP
  have hD : va_D (fun q : Nat => s.heap.size ≤ q) (fx0 G xb tx tk qs qt pa sl fi L1 L2 ++ pool0 G (L1 ++ L2)) := hD
  refine lv_astore_n (lv' := [(1, .ref xb), (0, .ref b)]) hx hb dL_law_7 rfl hl (by decide) rfl (fun ls hl => ?_)
  refine k_new (ws := fx0 G xb tx tk qs qt pa sl fi L1 L2 ++ pool0 G (L1 ++ L2)) (T := TX4) (C := RX4) (N := 11) (ci := 4) (ty := tyX4) (fs := [.int 0, .null, .int 0, .int 0, .null, .null, .null, .null, .int 0, .null, .null]) cx hi_law_4 tyX4_ok (by decide +kernel) (by decide +kernel) (by decide +kernel) hP hD hS rfl rfl (Nat.le_of_ble_eq_true rfl) (Nat.le_of_ble_eq_true rfl) dL_law_8 (fun mo H hP hD hS => ?_)
  refine lv_dup hx hb dL_law_11 rfl ?_
  refine k_initM (mc := 7) (ms := 1981) (ws := fx0 G xb tx tk qs qt pa sl fi L1 L2 ++ pool0 G (L1 ++ L2)) cx hAO (c_X4_init l G mo) gL_law_X4_init rfl rfl rfl (by decide +kernel) (by decide +kernel) (by decide +kernel) rfl (by decide +kernel) ⟨Nat.le_of_ble_eq_true rfl, Nat.le_of_ble_eq_true rfl⟩ hP hD hS hl (Nat.le_of_ble_eq_true rfl) dL_law_12 ⟨Nat.le_of_ble_eq_true rfl, Nat.le_of_ble_eq_true rfl⟩ (fun u H locs _ hP hD hS => ?_)
  refine lv_astore_n (lv' := [(2, .ref mo), (1, .ref xb), (0, .ref b)]) hx hb dL_law_15 rfl hl (by decide) rfl (fun ls hl => ?_)
  refine lv_iconst (v := 1) hx hb dL_law_16 (by decide) ?_
  refine va_newa (atype := .long) (tys := []) (a0 := (1, .inr (.inl (fun _ => 0)))) hx hb (htl (.arrayClass .long) (by decide +kernel)) rfl ⟨hK.1.1, fun k q h => by simp at h⟩ hP hD hS hA (fun cA => rfl) (by decide) (by decide) (by decide) (Nat.le_of_ble_eq_true rfl) (Nat.le_of_ble_eq_true rfl) dL_law_17 (fun ou cA H hK1 hP hD hS => ?_)
  have ecA : cA = cJ := kA_uni (k := 0) (j := 0) hK1 hKJ rfl rfl
  subst ecA
  refine lv_astore_n (lv' := [(3, .ref ou), (2, .ref mo), (1, .ref xb), (0, .ref b)]) hx hb dL_law_19 rfl hl (by decide) rfl (fun ls hl => ?_)
  refine lv_iconst (v := 0) hx hb dL_law_20 (by decide) ?_
  refine lv_istore (lv' := [(4, .int 0), (3, .ref ou), (2, .ref mo), (1, .ref xb), (0, .ref b)]) hx hb dL_law_21 hl (by decide) rfl (fun ls hl => ?_)
  have hP := kP_perm (st_perm _ _ _ _) hP
  have hD := kD_perm (st_perm _ _ _ _) hD
  rw [pool_pw G (L := L1 ++ L2) (by rw [List.length_append]; omega)] at hP hD
  exact law_loop X (pq_16 hL1 hL2) hL 513 0 (by decide) (by decide) z0 z0 z0 iSt iOh z0 z0 iSt iOh z0 z0 z0 z0 z0 z0 iNow z0 z0 z0 z0 (fun _ => 0) (fun _ => (iSt, iOh, z0, z0)) H locs ls inv_0 hP hD hS (lv_sub hl [4, 3, 2, 1, 0] rfl)
