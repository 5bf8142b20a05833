/-! what a call answers and leaves, over a bridge told by its page: press, pair, balance -/
section RU
variable {p : Program} {l : Launch} {e : Env} {R : Room} {s : State} {m : MethodId} {args : Array Value} {below : List Frame} {meth : Method} {c : Code} {H : Heap} {locs : List Loc} {cells slots : Nat} {Qp : State → Prop}
variable {cc : ByteArray} {nL : Nat} {own : String} {Ts : List Cond} {ret' : Option FieldType} {G : gG} {A : Nat → Prop} {pc index : Nat} {ls : Array Slot} {b L : Nat} {xs : Nat → Int32} {rest : List Value} {lv : List (Nat × Value)}
variable {d : AD} {x : XT} {wr : va_W} {n : Int32} {tt pg : Pg} {hs : List Pg} {k0 k1 : Option Pg}
set_option maxRecDepth 100000 in
set_option maxHeartbeats 4000000 in
theorem o_press (hlt : l.stackTraces = false) (cx : Cx p s m args meth c cc nL own Ts ret' G A) (cl : CL s A b L xs) (HQ : PQd d) (J : JNV x n tt pg hs k0 k1) (rv : Int32) (hc : pg 11 = 0) {r0 : Int32} (hr : (P_X4_pressOn pg rv).1 = r0) (hP : va_P G.1 vwCl (wB G d x wr) H) (hD : va_D A (wB G d x wr)) (hS : va_S A s.heap H locs) (hT : GoodIn Ts (va_wsS own index yL_tryPress wsL_tryPress)) (hR : rmL_tryPress.frames + 1 ≤ R.frames ∧ 8 + (3 + 11) + rmL_tryPress.locals ≤ R.locals) (hl : lv_has ls nL lv) (hroom : (rest.map fun v => v.category).sum ≤ 8) (hdg : decode cc pc = .ok (.invokestatic index, 3)) (hf : cells + 1 ≤ R.cells ∧ slots + 6 ≤ R.slots) (kk : ∀ (x' : XT) (H1 : Heap) (locs1 : List Loc), JNV x' n tt (P_X4_pressOn pg rv).2 (push hs pg) k0 k1 → va_P G.1 vwCl (wB G d x' wr) H1 → va_D A (wB G d x' wr) → va_S A s.heap H1 locs1 → W p l e R s m args below meth c H1 locs1 (cells + 1) (slots + 6) Qp (F0 m (pc + 3) ls (.int r0 :: rest))) : W p l e R s m args below meth c H locs cells slots Qp (F0 m pc ls (.int rv :: .ref d.1 :: rest)) := by
  obtain ⟨xb, tx, tz, pa, sl, fi, qs, qt, pgr, sg, Q⟩ := d
  obtain ⟨bf, tf, tc, ⟨f, oh, lf, ce⟩, ⟨ft, oht, lft, cet⟩, ff, C⟩ := x
  obtain ⟨mf, dd, kq, ki, I, e1, e2, H8, K0, K1⟩ := id J
  have e1 : tc = tt := e1
  subst e1
  have I : INV bf tf tc f oh lf ce ff C mf tc pg dd kq ki := I
  obtain ⟨hE, hN, hZ, -⟩ := cl
  have HQ : PQ Q pgr sg := HQ
  have hP : va_P G.1 vwCl (fxw G xb tx tz qs qt pa sl fi bf tf tc f oh lf ce ft oht lft cet pgr sg ff ++ (pw G Q C (List.range 16) ++ wr)) H := hP
  have hD : va_D A (fxw G xb tx tz qs qt pa sl fi bf tf tc f oh lf ce ft oht lft cet pgr sg ff ++ (pw G Q C (List.range 16) ++ wr)) := hD
  have hb5 := I.2.2.1.2.2.1
  obtain ⟨kx, ekx⟩ : ∃ kx, kx = (bf 5).toInt.toNat := ⟨_, rfl⟩
  have hk14 : kx < 14 := by omega
  have hpg : P_X3_entry 14 pgr (bf 5) = some (Q kx).1 := (ent_i (k := kx) (by omega) hk14 (by decide)).trans (HQ.1 kx hk14)
  have hk16 : kx < 16 := by omega
  replace hP := kP_perm (pw_outr hk16 _ wr) hP
  replace hD := kD_perm (pw_outr hk16 _ wr) hD
  have F := a_press I pgr rv
  rw [← ekx] at F
  rw [xe_press hc] at F
  have hC := c_L_tryPress l hlt G xb tx qs.1 qt.1 pa sl fi qs.2.1 qs.2.2.1 qs.2.2.2 (Q kx).1 (Q kx).2.1 (Q kx).2.2.1 (Q kx).2.2.2 bf pgr f oh lf ce (C kx).1 (C kx).2.1 (C kx).2.2.1 (C kx).2.2.2 rv I.2.1.stk hpg F.1
  generalize P_X3_press bf pgr f oh lf ce (C kx).1 (C kx).2.1 (C kx).2.2.1 (C kx).2.2.2 rv = u at F hC
  obtain ⟨F1, F0, F3, F4, F5⟩ := F
  have h0 : u.1 = 0 := hm_z (F0.symm.trans (note_0 I.2.2.1.2.1))
  have ha : rz u.1 u.2.1 = (P_X4_pressOn pg rv).1 := by rw [h0]; exact F3 h0
  have JN : JV (u.2.2.1) tf tc (u.2.2.2.1) oh (u.2.2.2.2.1) (u.2.2.2.2.2.1) ff (updC C kx ((u.2.2.2.2.2.2.1), (u.2.2.2.2.2.2.2.1), (u.2.2.2.2.2.2.2.2.1), (u.2.2.2.2.2.2.2.2.2))) n tc (P_X4_pressOn pg rv).2 (push hs pg) k0 k1 := jn_ok I.2.2.1.2.1 rfl e2 H8 K0 K1 F5
  replace ha := ha.trans hr
  refine k_iW (ws' := fxw G xb tx tz qs qt pa sl fi (u.2.2.1) tf tc (u.2.2.2.1) oh (u.2.2.2.2.1) (u.2.2.2.2.2.1) ft oht lft cet pgr sg ff ++ (bun G (Q kx) (u.2.2.2.2.2.2.1) (u.2.2.2.2.2.2.2.1) (u.2.2.2.2.2.2.2.2.1) (u.2.2.2.2.2.2.2.2.2) ++ (pw G Q C (pr16 kx) ++ wr))) (as := [xb, pa, qs.1, qs.2.1, qs.2.2.1, qs.2.2.2, (Q kx).1, (Q kx).2.1, (Q kx).2.2.1, (Q kx).2.2.2]) cx hP hD hS [0, 11, 3, 4, 5, 6, 14, 15, 16, 17] rfl (kr_SL (n := 2) (As := [.ref xb, .int rv]) cx hE hN hZ hS hC hT rfl rfl rfl (by decide +kernel) hR hP hD [0, 11, 3, 4, 5, 6, 14, 15, 16, 17] rfl rfl rfl rfl hl hroom hdg hf) ⟨rfl, rfl⟩ rfl rfl (fun H locs wx hwx hP hD hS => ?_)
  rw [ha]
  rcases hwx with ⟨h9, rfl⟩ | ⟨h9, rfl⟩
  · replace hP := kP_perm (pw_inr hk16 _ _ _ _ _ wr) hP
    replace hD := kD_perm (pw_inr hk16 _ _ _ _ _ wr) hD
    exact kk ((u.2.2.1), tf, tc, ((u.2.2.2.1), oh, (u.2.2.2.2.1), (u.2.2.2.2.2.1)), (ft, oht, lft, cet), ff, (updC C kx ((u.2.2.2.2.2.2.1), (u.2.2.2.2.2.2.2.1), (u.2.2.2.2.2.2.2.2.1), (u.2.2.2.2.2.2.2.2.2)))) _ _ JN hP hD hS
  · exact absurd h0 h9
set_option maxRecDepth 100000 in
set_option maxHeartbeats 4000000 in
theorem n_press (hlt : l.stackTraces = false) (cx : Cx p s m args meth c cc nL own Ts ret' G A) (cl : CL s A b L xs) (HQ : PQd d) (J : JNV x n tt pg hs k0 k1) (rv : Int32) (hc : pg 11 = 1) (hP : va_P G.1 vwCl (wB G d x wr) H) (hD : va_D A (wB G d x wr)) (hS : va_S A s.heap H locs) (hT : GoodIn Ts (va_wsS own index yL_tryPress wsL_tryPress)) (hR : rmL_tryPress.frames + 1 ≤ R.frames ∧ 8 + (3 + 11) + rmL_tryPress.locals ≤ R.locals) (hl : lv_has ls nL lv) (hroom : (rest.map fun v => v.category).sum ≤ 8) (hdg : decode cc pc = .ok (.invokestatic index, 3)) (hf : cells + 1 ≤ R.cells ∧ slots + 6 ≤ R.slots) (kk : ∀ (H1 : Heap) (locs1 : List Loc), va_P G.1 vwCl (wB G d x wr) H1 → va_D A (wB G d x wr) → va_S A s.heap H1 locs1 → W p l e R s m args below meth c H1 locs1 (cells + 1) (slots + 6) Qp (F0 m (pc + 3) ls (.int (-999900003) :: rest))) : W p l e R s m args below meth c H locs cells slots Qp (F0 m pc ls (.int rv :: .ref d.1 :: rest)) := by
  obtain ⟨xb, tx, tz, pa, sl, fi, qs, qt, pgr, sg, Q⟩ := d
  obtain ⟨bf, tf, tc, ⟨f, oh, lf, ce⟩, ⟨ft, oht, lft, cet⟩, ff, C⟩ := x
  obtain ⟨mf, dd, kq, ki, I, e1, e2, H8, K0, K1⟩ := id J
  have e1 : tc = tt := e1
  subst e1
  have I : INV bf tf tc f oh lf ce ff C mf tc pg dd kq ki := I
  obtain ⟨hE, hN, hZ, -⟩ := cl
  have HQ : PQ Q pgr sg := HQ
  have hP : va_P G.1 vwCl (fxw G xb tx tz qs qt pa sl fi bf tf tc f oh lf ce ft oht lft cet pgr sg ff ++ (pw G Q C (List.range 16) ++ wr)) H := hP
  have hD : va_D A (fxw G xb tx tz qs qt pa sl fi bf tf tc f oh lf ce ft oht lft cet pgr sg ff ++ (pw G Q C (List.range 16) ++ wr)) := hD
  have hb5 := I.2.2.1.2.2.1
  obtain ⟨kx, ekx⟩ : ∃ kx, kx = (bf 5).toInt.toNat := ⟨_, rfl⟩
  have hk14 : kx < 14 := by omega
  have hpg : P_X3_entry 14 pgr (bf 5) = some (Q kx).1 := (ent_i (k := kx) (by omega) hk14 (by decide)).trans (HQ.1 kx hk14)
  have hk16 : kx < 16 := by omega
  replace hP := kP_perm (pw_outr hk16 _ wr) hP
  replace hD := kD_perm (pw_outr hk16 _ wr) hD
  have F := a_press I pgr rv
  rw [← ekx] at F
  rw [xn_press hc] at F
  have hC := c_L_tryPress l hlt G xb tx qs.1 qt.1 pa sl fi qs.2.1 qs.2.2.1 qs.2.2.2 (Q kx).1 (Q kx).2.1 (Q kx).2.2.1 (Q kx).2.2.2 bf pgr f oh lf ce (C kx).1 (C kx).2.1 (C kx).2.2.1 (C kx).2.2.2 rv I.2.1.stk hpg F.1
  generalize P_X3_press bf pgr f oh lf ce (C kx).1 (C kx).2.1 (C kx).2.2.1 (C kx).2.2.2 rv = u at F hC
  obtain ⟨F1, F0, F3, F4, F5⟩ := F
  have ht : u.1 = 2 := hm_e F0.symm
  have hz : ¬ u.1 = 0 := by rw [ht]; decide
  have ha : rz u.1 u.2.1 = (-999900003) := by rw [ht]; rfl
  refine k_iW (ws' := fxw G xb tx tz qs qt pa sl fi (u.2.2.1) tf tc (u.2.2.2.1) oh (u.2.2.2.2.1) (u.2.2.2.2.2.1) ft oht lft cet pgr sg ff ++ (bun G (Q kx) (u.2.2.2.2.2.2.1) (u.2.2.2.2.2.2.2.1) (u.2.2.2.2.2.2.2.2.1) (u.2.2.2.2.2.2.2.2.2) ++ (pw G Q C (pr16 kx) ++ wr))) (as := [xb, pa, qs.1, qs.2.1, qs.2.2.1, qs.2.2.2, (Q kx).1, (Q kx).2.1, (Q kx).2.2.1, (Q kx).2.2.2]) cx hP hD hS [0, 11, 3, 4, 5, 6, 14, 15, 16, 17] rfl (kr_SL (n := 2) (As := [.ref xb, .int rv]) cx hE hN hZ hS hC hT rfl rfl rfl (by decide +kernel) hR hP hD [0, 11, 3, 4, 5, 6, 14, 15, 16, 17] rfl rfl rfl rfl hl hroom hdg hf) ⟨rfl, rfl⟩ rfl rfl (fun H locs wx hwx hP hD hS => ?_)
  rw [ha]
  rcases hwx with ⟨h9, rfl⟩ | ⟨h9, rfl⟩
  · exact absurd h9 hz
  · replace hP := kP_perm (pw_outr hk16 _ wr).symm hP
    replace hD := kD_perm (pw_outr hk16 _ wr).symm hD
    exact kk _ _ hP hD hS
set_option maxRecDepth 100000 in
set_option maxHeartbeats 4000000 in
theorem o_pair (hlt : l.stackTraces = false) (cx : Cx p s m args meth c cc nL own Ts ret' G A) (cl : CL s A b L xs) (HQ : PQd d) (J : JNV x n tt pg hs k0 k1)  (hc : pg 11 = 0) {r0 : Int32} (hr : (P_X4_pairOn pg).1 = r0) (hP : va_P G.1 vwCl (wB G d x wr) H) (hD : va_D A (wB G d x wr)) (hS : va_S A s.heap H locs) (hT : GoodIn Ts (va_wsS own index yL_tryPair wsL_tryPair)) (hR : rmL_tryPair.frames + 1 ≤ R.frames ∧ 8 + (2 + 11) + rmL_tryPair.locals ≤ R.locals) (hl : lv_has ls nL lv) (hroom : (rest.map fun v => v.category).sum ≤ 8) (hdg : decode cc pc = .ok (.invokestatic index, 3)) (hf : cells + 1 ≤ R.cells ∧ slots + 6 ≤ R.slots) (kk : ∀ (x' : XT) (H1 : Heap) (locs1 : List Loc), JNV x' n tt (P_X4_pairOn pg).2 (push hs pg) k0 k1 → va_P G.1 vwCl (wB G d x' wr) H1 → va_D A (wB G d x' wr) → va_S A s.heap H1 locs1 → W p l e R s m args below meth c H1 locs1 (cells + 1) (slots + 6) Qp (F0 m (pc + 3) ls (.int r0 :: rest))) : W p l e R s m args below meth c H locs cells slots Qp (F0 m pc ls (.ref d.1 :: rest)) := by
  obtain ⟨xb, tx, tz, pa, sl, fi, qs, qt, pgr, sg, Q⟩ := d
  obtain ⟨bf, tf, tc, ⟨f, oh, lf, ce⟩, ⟨ft, oht, lft, cet⟩, ff, C⟩ := x
  obtain ⟨mf, dd, kq, ki, I, e1, e2, H8, K0, K1⟩ := id J
  have e1 : tc = tt := e1
  subst e1
  have I : INV bf tf tc f oh lf ce ff C mf tc pg dd kq ki := I
  obtain ⟨hE, hN, hZ, -⟩ := cl
  have HQ : PQ Q pgr sg := HQ
  have hP : va_P G.1 vwCl (fxw G xb tx tz qs qt pa sl fi bf tf tc f oh lf ce ft oht lft cet pgr sg ff ++ (pw G Q C (List.range 16) ++ wr)) H := hP
  have hD : va_D A (fxw G xb tx tz qs qt pa sl fi bf tf tc f oh lf ce ft oht lft cet pgr sg ff ++ (pw G Q C (List.range 16) ++ wr)) := hD
  have hb5 := I.2.2.1.2.2.1
  obtain ⟨kx, ekx⟩ : ∃ kx, kx = (bf 5).toInt.toNat := ⟨_, rfl⟩
  have hk14 : kx < 14 := by omega
  have hpg : P_X3_entry 14 pgr (bf 5) = some (Q kx).1 := (ent_i (k := kx) (by omega) hk14 (by decide)).trans (HQ.1 kx hk14)
  have hk16 : kx < 16 := by omega
  replace hP := kP_perm (pw_outr hk16 _ wr) hP
  replace hD := kD_perm (pw_outr hk16 _ wr) hD
  have F := a_pair I pgr 
  rw [← ekx] at F
  rw [xe_pair hc] at F
  have hC := c_L_tryPair l hlt G xb tx qs.1 qt.1 pa sl fi qs.2.1 qs.2.2.1 qs.2.2.2 (Q kx).1 (Q kx).2.1 (Q kx).2.2.1 (Q kx).2.2.2 bf pgr f oh lf ce (C kx).1 (C kx).2.1 (C kx).2.2.1 (C kx).2.2.2 I.2.1.stk hpg F.1
  generalize P_X3_pair bf pgr f oh lf ce (C kx).1 (C kx).2.1 (C kx).2.2.1 (C kx).2.2.2 = u at F hC
  obtain ⟨F1, F0, F3, F4, F5⟩ := F
  have h0 : u.1 = 0 := hm_z (F0.symm.trans (note_0 I.2.2.1.2.1))
  have ha : rz u.1 u.2.1 = (P_X4_pairOn pg).1 := by rw [h0]; exact F3 h0
  have JN : JV (u.2.2.1) tf tc (u.2.2.2.1) oh (u.2.2.2.2.1) (u.2.2.2.2.2.1) ff (updC C kx ((u.2.2.2.2.2.2.1), (u.2.2.2.2.2.2.2.1), (u.2.2.2.2.2.2.2.2.1), (u.2.2.2.2.2.2.2.2.2))) n tc (P_X4_pairOn pg).2 (push hs pg) k0 k1 := jn_ok I.2.2.1.2.1 rfl e2 H8 K0 K1 F5
  replace ha := ha.trans hr
  refine k_iW (ws' := fxw G xb tx tz qs qt pa sl fi (u.2.2.1) tf tc (u.2.2.2.1) oh (u.2.2.2.2.1) (u.2.2.2.2.2.1) ft oht lft cet pgr sg ff ++ (bun G (Q kx) (u.2.2.2.2.2.2.1) (u.2.2.2.2.2.2.2.1) (u.2.2.2.2.2.2.2.2.1) (u.2.2.2.2.2.2.2.2.2) ++ (pw G Q C (pr16 kx) ++ wr))) (as := [xb, pa, qs.1, qs.2.1, qs.2.2.1, qs.2.2.2, (Q kx).1, (Q kx).2.1, (Q kx).2.2.1, (Q kx).2.2.2]) cx hP hD hS [0, 11, 3, 4, 5, 6, 14, 15, 16, 17] rfl (kr_SL (n := 1) (As := [.ref xb]) cx hE hN hZ hS hC hT rfl rfl rfl (by decide +kernel) hR hP hD [0, 11, 3, 4, 5, 6, 14, 15, 16, 17] rfl rfl rfl rfl hl hroom hdg hf) ⟨rfl, rfl⟩ rfl rfl (fun H locs wx hwx hP hD hS => ?_)
  rw [ha]
  rcases hwx with ⟨h9, rfl⟩ | ⟨h9, rfl⟩
  · replace hP := kP_perm (pw_inr hk16 _ _ _ _ _ wr) hP
    replace hD := kD_perm (pw_inr hk16 _ _ _ _ _ wr) hD
    exact kk ((u.2.2.1), tf, tc, ((u.2.2.2.1), oh, (u.2.2.2.2.1), (u.2.2.2.2.2.1)), (ft, oht, lft, cet), ff, (updC C kx ((u.2.2.2.2.2.2.1), (u.2.2.2.2.2.2.2.1), (u.2.2.2.2.2.2.2.2.1), (u.2.2.2.2.2.2.2.2.2)))) _ _ JN hP hD hS
  · exact absurd h0 h9
set_option maxRecDepth 100000 in
set_option maxHeartbeats 4000000 in
theorem n_pair (hlt : l.stackTraces = false) (cx : Cx p s m args meth c cc nL own Ts ret' G A) (cl : CL s A b L xs) (HQ : PQd d) (J : JNV x n tt pg hs k0 k1)  (hc : pg 11 = 1) (hP : va_P G.1 vwCl (wB G d x wr) H) (hD : va_D A (wB G d x wr)) (hS : va_S A s.heap H locs) (hT : GoodIn Ts (va_wsS own index yL_tryPair wsL_tryPair)) (hR : rmL_tryPair.frames + 1 ≤ R.frames ∧ 8 + (2 + 11) + rmL_tryPair.locals ≤ R.locals) (hl : lv_has ls nL lv) (hroom : (rest.map fun v => v.category).sum ≤ 8) (hdg : decode cc pc = .ok (.invokestatic index, 3)) (hf : cells + 1 ≤ R.cells ∧ slots + 6 ≤ R.slots) (kk : ∀ (H1 : Heap) (locs1 : List Loc), va_P G.1 vwCl (wB G d x wr) H1 → va_D A (wB G d x wr) → va_S A s.heap H1 locs1 → W p l e R s m args below meth c H1 locs1 (cells + 1) (slots + 6) Qp (F0 m (pc + 3) ls (.int (-999900003) :: rest))) : W p l e R s m args below meth c H locs cells slots Qp (F0 m pc ls (.ref d.1 :: rest)) := by
  obtain ⟨xb, tx, tz, pa, sl, fi, qs, qt, pgr, sg, Q⟩ := d
  obtain ⟨bf, tf, tc, ⟨f, oh, lf, ce⟩, ⟨ft, oht, lft, cet⟩, ff, C⟩ := x
  obtain ⟨mf, dd, kq, ki, I, e1, e2, H8, K0, K1⟩ := id J
  have e1 : tc = tt := e1
  subst e1
  have I : INV bf tf tc f oh lf ce ff C mf tc pg dd kq ki := I
  obtain ⟨hE, hN, hZ, -⟩ := cl
  have HQ : PQ Q pgr sg := HQ
  have hP : va_P G.1 vwCl (fxw G xb tx tz qs qt pa sl fi bf tf tc f oh lf ce ft oht lft cet pgr sg ff ++ (pw G Q C (List.range 16) ++ wr)) H := hP
  have hD : va_D A (fxw G xb tx tz qs qt pa sl fi bf tf tc f oh lf ce ft oht lft cet pgr sg ff ++ (pw G Q C (List.range 16) ++ wr)) := hD
  have hb5 := I.2.2.1.2.2.1
  obtain ⟨kx, ekx⟩ : ∃ kx, kx = (bf 5).toInt.toNat := ⟨_, rfl⟩
  have hk14 : kx < 14 := by omega
  have hpg : P_X3_entry 14 pgr (bf 5) = some (Q kx).1 := (ent_i (k := kx) (by omega) hk14 (by decide)).trans (HQ.1 kx hk14)
  have hk16 : kx < 16 := by omega
  replace hP := kP_perm (pw_outr hk16 _ wr) hP
  replace hD := kD_perm (pw_outr hk16 _ wr) hD
  have F := a_pair I pgr 
  rw [← ekx] at F
  rw [xn_pair hc] at F
  have hC := c_L_tryPair l hlt G xb tx qs.1 qt.1 pa sl fi qs.2.1 qs.2.2.1 qs.2.2.2 (Q kx).1 (Q kx).2.1 (Q kx).2.2.1 (Q kx).2.2.2 bf pgr f oh lf ce (C kx).1 (C kx).2.1 (C kx).2.2.1 (C kx).2.2.2 I.2.1.stk hpg F.1
  generalize P_X3_pair bf pgr f oh lf ce (C kx).1 (C kx).2.1 (C kx).2.2.1 (C kx).2.2.2 = u at F hC
  obtain ⟨F1, F0, F3, F4, F5⟩ := F
  have ht : u.1 = 2 := hm_e F0.symm
  have hz : ¬ u.1 = 0 := by rw [ht]; decide
  have ha : rz u.1 u.2.1 = (-999900003) := by rw [ht]; rfl
  refine k_iW (ws' := fxw G xb tx tz qs qt pa sl fi (u.2.2.1) tf tc (u.2.2.2.1) oh (u.2.2.2.2.1) (u.2.2.2.2.2.1) ft oht lft cet pgr sg ff ++ (bun G (Q kx) (u.2.2.2.2.2.2.1) (u.2.2.2.2.2.2.2.1) (u.2.2.2.2.2.2.2.2.1) (u.2.2.2.2.2.2.2.2.2) ++ (pw G Q C (pr16 kx) ++ wr))) (as := [xb, pa, qs.1, qs.2.1, qs.2.2.1, qs.2.2.2, (Q kx).1, (Q kx).2.1, (Q kx).2.2.1, (Q kx).2.2.2]) cx hP hD hS [0, 11, 3, 4, 5, 6, 14, 15, 16, 17] rfl (kr_SL (n := 1) (As := [.ref xb]) cx hE hN hZ hS hC hT rfl rfl rfl (by decide +kernel) hR hP hD [0, 11, 3, 4, 5, 6, 14, 15, 16, 17] rfl rfl rfl rfl hl hroom hdg hf) ⟨rfl, rfl⟩ rfl rfl (fun H locs wx hwx hP hD hS => ?_)
  rw [ha]
  rcases hwx with ⟨h9, rfl⟩ | ⟨h9, rfl⟩
  · exact absurd h9 hz
  · replace hP := kP_perm (pw_outr hk16 _ wr).symm hP
    replace hD := kD_perm (pw_outr hk16 _ wr).symm hD
    exact kk _ _ hP hD hS
set_option maxRecDepth 100000 in
set_option maxHeartbeats 4000000 in
theorem o_balance (hlt : l.stackTraces = false) (cx : Cx p s m args meth c cc nL own Ts ret' G A) (cl : CL s A b L xs) (HQ : PQd d) (J : JNV x n tt pg hs k0 k1)  (hc : pg 11 = 0) {r0 : Int32} (hr : (P_X4_balanceOn pg 2) = r0) (hP : va_P G.1 vwCl (wB G d x wr) H) (hD : va_D A (wB G d x wr)) (hS : va_S A s.heap H locs) (hT : GoodIn Ts (va_wsS own index yL_tryBalance wsL_tryBalance)) (hR : rmL_tryBalance.frames + 1 ≤ R.frames ∧ 8 + (2 + 11) + rmL_tryBalance.locals ≤ R.locals) (hl : lv_has ls nL lv) (hroom : (rest.map fun v => v.category).sum ≤ 8) (hdg : decode cc pc = .ok (.invokestatic index, 3)) (hf : cells + 1 ≤ R.cells ∧ slots + 6 ≤ R.slots) (kk : ∀ (x' : XT) (H1 : Heap) (locs1 : List Loc), JNV x' n tt (P_X4_balanceOn pg) (push hs pg) k0 k1 → va_P G.1 vwCl (wB G d x' wr) H1 → va_D A (wB G d x' wr) → va_S A s.heap H1 locs1 → W p l e R s m args below meth c H1 locs1 (cells + 1) (slots + 6) Qp (F0 m (pc + 3) ls (.int r0 :: rest))) : W p l e R s m args below meth c H locs cells slots Qp (F0 m pc ls (.ref d.1 :: rest)) := by
  obtain ⟨xb, tx, tz, pa, sl, fi, qs, qt, pgr, sg, Q⟩ := d
  obtain ⟨bf, tf, tc, ⟨f, oh, lf, ce⟩, ⟨ft, oht, lft, cet⟩, ff, C⟩ := x
  obtain ⟨mf, dd, kq, ki, I, e1, e2, H8, K0, K1⟩ := id J
  have e1 : tc = tt := e1
  subst e1
  have I : INV bf tf tc f oh lf ce ff C mf tc pg dd kq ki := I
  obtain ⟨hE, hN, hZ, -⟩ := cl
  have HQ : PQ Q pgr sg := HQ
  have hP : va_P G.1 vwCl (fxw G xb tx tz qs qt pa sl fi bf tf tc f oh lf ce ft oht lft cet pgr sg ff ++ (pw G Q C (List.range 16) ++ wr)) H := hP
  have hD : va_D A (fxw G xb tx tz qs qt pa sl fi bf tf tc f oh lf ce ft oht lft cet pgr sg ff ++ (pw G Q C (List.range 16) ++ wr)) := hD
  have hb5 := I.2.2.1.2.2.1
  obtain ⟨kx, ekx⟩ : ∃ kx, kx = (bf 5).toInt.toNat := ⟨_, rfl⟩
  have hk14 : kx < 14 := by omega
  have hpg : P_X3_entry 14 pgr (bf 5) = some (Q kx).1 := (ent_i (k := kx) (by omega) hk14 (by decide)).trans (HQ.1 kx hk14)
  have hk16 : kx < 16 := by omega
  replace hP := kP_perm (pw_outr hk16 _ wr) hP
  replace hD := kD_perm (pw_outr hk16 _ wr) hD
  have F := a_balance I pgr 
  rw [← ekx] at F
  rw [xe_balance hc] at F
  have hC := c_L_tryBalance l hlt G xb tx qs.1 qt.1 pa sl fi qs.2.1 qs.2.2.1 qs.2.2.2 (Q kx).1 (Q kx).2.1 (Q kx).2.2.1 (Q kx).2.2.2 bf pgr f oh lf ce (C kx).1 (C kx).2.1 (C kx).2.2.1 (C kx).2.2.2 I.2.1.stk hpg F.1
  generalize P_X3_balance bf pgr f oh lf ce (C kx).1 (C kx).2.1 (C kx).2.2.1 (C kx).2.2.2 = u at F hC
  obtain ⟨F1, F0, F3, F4, F5⟩ := F
  have h0 : u.1 = 0 := hm_z (F0.symm.trans (note_0 I.2.2.1.2.1))
  have ha : rz u.1 u.2.1 = P_X4_balanceOn pg 2 := by rw [h0]; exact F3 h0
  have JN : JV (u.2.2.1) tf tc (u.2.2.2.1) oh (u.2.2.2.2.1) (u.2.2.2.2.2.1) ff (updC C kx ((u.2.2.2.2.2.2.1), (u.2.2.2.2.2.2.2.1), (u.2.2.2.2.2.2.2.2.1), (u.2.2.2.2.2.2.2.2.2))) n tc (P_X4_balanceOn pg) (push hs pg) k0 k1 := jn_ok I.2.2.1.2.1 rfl e2 H8 K0 K1 F5
  replace ha := ha.trans hr
  refine k_iW (ws' := fxw G xb tx tz qs qt pa sl fi (u.2.2.1) tf tc (u.2.2.2.1) oh (u.2.2.2.2.1) (u.2.2.2.2.2.1) ft oht lft cet pgr sg ff ++ (bun G (Q kx) (u.2.2.2.2.2.2.1) (u.2.2.2.2.2.2.2.1) (u.2.2.2.2.2.2.2.2.1) (u.2.2.2.2.2.2.2.2.2) ++ (pw G Q C (pr16 kx) ++ wr))) (as := [xb, pa, qs.1, qs.2.1, qs.2.2.1, qs.2.2.2, (Q kx).1, (Q kx).2.1, (Q kx).2.2.1, (Q kx).2.2.2]) cx hP hD hS [0, 11, 3, 4, 5, 6, 14, 15, 16, 17] rfl (kr_SL (n := 1) (As := [.ref xb]) cx hE hN hZ hS hC hT rfl rfl rfl (by decide +kernel) hR hP hD [0, 11, 3, 4, 5, 6, 14, 15, 16, 17] rfl rfl rfl rfl hl hroom hdg hf) ⟨rfl, rfl⟩ rfl rfl (fun H locs wx hwx hP hD hS => ?_)
  rw [ha]
  rcases hwx with ⟨h9, rfl⟩ | ⟨h9, rfl⟩
  · replace hP := kP_perm (pw_inr hk16 _ _ _ _ _ wr) hP
    replace hD := kD_perm (pw_inr hk16 _ _ _ _ _ wr) hD
    exact kk ((u.2.2.1), tf, tc, ((u.2.2.2.1), oh, (u.2.2.2.2.1), (u.2.2.2.2.2.1)), (ft, oht, lft, cet), ff, (updC C kx ((u.2.2.2.2.2.2.1), (u.2.2.2.2.2.2.2.1), (u.2.2.2.2.2.2.2.2.1), (u.2.2.2.2.2.2.2.2.2)))) _ _ JN hP hD hS
  · exact absurd h0 h9
set_option maxRecDepth 100000 in
set_option maxHeartbeats 4000000 in
theorem n_balance (hlt : l.stackTraces = false) (cx : Cx p s m args meth c cc nL own Ts ret' G A) (cl : CL s A b L xs) (HQ : PQd d) (J : JNV x n tt pg hs k0 k1)  (hc : pg 11 = 1) (hP : va_P G.1 vwCl (wB G d x wr) H) (hD : va_D A (wB G d x wr)) (hS : va_S A s.heap H locs) (hT : GoodIn Ts (va_wsS own index yL_tryBalance wsL_tryBalance)) (hR : rmL_tryBalance.frames + 1 ≤ R.frames ∧ 8 + (2 + 11) + rmL_tryBalance.locals ≤ R.locals) (hl : lv_has ls nL lv) (hroom : (rest.map fun v => v.category).sum ≤ 8) (hdg : decode cc pc = .ok (.invokestatic index, 3)) (hf : cells + 1 ≤ R.cells ∧ slots + 6 ≤ R.slots) (kk : ∀ (H1 : Heap) (locs1 : List Loc), va_P G.1 vwCl (wB G d x wr) H1 → va_D A (wB G d x wr) → va_S A s.heap H1 locs1 → W p l e R s m args below meth c H1 locs1 (cells + 1) (slots + 6) Qp (F0 m (pc + 3) ls (.int (-999900003) :: rest))) : W p l e R s m args below meth c H locs cells slots Qp (F0 m pc ls (.ref d.1 :: rest)) := by
  obtain ⟨xb, tx, tz, pa, sl, fi, qs, qt, pgr, sg, Q⟩ := d
  obtain ⟨bf, tf, tc, ⟨f, oh, lf, ce⟩, ⟨ft, oht, lft, cet⟩, ff, C⟩ := x
  obtain ⟨mf, dd, kq, ki, I, e1, e2, H8, K0, K1⟩ := id J
  have e1 : tc = tt := e1
  subst e1
  have I : INV bf tf tc f oh lf ce ff C mf tc pg dd kq ki := I
  obtain ⟨hE, hN, hZ, -⟩ := cl
  have HQ : PQ Q pgr sg := HQ
  have hP : va_P G.1 vwCl (fxw G xb tx tz qs qt pa sl fi bf tf tc f oh lf ce ft oht lft cet pgr sg ff ++ (pw G Q C (List.range 16) ++ wr)) H := hP
  have hD : va_D A (fxw G xb tx tz qs qt pa sl fi bf tf tc f oh lf ce ft oht lft cet pgr sg ff ++ (pw G Q C (List.range 16) ++ wr)) := hD
  have hb5 := I.2.2.1.2.2.1
  obtain ⟨kx, ekx⟩ : ∃ kx, kx = (bf 5).toInt.toNat := ⟨_, rfl⟩
  have hk14 : kx < 14 := by omega
  have hpg : P_X3_entry 14 pgr (bf 5) = some (Q kx).1 := (ent_i (k := kx) (by omega) hk14 (by decide)).trans (HQ.1 kx hk14)
  have hk16 : kx < 16 := by omega
  replace hP := kP_perm (pw_outr hk16 _ wr) hP
  replace hD := kD_perm (pw_outr hk16 _ wr) hD
  have F := a_balance I pgr 
  rw [← ekx] at F
  rw [xn_balance hc] at F
  have hC := c_L_tryBalance l hlt G xb tx qs.1 qt.1 pa sl fi qs.2.1 qs.2.2.1 qs.2.2.2 (Q kx).1 (Q kx).2.1 (Q kx).2.2.1 (Q kx).2.2.2 bf pgr f oh lf ce (C kx).1 (C kx).2.1 (C kx).2.2.1 (C kx).2.2.2 I.2.1.stk hpg F.1
  generalize P_X3_balance bf pgr f oh lf ce (C kx).1 (C kx).2.1 (C kx).2.2.1 (C kx).2.2.2 = u at F hC
  obtain ⟨F1, F0, F3, F4, F5⟩ := F
  have ht : u.1 = 2 := hm_e F0.symm
  have hz : ¬ u.1 = 0 := by rw [ht]; decide
  have ha : rz u.1 u.2.1 = (-999900003) := by rw [ht]; rfl
  refine k_iW (ws' := fxw G xb tx tz qs qt pa sl fi (u.2.2.1) tf tc (u.2.2.2.1) oh (u.2.2.2.2.1) (u.2.2.2.2.2.1) ft oht lft cet pgr sg ff ++ (bun G (Q kx) (u.2.2.2.2.2.2.1) (u.2.2.2.2.2.2.2.1) (u.2.2.2.2.2.2.2.2.1) (u.2.2.2.2.2.2.2.2.2) ++ (pw G Q C (pr16 kx) ++ wr))) (as := [xb, pa, qs.1, qs.2.1, qs.2.2.1, qs.2.2.2, (Q kx).1, (Q kx).2.1, (Q kx).2.2.1, (Q kx).2.2.2]) cx hP hD hS [0, 11, 3, 4, 5, 6, 14, 15, 16, 17] rfl (kr_SL (n := 1) (As := [.ref xb]) cx hE hN hZ hS hC hT rfl rfl rfl (by decide +kernel) hR hP hD [0, 11, 3, 4, 5, 6, 14, 15, 16, 17] rfl rfl rfl rfl hl hroom hdg hf) ⟨rfl, rfl⟩ rfl rfl (fun H locs wx hwx hP hD hS => ?_)
  rw [ha]
  rcases hwx with ⟨h9, rfl⟩ | ⟨h9, rfl⟩
  · exact absurd h9 hz
  · replace hP := kP_perm (pw_outr hk16 _ wr).symm hP
    replace hD := kD_perm (pw_outr hk16 _ wr).symm hD
    exact kk _ _ hP hD hS
end RU
