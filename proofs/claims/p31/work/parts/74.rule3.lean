/-! what a call answers and leaves, over a bridge told by its page: save, restore -/
section RU
variable {p : Program} {l : Launch} {e : Env} {R : Room} {s : State} {m : MethodId} {args : Array Value} {below : List Frame} {meth : Method} {c : Code} {H : Heap} {locs : List Loc} {cells slots : Nat} {Qp : State → Prop}
variable {cc : ByteArray} {nL : Nat} {own : String} {Ts : List Cond} {ret' : Option FieldType} {G : gG} {A : Nat → Prop} {pc index : Nat} {ls : Array Slot} {b L : Nat} {xs : Nat → Int32} {rest : List Value} {lv : List (Nat × Value)}
variable {d : AD} {x : XT} {wr : va_W} {n : Int32} {tt pg : Pg} {hs : List Pg} {k0 k1 : Option Pg}
set_option maxRecDepth 100000 in
set_option maxHeartbeats 4000000 in
theorem o_save0 (hlt : l.stackTraces = false) (cx : Cx p s m args meth c cc nL own Ts ret' G A) (cl : CL s A b L xs) (HQ : PQd d) (J : JNV x n tt pg hs k0 k1)   {r0 : Int32} (hr : (pg 8) = r0) (hP : va_P G.1 vwCl (wB G d x wr) H) (hD : va_D A (wB G d x wr)) (hS : va_S A s.heap H locs) (hT : GoodIn Ts (va_wsS own index yL_trySave wsL_trySave)) (hR : rmL_trySave.frames + 1 ≤ R.frames ∧ 8 + (3 + 11) + rmL_trySave.locals ≤ R.locals) (hl : lv_has ls nL lv) (hroom : (rest.map fun v => v.category).sum ≤ 8) (hdg : decode cc pc = .ok (.invokestatic index, 3)) (hf : cells + 1 ≤ R.cells ∧ slots + 6 ≤ R.slots) (kk : ∀ (x' : XT) (H1 : Heap) (locs1 : List Loc), JNV x' n tt pg hs (some pg) k1 → va_P G.1 vwCl (wB G d x' wr) H1 → va_D A (wB G d x' wr) → va_S A s.heap H1 locs1 → W p l e R s m args below meth c H1 locs1 (cells + 1) (slots + 6) Qp (F0 m (pc + 3) ls (.int r0 :: rest))) : W p l e R s m args below meth c H locs cells slots Qp (F0 m pc ls (.int 0 :: .ref d.1 :: rest)) := by
  obtain ⟨xb, tx, tz, pa, sl, fi, qs, qt, pgr, sg, Q⟩ := d
  obtain ⟨bf, tf, tc, ⟨f, oh, lf, ce⟩, ⟨ft, oht, lft, cet⟩, ff, C⟩ := x
  obtain ⟨mf, dd, kq, ki, I, e1, e2, H8, K0, K1⟩ := id J
  have e1 : tc = tt := e1
  subst e1
  have I : INV bf tf tc f oh lf ce ff C mf tc pg dd kq ki := I
  obtain ⟨hE, hN, hZ, -⟩ := cl
  have HQ : PQ Q pgr sg := HQ
  have hP : va_P G.1 vwCl (fxw G xb tx tz qs qt pa sl fi bf tf tc f oh lf ce ft oht lft cet pgr sg ff ++ (pw G Q C (List.range 16) ++ wr)) H := hP
  have hD : va_D A (fxw G xb tx tz qs qt pa sl fi bf tf tc f oh lf ce ft oht lft cet pgr sg ff ++ (pw G Q C (List.range 16) ++ wr)) := hD
  obtain ⟨kx, hk16, hkx, hsl⟩ := slot_k HQ 0
  replace hP := kP_perm (pw_outr hk16 _ wr) hP
  replace hD := kD_perm (pw_outr hk16 _ wr) hD
  have F := a_save I sg 0 kx hkx
  rw [xe_save sl0] at F
  have hC := c_L_trySave l hlt G xb tx qs.1 qt.1 pa sl fi qs.2.1 qs.2.2.1 qs.2.2.2 (Q kx).1 (Q kx).2.1 (Q kx).2.2.1 (Q kx).2.2.2 bf sg ff f oh lf ce (C kx).1 (C kx).2.1 (C kx).2.2.1 (C kx).2.2.2 0 I.2.1.stk hsl F.1
  generalize P_X3_save bf sg ff f oh lf ce (C kx).1 (C kx).2.1 (C kx).2.2.1 (C kx).2.2.2 0 = u at F hC
  obtain ⟨F1, F2, F3, F4, F5⟩ := F
  have h0 : u.1 = 0 := hm_z (congrFun F2 0).symm
  have ha : rz u.1 u.2.1 = pg 8 := by rw [h0]; exact F3 h0
  have JN : JV bf tf tc f oh lf ce (u.2.2.1) (updC C kx ((u.2.2.2.1), (u.2.2.2.2.1), (u.2.2.2.2.2.1), (u.2.2.2.2.2.2))) n tc pg hs (some pg) k1 := ⟨upd mf 0 0, dd, _, _, F5, rfl, e2, H8, ks_00, ks_01 K1⟩
  replace ha := ha.trans hr
  refine k_iW (ws' := fxw G xb tx tz qs qt pa sl fi bf tf tc f oh lf ce ft oht lft cet pgr sg (u.2.2.1) ++ (bun G (Q kx) (u.2.2.2.1) (u.2.2.2.2.1) (u.2.2.2.2.2.1) (u.2.2.2.2.2.2) ++ (pw G Q C (pr16 kx) ++ wr))) (as := [xb, sl, fi, qs.1, qs.2.1, qs.2.2.1, qs.2.2.2, (Q kx).1, (Q kx).2.1, (Q kx).2.2.1, (Q kx).2.2.2]) cx hP hD hS [0, 12, 13, 3, 4, 5, 6, 14, 15, 16, 17] rfl (kr_SL (n := 2) (As := [.ref xb, .int 0]) cx hE hN hZ hS hC hT rfl rfl rfl (by decide +kernel) hR hP hD [0, 12, 13, 3, 4, 5, 6, 14, 15, 16, 17] rfl rfl rfl rfl hl hroom hdg hf) ⟨rfl, rfl⟩ rfl rfl (fun H locs wx hwx hP hD hS => ?_)
  rw [ha]
  rcases hwx with ⟨h9, rfl⟩ | ⟨h9, rfl⟩
  · replace hP := kP_perm (pw_inr hk16 _ _ _ _ _ wr) hP
    replace hD := kD_perm (pw_inr hk16 _ _ _ _ _ wr) hD
    exact kk (bf, tf, tc, (f, oh, lf, ce), (ft, oht, lft, cet), (u.2.2.1), (updC C kx ((u.2.2.2.1), (u.2.2.2.2.1), (u.2.2.2.2.2.1), (u.2.2.2.2.2.2)))) _ _ JN hP hD hS
  · exact absurd h0 h9
set_option maxRecDepth 100000 in
set_option maxHeartbeats 4000000 in
theorem o_restore0 (hlt : l.stackTraces = false) (cx : Cx p s m args meth c cc nL own Ts ret' G A) (cl : CL s A b L xs) (HQ : PQd d) (J : JNV x n tt pg hs k0 k1)  {q : Pg} (hc : k0 = some q) {r0 : Int32} (hr : (q 8) = r0) (hP : va_P G.1 vwCl (wB G d x wr) H) (hD : va_D A (wB G d x wr)) (hS : va_S A s.heap H locs) (hT : GoodIn Ts (va_wsS own index yL_tryRestore wsL_tryRestore)) (hR : rmL_tryRestore.frames + 1 ≤ R.frames ∧ 8 + (3 + 11) + rmL_tryRestore.locals ≤ R.locals) (hl : lv_has ls nL lv) (hroom : (rest.map fun v => v.category).sum ≤ 8) (hdg : decode cc pc = .ok (.invokestatic index, 3)) (hf : cells + 1 ≤ R.cells ∧ slots + 6 ≤ R.slots) (kk : ∀ (x' : XT) (H1 : Heap) (locs1 : List Loc), JNV x' n tt q [] (some q) k1 → va_P G.1 vwCl (wB G d x' wr) H1 → va_D A (wB G d x' wr) → va_S A s.heap H1 locs1 → W p l e R s m args below meth c H1 locs1 (cells + 1) (slots + 6) Qp (F0 m (pc + 3) ls (.int r0 :: rest))) : W p l e R s m args below meth c H locs cells slots Qp (F0 m pc ls (.int 0 :: .ref d.1 :: rest)) := by
  obtain ⟨xb, tx, tz, pa, sl, fi, qs, qt, pgr, sg, Q⟩ := d
  obtain ⟨bf, tf, tc, ⟨f, oh, lf, ce⟩, ⟨ft, oht, lft, cet⟩, ff, C⟩ := x
  obtain ⟨mf, dd, kq, ki, I, e1, e2, H8, K0, K1⟩ := id J
  have e1 : tc = tt := e1
  subst e1
  have I : INV bf tf tc f oh lf ce ff C mf tc pg dd kq ki := I
  obtain ⟨hE, hN, hZ, -⟩ := cl
  have HQ : PQ Q pgr sg := HQ
  have hP : va_P G.1 vwCl (fxw G xb tx tz qs qt pa sl fi bf tf tc f oh lf ce ft oht lft cet pgr sg ff ++ (pw G Q C (List.range 16) ++ wr)) H := hP
  have hD : va_D A (fxw G xb tx tz qs qt pa sl fi bf tf tc f oh lf ce ft oht lft cet pgr sg ff ++ (pw G Q C (List.range 16) ++ wr)) := hD
  obtain ⟨kx, hk16, hkx, hsl⟩ := slot_k HQ 0
  replace hP := kP_perm (pw_outr hk16 _ wr) hP
  replace hD := kD_perm (pw_outr hk16 _ wr) hD
  have F := a_restore I sg 0 kx hkx
  subst hc
  rw [xe_restore sl0 (K0.2 q rfl).1] at F
  have hC := c_L_tryRestore l hlt G xb tx qs.1 qt.1 pa sl fi qs.2.1 qs.2.2.1 qs.2.2.2 (Q kx).1 (Q kx).2.1 (Q kx).2.2.1 (Q kx).2.2.2 bf sg ff f oh lf ce (C kx).1 (C kx).2.1 (C kx).2.2.1 (C kx).2.2.2 0 (I.2.2.2.1 kx) hsl F.1
  generalize P_X3_restore bf sg ff f oh lf ce (C kx).1 (C kx).2.1 (C kx).2.2.1 (C kx).2.2.2 0 = u at F hC
  obtain ⟨F1, F0, F3, F4, F5⟩ := F
  have h0 : u.1 = 0 := hm_z F0.symm
  have ha : rz u.1 u.2.1 = q 8 := by rw [h0]; exact (F3 h0).trans (rs_0 (pg := pg) K0 (j := 8) (by decide))
  have JN : JV (u.2.2.1) tf tc (u.2.2.2.1) (u.2.2.2.2.1) (u.2.2.2.2.2.1) (u.2.2.2.2.2.2) ff C n tc q [] (some q) k1 := ⟨upd (upd mf 0 0) 8 0, dd, kq, ki, inv_pg F5 (fun j hj => (rs_0 K0 hj).symm), rfl, e2, ⟨(show (0 : Int32).toInt = 0 by decide), fun i q9 h => by simp at h⟩, K0, K1⟩
  replace ha := ha.trans hr
  refine k_iW (ws' := fxw G xb tx tz qs qt pa sl fi (u.2.2.1) tf tc (u.2.2.2.1) (u.2.2.2.2.1) (u.2.2.2.2.2.1) (u.2.2.2.2.2.2) ft oht lft cet pgr sg ff ++ (bun G (Q kx) (C kx).1 (C kx).2.1 (C kx).2.2.1 (C kx).2.2.2 ++ (pw G Q C (pr16 kx) ++ wr))) (as := [xb, sl, fi, qs.1, qs.2.1, qs.2.2.1, qs.2.2.2, (Q kx).1, (Q kx).2.1, (Q kx).2.2.1, (Q kx).2.2.2]) cx hP hD hS [0, 12, 13, 3, 4, 5, 6, 14, 15, 16, 17] rfl (kr_SL (n := 2) (As := [.ref xb, .int 0]) cx hE hN hZ hS hC hT rfl rfl rfl (by decide +kernel) hR hP hD [0, 12, 13, 3, 4, 5, 6, 14, 15, 16, 17] rfl rfl rfl rfl hl hroom hdg hf) ⟨rfl, rfl⟩ rfl rfl (fun H locs wx hwx hP hD hS => ?_)
  rw [ha]
  rcases hwx with ⟨h9, rfl⟩ | ⟨h9, rfl⟩
  · replace hP := kP_perm (pw_outr hk16 _ wr).symm hP
    replace hD := kD_perm (pw_outr hk16 _ wr).symm hD
    exact kk ((u.2.2.1), tf, tc, ((u.2.2.2.1), (u.2.2.2.2.1), (u.2.2.2.2.2.1), (u.2.2.2.2.2.2)), (ft, oht, lft, cet), ff, C) _ _ JN hP hD hS
  · exact absurd h0 h9
set_option maxRecDepth 100000 in
set_option maxHeartbeats 4000000 in
theorem o_save1 (hlt : l.stackTraces = false) (cx : Cx p s m args meth c cc nL own Ts ret' G A) (cl : CL s A b L xs) (HQ : PQd d) (J : JNV x n tt pg hs k0 k1)   {r0 : Int32} (hr : (pg 8) = r0) (hP : va_P G.1 vwCl (wB G d x wr) H) (hD : va_D A (wB G d x wr)) (hS : va_S A s.heap H locs) (hT : GoodIn Ts (va_wsS own index yL_trySave wsL_trySave)) (hR : rmL_trySave.frames + 1 ≤ R.frames ∧ 8 + (3 + 11) + rmL_trySave.locals ≤ R.locals) (hl : lv_has ls nL lv) (hroom : (rest.map fun v => v.category).sum ≤ 8) (hdg : decode cc pc = .ok (.invokestatic index, 3)) (hf : cells + 1 ≤ R.cells ∧ slots + 6 ≤ R.slots) (kk : ∀ (x' : XT) (H1 : Heap) (locs1 : List Loc), JNV x' n tt pg hs k0 (some pg) → va_P G.1 vwCl (wB G d x' wr) H1 → va_D A (wB G d x' wr) → va_S A s.heap H1 locs1 → W p l e R s m args below meth c H1 locs1 (cells + 1) (slots + 6) Qp (F0 m (pc + 3) ls (.int r0 :: rest))) : W p l e R s m args below meth c H locs cells slots Qp (F0 m pc ls (.int 1 :: .ref d.1 :: rest)) := by
  obtain ⟨xb, tx, tz, pa, sl, fi, qs, qt, pgr, sg, Q⟩ := d
  obtain ⟨bf, tf, tc, ⟨f, oh, lf, ce⟩, ⟨ft, oht, lft, cet⟩, ff, C⟩ := x
  obtain ⟨mf, dd, kq, ki, I, e1, e2, H8, K0, K1⟩ := id J
  have e1 : tc = tt := e1
  subst e1
  have I : INV bf tf tc f oh lf ce ff C mf tc pg dd kq ki := I
  obtain ⟨hE, hN, hZ, -⟩ := cl
  have HQ : PQ Q pgr sg := HQ
  have hP : va_P G.1 vwCl (fxw G xb tx tz qs qt pa sl fi bf tf tc f oh lf ce ft oht lft cet pgr sg ff ++ (pw G Q C (List.range 16) ++ wr)) H := hP
  have hD : va_D A (fxw G xb tx tz qs qt pa sl fi bf tf tc f oh lf ce ft oht lft cet pgr sg ff ++ (pw G Q C (List.range 16) ++ wr)) := hD
  obtain ⟨kx, hk16, hkx, hsl⟩ := slot_k HQ 1
  replace hP := kP_perm (pw_outr hk16 _ wr) hP
  replace hD := kD_perm (pw_outr hk16 _ wr) hD
  have F := a_save I sg 1 kx hkx
  rw [xe_save sl1] at F
  have hC := c_L_trySave l hlt G xb tx qs.1 qt.1 pa sl fi qs.2.1 qs.2.2.1 qs.2.2.2 (Q kx).1 (Q kx).2.1 (Q kx).2.2.1 (Q kx).2.2.2 bf sg ff f oh lf ce (C kx).1 (C kx).2.1 (C kx).2.2.1 (C kx).2.2.2 1 I.2.1.stk hsl F.1
  generalize P_X3_save bf sg ff f oh lf ce (C kx).1 (C kx).2.1 (C kx).2.2.1 (C kx).2.2.2 1 = u at F hC
  obtain ⟨F1, F2, F3, F4, F5⟩ := F
  have h0 : u.1 = 0 := hm_z (congrFun F2 0).symm
  have ha : rz u.1 u.2.1 = pg 8 := by rw [h0]; exact F3 h0
  have JN : JV bf tf tc f oh lf ce (u.2.2.1) (updC C kx ((u.2.2.2.1), (u.2.2.2.2.1), (u.2.2.2.2.2.1), (u.2.2.2.2.2.2))) n tc pg hs k0 (some pg) := ⟨upd mf 0 0, dd, _, _, F5, rfl, e2, H8, ks_10 K0, ks_11⟩
  replace ha := ha.trans hr
  refine k_iW (ws' := fxw G xb tx tz qs qt pa sl fi bf tf tc f oh lf ce ft oht lft cet pgr sg (u.2.2.1) ++ (bun G (Q kx) (u.2.2.2.1) (u.2.2.2.2.1) (u.2.2.2.2.2.1) (u.2.2.2.2.2.2) ++ (pw G Q C (pr16 kx) ++ wr))) (as := [xb, sl, fi, qs.1, qs.2.1, qs.2.2.1, qs.2.2.2, (Q kx).1, (Q kx).2.1, (Q kx).2.2.1, (Q kx).2.2.2]) cx hP hD hS [0, 12, 13, 3, 4, 5, 6, 14, 15, 16, 17] rfl (kr_SL (n := 2) (As := [.ref xb, .int 1]) cx hE hN hZ hS hC hT rfl rfl rfl (by decide +kernel) hR hP hD [0, 12, 13, 3, 4, 5, 6, 14, 15, 16, 17] rfl rfl rfl rfl hl hroom hdg hf) ⟨rfl, rfl⟩ rfl rfl (fun H locs wx hwx hP hD hS => ?_)
  rw [ha]
  rcases hwx with ⟨h9, rfl⟩ | ⟨h9, rfl⟩
  · replace hP := kP_perm (pw_inr hk16 _ _ _ _ _ wr) hP
    replace hD := kD_perm (pw_inr hk16 _ _ _ _ _ wr) hD
    exact kk (bf, tf, tc, (f, oh, lf, ce), (ft, oht, lft, cet), (u.2.2.1), (updC C kx ((u.2.2.2.1), (u.2.2.2.2.1), (u.2.2.2.2.2.1), (u.2.2.2.2.2.2)))) _ _ JN hP hD hS
  · exact absurd h0 h9
set_option maxRecDepth 100000 in
set_option maxHeartbeats 4000000 in
theorem o_restore1 (hlt : l.stackTraces = false) (cx : Cx p s m args meth c cc nL own Ts ret' G A) (cl : CL s A b L xs) (HQ : PQd d) (J : JNV x n tt pg hs k0 k1)  {q : Pg} (hc : k1 = some q) {r0 : Int32} (hr : (q 8) = r0) (hP : va_P G.1 vwCl (wB G d x wr) H) (hD : va_D A (wB G d x wr)) (hS : va_S A s.heap H locs) (hT : GoodIn Ts (va_wsS own index yL_tryRestore wsL_tryRestore)) (hR : rmL_tryRestore.frames + 1 ≤ R.frames ∧ 8 + (3 + 11) + rmL_tryRestore.locals ≤ R.locals) (hl : lv_has ls nL lv) (hroom : (rest.map fun v => v.category).sum ≤ 8) (hdg : decode cc pc = .ok (.invokestatic index, 3)) (hf : cells + 1 ≤ R.cells ∧ slots + 6 ≤ R.slots) (kk : ∀ (x' : XT) (H1 : Heap) (locs1 : List Loc), JNV x' n tt q [] k0 (some q) → va_P G.1 vwCl (wB G d x' wr) H1 → va_D A (wB G d x' wr) → va_S A s.heap H1 locs1 → W p l e R s m args below meth c H1 locs1 (cells + 1) (slots + 6) Qp (F0 m (pc + 3) ls (.int r0 :: rest))) : W p l e R s m args below meth c H locs cells slots Qp (F0 m pc ls (.int 1 :: .ref d.1 :: rest)) := by
  obtain ⟨xb, tx, tz, pa, sl, fi, qs, qt, pgr, sg, Q⟩ := d
  obtain ⟨bf, tf, tc, ⟨f, oh, lf, ce⟩, ⟨ft, oht, lft, cet⟩, ff, C⟩ := x
  obtain ⟨mf, dd, kq, ki, I, e1, e2, H8, K0, K1⟩ := id J
  have e1 : tc = tt := e1
  subst e1
  have I : INV bf tf tc f oh lf ce ff C mf tc pg dd kq ki := I
  obtain ⟨hE, hN, hZ, -⟩ := cl
  have HQ : PQ Q pgr sg := HQ
  have hP : va_P G.1 vwCl (fxw G xb tx tz qs qt pa sl fi bf tf tc f oh lf ce ft oht lft cet pgr sg ff ++ (pw G Q C (List.range 16) ++ wr)) H := hP
  have hD : va_D A (fxw G xb tx tz qs qt pa sl fi bf tf tc f oh lf ce ft oht lft cet pgr sg ff ++ (pw G Q C (List.range 16) ++ wr)) := hD
  obtain ⟨kx, hk16, hkx, hsl⟩ := slot_k HQ 1
  replace hP := kP_perm (pw_outr hk16 _ wr) hP
  replace hD := kD_perm (pw_outr hk16 _ wr) hD
  have F := a_restore I sg 1 kx hkx
  subst hc
  rw [xe_restore sl1 (K1.2 q rfl).1] at F
  have hC := c_L_tryRestore l hlt G xb tx qs.1 qt.1 pa sl fi qs.2.1 qs.2.2.1 qs.2.2.2 (Q kx).1 (Q kx).2.1 (Q kx).2.2.1 (Q kx).2.2.2 bf sg ff f oh lf ce (C kx).1 (C kx).2.1 (C kx).2.2.1 (C kx).2.2.2 1 (I.2.2.2.1 kx) hsl F.1
  generalize P_X3_restore bf sg ff f oh lf ce (C kx).1 (C kx).2.1 (C kx).2.2.1 (C kx).2.2.2 1 = u at F hC
  obtain ⟨F1, F0, F3, F4, F5⟩ := F
  have h0 : u.1 = 0 := hm_z F0.symm
  have ha : rz u.1 u.2.1 = q 8 := by rw [h0]; exact (F3 h0).trans (rs_1 (pg := pg) K1 (j := 8) (by decide))
  have JN : JV (u.2.2.1) tf tc (u.2.2.2.1) (u.2.2.2.2.1) (u.2.2.2.2.2.1) (u.2.2.2.2.2.2) ff C n tc q [] k0 (some q) := ⟨upd (upd mf 0 0) 8 0, dd, kq, ki, inv_pg F5 (fun j hj => (rs_1 K1 hj).symm), rfl, e2, ⟨(show (0 : Int32).toInt = 0 by decide), fun i q9 h => by simp at h⟩, K0, K1⟩
  replace ha := ha.trans hr
  refine k_iW (ws' := fxw G xb tx tz qs qt pa sl fi (u.2.2.1) tf tc (u.2.2.2.1) (u.2.2.2.2.1) (u.2.2.2.2.2.1) (u.2.2.2.2.2.2) ft oht lft cet pgr sg ff ++ (bun G (Q kx) (C kx).1 (C kx).2.1 (C kx).2.2.1 (C kx).2.2.2 ++ (pw G Q C (pr16 kx) ++ wr))) (as := [xb, sl, fi, qs.1, qs.2.1, qs.2.2.1, qs.2.2.2, (Q kx).1, (Q kx).2.1, (Q kx).2.2.1, (Q kx).2.2.2]) cx hP hD hS [0, 12, 13, 3, 4, 5, 6, 14, 15, 16, 17] rfl (kr_SL (n := 2) (As := [.ref xb, .int 1]) cx hE hN hZ hS hC hT rfl rfl rfl (by decide +kernel) hR hP hD [0, 12, 13, 3, 4, 5, 6, 14, 15, 16, 17] rfl rfl rfl rfl hl hroom hdg hf) ⟨rfl, rfl⟩ rfl rfl (fun H locs wx hwx hP hD hS => ?_)
  rw [ha]
  rcases hwx with ⟨h9, rfl⟩ | ⟨h9, rfl⟩
  · replace hP := kP_perm (pw_outr hk16 _ wr).symm hP
    replace hD := kD_perm (pw_outr hk16 _ wr).symm hD
    exact kk ((u.2.2.1), tf, tc, ((u.2.2.2.1), (u.2.2.2.2.1), (u.2.2.2.2.2.1), (u.2.2.2.2.2.2)), (ft, oht, lft, cet), ff, C) _ _ JN hP hD hS
  · exact absurd h0 h9
set_option maxRecDepth 100000 in
set_option maxHeartbeats 4000000 in
theorem n_save (hlt : l.stackTraces = false) (cx : Cx p s m args meth c cc nL own Ts ret' G A) (cl : CL s A b L xs) (HQ : PQd d) (J : JNV x n tt pg hs k0 k1)   (hP : va_P G.1 vwCl (wB G d x wr) H) (hD : va_D A (wB G d x wr)) (hS : va_S A s.heap H locs) (hT : GoodIn Ts (va_wsS own index yL_trySave wsL_trySave)) (hR : rmL_trySave.frames + 1 ≤ R.frames ∧ 8 + (3 + 11) + rmL_trySave.locals ≤ R.locals) (hl : lv_has ls nL lv) (hroom : (rest.map fun v => v.category).sum ≤ 8) (hdg : decode cc pc = .ok (.invokestatic index, 3)) (hf : cells + 1 ≤ R.cells ∧ slots + 6 ≤ R.slots) (kk : ∀ (H1 : Heap) (locs1 : List Loc), va_P G.1 vwCl (wB G d x wr) H1 → va_D A (wB G d x wr) → va_S A s.heap H1 locs1 → W p l e R s m args below meth c H1 locs1 (cells + 1) (slots + 6) Qp (F0 m (pc + 3) ls (.int (-999900001) :: rest))) : W p l e R s m args below meth c H locs cells slots Qp (F0 m pc ls (.int 2 :: .ref d.1 :: rest)) := by
  obtain ⟨xb, tx, tz, pa, sl, fi, qs, qt, pgr, sg, Q⟩ := d
  obtain ⟨bf, tf, tc, ⟨f, oh, lf, ce⟩, ⟨ft, oht, lft, cet⟩, ff, C⟩ := x
  obtain ⟨mf, dd, kq, ki, I, e1, e2, H8, K0, K1⟩ := id J
  have e1 : tc = tt := e1
  subst e1
  have I : INV bf tf tc f oh lf ce ff C mf tc pg dd kq ki := I
  obtain ⟨hE, hN, hZ, -⟩ := cl
  have HQ : PQ Q pgr sg := HQ
  have hP : va_P G.1 vwCl (fxw G xb tx tz qs qt pa sl fi bf tf tc f oh lf ce ft oht lft cet pgr sg ff ++ (pw G Q C (List.range 16) ++ wr)) H := hP
  have hD : va_D A (fxw G xb tx tz qs qt pa sl fi bf tf tc f oh lf ce ft oht lft cet pgr sg ff ++ (pw G Q C (List.range 16) ++ wr)) := hD
  obtain ⟨kx, hk16, hkx, hsl⟩ := slot_k HQ 2
  replace hP := kP_perm (pw_outr hk16 _ wr) hP
  replace hD := kD_perm (pw_outr hk16 _ wr) hD
  have F := a_save I sg 2 kx hkx
  rw [xn_save (by decide)] at F
  have hC := c_L_trySave l hlt G xb tx qs.1 qt.1 pa sl fi qs.2.1 qs.2.2.1 qs.2.2.2 (Q kx).1 (Q kx).2.1 (Q kx).2.2.1 (Q kx).2.2.2 bf sg ff f oh lf ce (C kx).1 (C kx).2.1 (C kx).2.2.1 (C kx).2.2.2 2 I.2.1.stk hsl F.1
  generalize P_X3_save bf sg ff f oh lf ce (C kx).1 (C kx).2.1 (C kx).2.2.1 (C kx).2.2.2 2 = u at F hC
  obtain ⟨F1, F2, F3, F4, F5⟩ := F
  have ht : u.1 = 3 := hm_e (congrFun F2 0).symm
  have hz : ¬ u.1 = 0 := by rw [ht]; decide
  have ha : rz u.1 u.2.1 = (-999900001) := by rw [ht]; rfl
  refine k_iW (ws' := fxw G xb tx tz qs qt pa sl fi bf tf tc f oh lf ce ft oht lft cet pgr sg (u.2.2.1) ++ (bun G (Q kx) (u.2.2.2.1) (u.2.2.2.2.1) (u.2.2.2.2.2.1) (u.2.2.2.2.2.2) ++ (pw G Q C (pr16 kx) ++ wr))) (as := [xb, sl, fi, qs.1, qs.2.1, qs.2.2.1, qs.2.2.2, (Q kx).1, (Q kx).2.1, (Q kx).2.2.1, (Q kx).2.2.2]) cx hP hD hS [0, 12, 13, 3, 4, 5, 6, 14, 15, 16, 17] rfl (kr_SL (n := 2) (As := [.ref xb, .int 2]) cx hE hN hZ hS hC hT rfl rfl rfl (by decide +kernel) hR hP hD [0, 12, 13, 3, 4, 5, 6, 14, 15, 16, 17] rfl rfl rfl rfl hl hroom hdg hf) ⟨rfl, rfl⟩ rfl rfl (fun H locs wx hwx hP hD hS => ?_)
  rw [ha]
  rcases hwx with ⟨h9, rfl⟩ | ⟨h9, rfl⟩
  · exact absurd h9 hz
  · replace hP := kP_perm (pw_outr hk16 _ wr).symm hP
    replace hD := kD_perm (pw_outr hk16 _ wr).symm hD
    exact kk _ _ hP hD hS
set_option maxRecDepth 100000 in
set_option maxHeartbeats 4000000 in
theorem n_restore (hlt : l.stackTraces = false) (cx : Cx p s m args meth c cc nL own Ts ret' G A) (cl : CL s A b L xs) (HQ : PQd d) (J : JNV x n tt pg hs k0 k1)   (hP : va_P G.1 vwCl (wB G d x wr) H) (hD : va_D A (wB G d x wr)) (hS : va_S A s.heap H locs) (hT : GoodIn Ts (va_wsS own index yL_tryRestore wsL_tryRestore)) (hR : rmL_tryRestore.frames + 1 ≤ R.frames ∧ 8 + (3 + 11) + rmL_tryRestore.locals ≤ R.locals) (hl : lv_has ls nL lv) (hroom : (rest.map fun v => v.category).sum ≤ 8) (hdg : decode cc pc = .ok (.invokestatic index, 3)) (hf : cells + 1 ≤ R.cells ∧ slots + 6 ≤ R.slots) (kk : ∀ (H1 : Heap) (locs1 : List Loc), va_P G.1 vwCl (wB G d x wr) H1 → va_D A (wB G d x wr) → va_S A s.heap H1 locs1 → W p l e R s m args below meth c H1 locs1 (cells + 1) (slots + 6) Qp (F0 m (pc + 3) ls (.int (-999900001) :: rest))) : W p l e R s m args below meth c H locs cells slots Qp (F0 m pc ls (.int (-1) :: .ref d.1 :: rest)) := by
  obtain ⟨xb, tx, tz, pa, sl, fi, qs, qt, pgr, sg, Q⟩ := d
  obtain ⟨bf, tf, tc, ⟨f, oh, lf, ce⟩, ⟨ft, oht, lft, cet⟩, ff, C⟩ := x
  obtain ⟨mf, dd, kq, ki, I, e1, e2, H8, K0, K1⟩ := id J
  have e1 : tc = tt := e1
  subst e1
  have I : INV bf tf tc f oh lf ce ff C mf tc pg dd kq ki := I
  obtain ⟨hE, hN, hZ, -⟩ := cl
  have HQ : PQ Q pgr sg := HQ
  have hP : va_P G.1 vwCl (fxw G xb tx tz qs qt pa sl fi bf tf tc f oh lf ce ft oht lft cet pgr sg ff ++ (pw G Q C (List.range 16) ++ wr)) H := hP
  have hD : va_D A (fxw G xb tx tz qs qt pa sl fi bf tf tc f oh lf ce ft oht lft cet pgr sg ff ++ (pw G Q C (List.range 16) ++ wr)) := hD
  obtain ⟨kx, hk16, hkx, hsl⟩ := slot_k HQ (-1)
  replace hP := kP_perm (pw_outr hk16 _ wr) hP
  replace hD := kD_perm (pw_outr hk16 _ wr) hD
  have F := a_restore I sg (-1) kx hkx
  rw [xn_restore (by decide)] at F
  have hC := c_L_tryRestore l hlt G xb tx qs.1 qt.1 pa sl fi qs.2.1 qs.2.2.1 qs.2.2.2 (Q kx).1 (Q kx).2.1 (Q kx).2.2.1 (Q kx).2.2.2 bf sg ff f oh lf ce (C kx).1 (C kx).2.1 (C kx).2.2.1 (C kx).2.2.2 (-1) (I.2.2.2.1 kx) hsl F.1
  generalize P_X3_restore bf sg ff f oh lf ce (C kx).1 (C kx).2.1 (C kx).2.2.1 (C kx).2.2.2 (-1) = u at F hC
  obtain ⟨F1, F0, F3, F4, F5⟩ := F
  have ht : u.1 = 3 := hm_e F0.symm
  have hz : ¬ u.1 = 0 := by rw [ht]; decide
  have ha : rz u.1 u.2.1 = (-999900001) := by rw [ht]; rfl
  refine k_iW (ws' := fxw G xb tx tz qs qt pa sl fi (u.2.2.1) tf tc (u.2.2.2.1) (u.2.2.2.2.1) (u.2.2.2.2.2.1) (u.2.2.2.2.2.2) ft oht lft cet pgr sg ff ++ (bun G (Q kx) (C kx).1 (C kx).2.1 (C kx).2.2.1 (C kx).2.2.2 ++ (pw G Q C (pr16 kx) ++ wr))) (as := [xb, sl, fi, qs.1, qs.2.1, qs.2.2.1, qs.2.2.2, (Q kx).1, (Q kx).2.1, (Q kx).2.2.1, (Q kx).2.2.2]) cx hP hD hS [0, 12, 13, 3, 4, 5, 6, 14, 15, 16, 17] rfl (kr_SL (n := 2) (As := [.ref xb, .int (-1)]) cx hE hN hZ hS hC hT rfl rfl rfl (by decide +kernel) hR hP hD [0, 12, 13, 3, 4, 5, 6, 14, 15, 16, 17] rfl rfl rfl rfl hl hroom hdg hf) ⟨rfl, rfl⟩ rfl rfl (fun H locs wx hwx hP hD hS => ?_)
  rw [ha]
  rcases hwx with ⟨h9, rfl⟩ | ⟨h9, rfl⟩
  · exact absurd h9 hz
  · replace hP := kP_perm (pw_outr hk16 _ wr).symm hP
    replace hD := kD_perm (pw_outr hk16 _ wr).symm hD
    exact kk _ _ hP hD hS
set_option maxRecDepth 100000 in
set_option maxHeartbeats 4000000 in
theorem m_restore (hlt : l.stackTraces = false) (cx : Cx p s m args meth c cc nL own Ts ret' G A) (cl : CL s A b L xs) (HQ : PQd d) (J : JNV x n tt pg hs k0 k1)  (hc : k1 = none) (hP : va_P G.1 vwCl (wB G d x wr) H) (hD : va_D A (wB G d x wr)) (hS : va_S A s.heap H locs) (hT : GoodIn Ts (va_wsS own index yL_tryRestore wsL_tryRestore)) (hR : rmL_tryRestore.frames + 1 ≤ R.frames ∧ 8 + (3 + 11) + rmL_tryRestore.locals ≤ R.locals) (hl : lv_has ls nL lv) (hroom : (rest.map fun v => v.category).sum ≤ 8) (hdg : decode cc pc = .ok (.invokestatic index, 3)) (hf : cells + 1 ≤ R.cells ∧ slots + 6 ≤ R.slots) (kk : ∀ (H1 : Heap) (locs1 : List Loc), va_P G.1 vwCl (wB G d x wr) H1 → va_D A (wB G d x wr) → va_S A s.heap H1 locs1 → W p l e R s m args below meth c H1 locs1 (cells + 1) (slots + 6) Qp (F0 m (pc + 3) ls (.int (-999900003) :: rest))) : W p l e R s m args below meth c H locs cells slots Qp (F0 m pc ls (.int 1 :: .ref d.1 :: rest)) := by
  obtain ⟨xb, tx, tz, pa, sl, fi, qs, qt, pgr, sg, Q⟩ := d
  obtain ⟨bf, tf, tc, ⟨f, oh, lf, ce⟩, ⟨ft, oht, lft, cet⟩, ff, C⟩ := x
  obtain ⟨mf, dd, kq, ki, I, e1, e2, H8, K0, K1⟩ := id J
  have e1 : tc = tt := e1
  subst e1
  have I : INV bf tf tc f oh lf ce ff C mf tc pg dd kq ki := I
  obtain ⟨hE, hN, hZ, -⟩ := cl
  have HQ : PQ Q pgr sg := HQ
  have hP : va_P G.1 vwCl (fxw G xb tx tz qs qt pa sl fi bf tf tc f oh lf ce ft oht lft cet pgr sg ff ++ (pw G Q C (List.range 16) ++ wr)) H := hP
  have hD : va_D A (fxw G xb tx tz qs qt pa sl fi bf tf tc f oh lf ce ft oht lft cet pgr sg ff ++ (pw G Q C (List.range 16) ++ wr)) := hD
  obtain ⟨kx, hk16, hkx, hsl⟩ := slot_k HQ 1
  replace hP := kP_perm (pw_outr hk16 _ wr) hP
  replace hD := kD_perm (pw_outr hk16 _ wr) hD
  have F := a_restore I sg 1 kx hkx
  rw [xm_restore sl1 (K1.1 hc)] at F
  have hC := c_L_tryRestore l hlt G xb tx qs.1 qt.1 pa sl fi qs.2.1 qs.2.2.1 qs.2.2.2 (Q kx).1 (Q kx).2.1 (Q kx).2.2.1 (Q kx).2.2.2 bf sg ff f oh lf ce (C kx).1 (C kx).2.1 (C kx).2.2.1 (C kx).2.2.2 1 (I.2.2.2.1 kx) hsl F.1
  generalize P_X3_restore bf sg ff f oh lf ce (C kx).1 (C kx).2.1 (C kx).2.2.1 (C kx).2.2.2 1 = u at F hC
  obtain ⟨F1, F0, F3, F4, F5⟩ := F
  have hn := hm_f F0.symm
  have ht : u.1 = 2 := (F1.resolve_left hn.1).elim (fun c => by first | exact absurd c hn.2 | exact c) (fun c => by first | exact c | exact absurd c hn.2)
  have hz : ¬ u.1 = 0 := by rw [ht]; decide
  have ha : rz u.1 u.2.1 = (-999900003) := by rw [ht]; rfl
  refine k_iW (ws' := fxw G xb tx tz qs qt pa sl fi (u.2.2.1) tf tc (u.2.2.2.1) (u.2.2.2.2.1) (u.2.2.2.2.2.1) (u.2.2.2.2.2.2) ft oht lft cet pgr sg ff ++ (bun G (Q kx) (C kx).1 (C kx).2.1 (C kx).2.2.1 (C kx).2.2.2 ++ (pw G Q C (pr16 kx) ++ wr))) (as := [xb, sl, fi, qs.1, qs.2.1, qs.2.2.1, qs.2.2.2, (Q kx).1, (Q kx).2.1, (Q kx).2.2.1, (Q kx).2.2.2]) cx hP hD hS [0, 12, 13, 3, 4, 5, 6, 14, 15, 16, 17] rfl (kr_SL (n := 2) (As := [.ref xb, .int 1]) cx hE hN hZ hS hC hT rfl rfl rfl (by decide +kernel) hR hP hD [0, 12, 13, 3, 4, 5, 6, 14, 15, 16, 17] rfl rfl rfl rfl hl hroom hdg hf) ⟨rfl, rfl⟩ rfl rfl (fun H locs wx hwx hP hD hS => ?_)
  rw [ha]
  rcases hwx with ⟨h9, rfl⟩ | ⟨h9, rfl⟩
  · exact absurd h9 hz
  · replace hP := kP_perm (pw_outr hk16 _ wr).symm hP
    replace hD := kD_perm (pw_outr hk16 _ wr).symm hD
    exact kk _ _ hP hD hS
end RU
