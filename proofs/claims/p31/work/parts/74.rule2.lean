/-! what a call answers and leaves, over a bridge told by its page: add, free, undo -/
section RU
variable {p : Program} {l : Launch} {e : Env} {R : Room} {s : State} {m : MethodId} {args : Array Value} {below : List Frame} {meth : Method} {c : Code} {H : Heap} {locs : List Loc} {cells slots : Nat} {Qp : State → Prop}
variable {cc : ByteArray} {nL : Nat} {own : String} {Ts : List Cond} {ret' : Option FieldType} {G : gG} {A : Nat → Prop} {pc index : Nat} {ls : Array Slot} {b L : Nat} {xs : Nat → Int32} {rest : List Value} {lv : List (Nat × Value)}
variable {d : AD} {x : XT} {wr : va_W} {n : Int32} {tt pg : Pg} {hs : List Pg} {k0 k1 : Option Pg}
set_option maxRecDepth 100000 in
set_option maxHeartbeats 4000000 in
theorem o_add (hlt : l.stackTraces = false) (cx : Cx p s m args meth c cc nL own Ts ret' G A) (cl : CL s A b L xs) (HQ : PQd d) (J : JNV x n tt pg hs k0 k1) (oh0 : Int32) (hc : ¬ P_X4_in oh0.toInt64 1 9999 = 0) (hc2 : ¬ pg 9 = 6) {r0 : Int32} (hr : ((((upd pg (15 + (pg 9)).toNatClampNeg oh0) 9) + 1) - 1) = r0) (hP : va_P G.1 vwCl (wB G d x wr) H) (hD : va_D A (wB G d x wr)) (hS : va_S A s.heap H locs) (hT : GoodIn Ts (va_wsS own index yL_tryAdd wsL_tryAdd)) (hR : rmL_tryAdd.frames + 1 ≤ R.frames ∧ 8 + (3 + 11) + rmL_tryAdd.locals ≤ R.locals) (hl : lv_has ls nL lv) (hroom : (rest.map fun v => v.category).sum ≤ 8) (hdg : decode cc pc = .ok (.invokestatic index, 3)) (hf : cells + 1 ≤ R.cells ∧ slots + 6 ≤ R.slots) (kk : ∀ (x' : XT) (H1 : Heap) (locs1 : List Loc), JNV x' n tt (upd (upd pg (15 + (pg 9)).toNatClampNeg oh0) 9 (((upd pg (15 + (pg 9)).toNatClampNeg oh0) 9) + 1)) (push hs pg) k0 k1 → va_P G.1 vwCl (wB G d x' wr) H1 → va_D A (wB G d x' wr) → va_S A s.heap H1 locs1 → W p l e R s m args below meth c H1 locs1 (cells + 1) (slots + 6) Qp (F0 m (pc + 3) ls (.int r0 :: rest))) : W p l e R s m args below meth c H locs cells slots Qp (F0 m pc ls (.int oh0 :: .ref d.1 :: rest)) := by
  obtain ⟨xb, tx, tz, pa, sl, fi, qs, qt, pgr, sg, Q⟩ := d
  obtain ⟨bf, tf, tc, ⟨f, oh, lf, ce⟩, ⟨ft, oht, lft, cet⟩, ff, C⟩ := x
  obtain ⟨mf, dd, kq, ki, I, e1, e2, H8, K0, K1⟩ := id J
  have e1 : tc = tt := e1
  subst e1
  have I : INV bf tf tc f oh lf ce ff C mf tc pg dd kq ki := I
  obtain ⟨hE, hN, hZ, -⟩ := cl
  have HQ : PQ Q pgr sg := HQ
  have hP : va_P G.1 vwCl (fxw G xb tx tz qs qt pa sl fi bf tf tc f oh lf ce ft oht lft cet pgr sg ff ++ (pw G Q C (List.range 16) ++ wr)) H := hP
  have hD : va_D A (fxw G xb tx tz qs qt pa sl fi bf tf tc f oh lf ce ft oht lft cet pgr sg ff ++ (pw G Q C (List.range 16) ++ wr)) := hD
  have hb5 := I.2.2.1.2.2.1
  obtain ⟨kx, ekx⟩ : ∃ kx, kx = (bf 5).toInt.toNat := ⟨_, rfl⟩
  have hk14 : kx < 14 := by omega
  have hpg : P_X3_entry 14 pgr (bf 5) = some (Q kx).1 := (ent_i (k := kx) (by omega) hk14 (by decide)).trans (HQ.1 kx hk14)
  have hk16 : kx < 16 := by omega
  replace hP := kP_perm (pw_outr hk16 _ wr) hP
  replace hD := kD_perm (pw_outr hk16 _ wr) hD
  have F := a_add I pgr oh0
  rw [← ekx] at F
  rw [xe_add hc hc2] at F
  have hC := c_L_tryAdd l hlt G xb tx qs.1 qt.1 pa sl fi qs.2.1 qs.2.2.1 qs.2.2.2 (Q kx).1 (Q kx).2.1 (Q kx).2.2.1 (Q kx).2.2.2 bf pgr f oh lf ce (C kx).1 (C kx).2.1 (C kx).2.2.1 (C kx).2.2.2 oh0 I.2.1.stk hpg F.1
  generalize P_X3_add bf pgr f oh lf ce (C kx).1 (C kx).2.1 (C kx).2.2.1 (C kx).2.2.2 oh0 = u at F hC
  obtain ⟨F1, F0, F3, F4, F5⟩ := F
  have h0 : u.1 = 0 := hm_z (F0.symm.trans (note_0 I.2.2.1.2.1))
  have ha : rz u.1 u.2.1 = ((((upd pg (15 + (pg 9)).toNatClampNeg oh0) 9) + 1) - 1) := by rw [h0]; exact F3 h0
  have JN : JV (u.2.2.1) tf tc (u.2.2.2.1) (u.2.2.2.2.1) lf ce ff (updC C kx ((u.2.2.2.2.2.1), (u.2.2.2.2.2.2.1), (u.2.2.2.2.2.2.2.1), (u.2.2.2.2.2.2.2.2))) n tc (upd (upd pg (15 + (pg 9)).toNatClampNeg oh0) 9 (((upd pg (15 + (pg 9)).toNatClampNeg oh0) 9) + 1)) (push hs pg) k0 k1 := jn_ok I.2.2.1.2.1 rfl e2 H8 K0 K1 F5
  replace ha := ha.trans hr
  refine k_iW (ws' := fxw G xb tx tz qs qt pa sl fi (u.2.2.1) tf tc (u.2.2.2.1) (u.2.2.2.2.1) lf ce ft oht lft cet pgr sg ff ++ (bun G (Q kx) (u.2.2.2.2.2.1) (u.2.2.2.2.2.2.1) (u.2.2.2.2.2.2.2.1) (u.2.2.2.2.2.2.2.2) ++ (pw G Q C (pr16 kx) ++ wr))) (as := [xb, pa, qs.1, qs.2.1, qs.2.2.1, qs.2.2.2, (Q kx).1, (Q kx).2.1, (Q kx).2.2.1, (Q kx).2.2.2]) cx hP hD hS [0, 11, 3, 4, 5, 6, 14, 15, 16, 17] rfl (kr_SL (n := 2) (As := [.ref xb, .int oh0]) cx hE hN hZ hS hC hT rfl rfl rfl (by decide +kernel) hR hP hD [0, 11, 3, 4, 5, 6, 14, 15, 16, 17] rfl rfl rfl rfl hl hroom hdg hf) ⟨rfl, rfl⟩ rfl rfl (fun H locs wx hwx hP hD hS => ?_)
  rw [ha]
  rcases hwx with ⟨h9, rfl⟩ | ⟨h9, rfl⟩
  · replace hP := kP_perm (pw_inr hk16 _ _ _ _ _ wr) hP
    replace hD := kD_perm (pw_inr hk16 _ _ _ _ _ wr) hD
    exact kk ((u.2.2.1), tf, tc, ((u.2.2.2.1), (u.2.2.2.2.1), lf, ce), (ft, oht, lft, cet), ff, (updC C kx ((u.2.2.2.2.2.1), (u.2.2.2.2.2.2.1), (u.2.2.2.2.2.2.2.1), (u.2.2.2.2.2.2.2.2)))) _ _ JN hP hD hS
  · exact absurd h0 h9
set_option maxRecDepth 100000 in
set_option maxHeartbeats 4000000 in
theorem n_add (hlt : l.stackTraces = false) (cx : Cx p s m args meth c cc nL own Ts ret' G A) (cl : CL s A b L xs) (HQ : PQd d) (J : JNV x n tt pg hs k0 k1) (oh0 : Int32) (hc : P_X4_in oh0.toInt64 1 9999 = 0) (hP : va_P G.1 vwCl (wB G d x wr) H) (hD : va_D A (wB G d x wr)) (hS : va_S A s.heap H locs) (hT : GoodIn Ts (va_wsS own index yL_tryAdd wsL_tryAdd)) (hR : rmL_tryAdd.frames + 1 ≤ R.frames ∧ 8 + (3 + 11) + rmL_tryAdd.locals ≤ R.locals) (hl : lv_has ls nL lv) (hroom : (rest.map fun v => v.category).sum ≤ 8) (hdg : decode cc pc = .ok (.invokestatic index, 3)) (hf : cells + 1 ≤ R.cells ∧ slots + 6 ≤ R.slots) (kk : ∀ (H1 : Heap) (locs1 : List Loc), va_P G.1 vwCl (wB G d x wr) H1 → va_D A (wB G d x wr) → va_S A s.heap H1 locs1 → W p l e R s m args below meth c H1 locs1 (cells + 1) (slots + 6) Qp (F0 m (pc + 3) ls (.int (-999900002) :: rest))) : W p l e R s m args below meth c H locs cells slots Qp (F0 m pc ls (.int oh0 :: .ref d.1 :: rest)) := by
  obtain ⟨xb, tx, tz, pa, sl, fi, qs, qt, pgr, sg, Q⟩ := d
  obtain ⟨bf, tf, tc, ⟨f, oh, lf, ce⟩, ⟨ft, oht, lft, cet⟩, ff, C⟩ := x
  obtain ⟨mf, dd, kq, ki, I, e1, e2, H8, K0, K1⟩ := id J
  have e1 : tc = tt := e1
  subst e1
  have I : INV bf tf tc f oh lf ce ff C mf tc pg dd kq ki := I
  obtain ⟨hE, hN, hZ, -⟩ := cl
  have HQ : PQ Q pgr sg := HQ
  have hP : va_P G.1 vwCl (fxw G xb tx tz qs qt pa sl fi bf tf tc f oh lf ce ft oht lft cet pgr sg ff ++ (pw G Q C (List.range 16) ++ wr)) H := hP
  have hD : va_D A (fxw G xb tx tz qs qt pa sl fi bf tf tc f oh lf ce ft oht lft cet pgr sg ff ++ (pw G Q C (List.range 16) ++ wr)) := hD
  have hb5 := I.2.2.1.2.2.1
  obtain ⟨kx, ekx⟩ : ∃ kx, kx = (bf 5).toInt.toNat := ⟨_, rfl⟩
  have hk14 : kx < 14 := by omega
  have hpg : P_X3_entry 14 pgr (bf 5) = some (Q kx).1 := (ent_i (k := kx) (by omega) hk14 (by decide)).trans (HQ.1 kx hk14)
  have hk16 : kx < 16 := by omega
  replace hP := kP_perm (pw_outr hk16 _ wr) hP
  replace hD := kD_perm (pw_outr hk16 _ wr) hD
  have F := a_add I pgr oh0
  rw [← ekx] at F
  rw [xn_add hc] at F
  have hC := c_L_tryAdd l hlt G xb tx qs.1 qt.1 pa sl fi qs.2.1 qs.2.2.1 qs.2.2.2 (Q kx).1 (Q kx).2.1 (Q kx).2.2.1 (Q kx).2.2.2 bf pgr f oh lf ce (C kx).1 (C kx).2.1 (C kx).2.2.1 (C kx).2.2.2 oh0 I.2.1.stk hpg F.1
  generalize P_X3_add bf pgr f oh lf ce (C kx).1 (C kx).2.1 (C kx).2.2.1 (C kx).2.2.2 oh0 = u at F hC
  obtain ⟨F1, F0, F3, F4, F5⟩ := F
  have ht : u.1 = 1 := hm_e F0.symm
  have hz : ¬ u.1 = 0 := by rw [ht]; decide
  have ha : rz u.1 u.2.1 = (-999900002) := by rw [ht]; rfl
  refine k_iW (ws' := fxw G xb tx tz qs qt pa sl fi (u.2.2.1) tf tc (u.2.2.2.1) (u.2.2.2.2.1) lf ce ft oht lft cet pgr sg ff ++ (bun G (Q kx) (u.2.2.2.2.2.1) (u.2.2.2.2.2.2.1) (u.2.2.2.2.2.2.2.1) (u.2.2.2.2.2.2.2.2) ++ (pw G Q C (pr16 kx) ++ wr))) (as := [xb, pa, qs.1, qs.2.1, qs.2.2.1, qs.2.2.2, (Q kx).1, (Q kx).2.1, (Q kx).2.2.1, (Q kx).2.2.2]) cx hP hD hS [0, 11, 3, 4, 5, 6, 14, 15, 16, 17] rfl (kr_SL (n := 2) (As := [.ref xb, .int oh0]) cx hE hN hZ hS hC hT rfl rfl rfl (by decide +kernel) hR hP hD [0, 11, 3, 4, 5, 6, 14, 15, 16, 17] rfl rfl rfl rfl hl hroom hdg hf) ⟨rfl, rfl⟩ rfl rfl (fun H locs wx hwx hP hD hS => ?_)
  rw [ha]
  rcases hwx with ⟨h9, rfl⟩ | ⟨h9, rfl⟩
  · exact absurd h9 hz
  · replace hP := kP_perm (pw_outr hk16 _ wr).symm hP
    replace hD := kD_perm (pw_outr hk16 _ wr).symm hD
    exact kk _ _ hP hD hS
set_option maxRecDepth 100000 in
set_option maxHeartbeats 4000000 in
theorem m_add (hlt : l.stackTraces = false) (cx : Cx p s m args meth c cc nL own Ts ret' G A) (cl : CL s A b L xs) (HQ : PQd d) (J : JNV x n tt pg hs k0 k1) (oh0 : Int32) (hc : ¬ P_X4_in oh0.toInt64 1 9999 = 0) (hc2 : pg 9 = 6) (hP : va_P G.1 vwCl (wB G d x wr) H) (hD : va_D A (wB G d x wr)) (hS : va_S A s.heap H locs) (hT : GoodIn Ts (va_wsS own index yL_tryAdd wsL_tryAdd)) (hR : rmL_tryAdd.frames + 1 ≤ R.frames ∧ 8 + (3 + 11) + rmL_tryAdd.locals ≤ R.locals) (hl : lv_has ls nL lv) (hroom : (rest.map fun v => v.category).sum ≤ 8) (hdg : decode cc pc = .ok (.invokestatic index, 3)) (hf : cells + 1 ≤ R.cells ∧ slots + 6 ≤ R.slots) (kk : ∀ (H1 : Heap) (locs1 : List Loc), va_P G.1 vwCl (wB G d x wr) H1 → va_D A (wB G d x wr) → va_S A s.heap H1 locs1 → W p l e R s m args below meth c H1 locs1 (cells + 1) (slots + 6) Qp (F0 m (pc + 3) ls (.int (-999900003) :: rest))) : W p l e R s m args below meth c H locs cells slots Qp (F0 m pc ls (.int oh0 :: .ref d.1 :: rest)) := by
  obtain ⟨xb, tx, tz, pa, sl, fi, qs, qt, pgr, sg, Q⟩ := d
  obtain ⟨bf, tf, tc, ⟨f, oh, lf, ce⟩, ⟨ft, oht, lft, cet⟩, ff, C⟩ := x
  obtain ⟨mf, dd, kq, ki, I, e1, e2, H8, K0, K1⟩ := id J
  have e1 : tc = tt := e1
  subst e1
  have I : INV bf tf tc f oh lf ce ff C mf tc pg dd kq ki := I
  obtain ⟨hE, hN, hZ, -⟩ := cl
  have HQ : PQ Q pgr sg := HQ
  have hP : va_P G.1 vwCl (fxw G xb tx tz qs qt pa sl fi bf tf tc f oh lf ce ft oht lft cet pgr sg ff ++ (pw G Q C (List.range 16) ++ wr)) H := hP
  have hD : va_D A (fxw G xb tx tz qs qt pa sl fi bf tf tc f oh lf ce ft oht lft cet pgr sg ff ++ (pw G Q C (List.range 16) ++ wr)) := hD
  have hb5 := I.2.2.1.2.2.1
  obtain ⟨kx, ekx⟩ : ∃ kx, kx = (bf 5).toInt.toNat := ⟨_, rfl⟩
  have hk14 : kx < 14 := by omega
  have hpg : P_X3_entry 14 pgr (bf 5) = some (Q kx).1 := (ent_i (k := kx) (by omega) hk14 (by decide)).trans (HQ.1 kx hk14)
  have hk16 : kx < 16 := by omega
  replace hP := kP_perm (pw_outr hk16 _ wr) hP
  replace hD := kD_perm (pw_outr hk16 _ wr) hD
  have F := a_add I pgr oh0
  rw [← ekx] at F
  rw [xm_add hc hc2] at F
  have hC := c_L_tryAdd l hlt G xb tx qs.1 qt.1 pa sl fi qs.2.1 qs.2.2.1 qs.2.2.2 (Q kx).1 (Q kx).2.1 (Q kx).2.2.1 (Q kx).2.2.2 bf pgr f oh lf ce (C kx).1 (C kx).2.1 (C kx).2.2.1 (C kx).2.2.2 oh0 I.2.1.stk hpg F.1
  generalize P_X3_add bf pgr f oh lf ce (C kx).1 (C kx).2.1 (C kx).2.2.1 (C kx).2.2.2 oh0 = u at F hC
  obtain ⟨F1, F0, F3, F4, F5⟩ := F
  have hn := hm_f F0.symm
  have ht : u.1 = 2 := (F1.resolve_left hn.1).elim (fun c => by first | exact absurd c hn.2 | exact c) (fun c => by first | exact c | exact absurd c hn.2)
  have hz : ¬ u.1 = 0 := by rw [ht]; decide
  have ha : rz u.1 u.2.1 = (-999900003) := by rw [ht]; rfl
  refine k_iW (ws' := fxw G xb tx tz qs qt pa sl fi (u.2.2.1) tf tc (u.2.2.2.1) (u.2.2.2.2.1) lf ce ft oht lft cet pgr sg ff ++ (bun G (Q kx) (u.2.2.2.2.2.1) (u.2.2.2.2.2.2.1) (u.2.2.2.2.2.2.2.1) (u.2.2.2.2.2.2.2.2) ++ (pw G Q C (pr16 kx) ++ wr))) (as := [xb, pa, qs.1, qs.2.1, qs.2.2.1, qs.2.2.2, (Q kx).1, (Q kx).2.1, (Q kx).2.2.1, (Q kx).2.2.2]) cx hP hD hS [0, 11, 3, 4, 5, 6, 14, 15, 16, 17] rfl (kr_SL (n := 2) (As := [.ref xb, .int oh0]) cx hE hN hZ hS hC hT rfl rfl rfl (by decide +kernel) hR hP hD [0, 11, 3, 4, 5, 6, 14, 15, 16, 17] rfl rfl rfl rfl hl hroom hdg hf) ⟨rfl, rfl⟩ rfl rfl (fun H locs wx hwx hP hD hS => ?_)
  rw [ha]
  rcases hwx with ⟨h9, rfl⟩ | ⟨h9, rfl⟩
  · exact absurd h9 hz
  · replace hP := kP_perm (pw_outr hk16 _ wr).symm hP
    replace hD := kD_perm (pw_outr hk16 _ wr).symm hD
    exact kk _ _ hP hD hS
set_option maxRecDepth 100000 in
set_option maxHeartbeats 4000000 in
theorem o_free (hlt : l.stackTraces = false) (cx : Cx p s m args meth c cc nL own Ts ret' G A) (cl : CL s A b L xs) (HQ : PQd d) (J : JNV x n tt pg hs k0 k1)   {r0 : Int32} (hr : (pg 11) = r0) (hP : va_P G.1 vwCl (wB G d x wr) H) (hD : va_D A (wB G d x wr)) (hS : va_S A s.heap H locs) (hT : GoodIn Ts (wsV own index RX3 yX3_free wsX3_free)) (hR : rm_X3_free.frames + 1 ≤ R.frames ∧ 8 + (2 + 11) + rm_X3_free.locals ≤ R.locals) (hl : lv_has ls nL lv) (hroom : (rest.map fun v => v.category).sum ≤ 8) (hdg : decode cc pc = .ok (.invokevirtual index, 3)) (hf : cells ≤ R.cells ∧ slots ≤ R.slots) (kk : ∀ (x' : XT) (H1 : Heap) (locs1 : List Loc), JNV x' n tt (P_X4_freeOn pg) (push hs pg) k0 k1 → va_P G.1 vwCl (wB G d x' wr) H1 → va_D A (wB G d x' wr) → va_S A s.heap H1 locs1 → W p l e R s m args below meth c H1 locs1 cells slots Qp (F0 m (pc + 3) ls (.int r0 :: rest))) : W p l e R s m args below meth c H locs cells slots Qp (F0 m pc ls (.ref d.1 :: rest)) := by
  obtain ⟨xb, tx, tz, pa, sl, fi, qs, qt, pgr, sg, Q⟩ := d
  obtain ⟨bf, tf, tc, ⟨f, oh, lf, ce⟩, ⟨ft, oht, lft, cet⟩, ff, C⟩ := x
  obtain ⟨mf, dd, kq, ki, I, e1, e2, H8, K0, K1⟩ := id J
  have e1 : tc = tt := e1
  subst e1
  have I : INV bf tf tc f oh lf ce ff C mf tc pg dd kq ki := I
  obtain ⟨hE, hN, hZ, -⟩ := cl
  have HQ : PQ Q pgr sg := HQ
  have hP : va_P G.1 vwCl (fxw G xb tx tz qs qt pa sl fi bf tf tc f oh lf ce ft oht lft cet pgr sg ff ++ (pw G Q C (List.range 16) ++ wr)) H := hP
  have hD : va_D A (fxw G xb tx tz qs qt pa sl fi bf tf tc f oh lf ce ft oht lft cet pgr sg ff ++ (pw G Q C (List.range 16) ++ wr)) := hD
  have hb5 := I.2.2.1.2.2.1
  obtain ⟨kx, ekx⟩ : ∃ kx, kx = (bf 5).toInt.toNat := ⟨_, rfl⟩
  have hk14 : kx < 14 := by omega
  have hpg : P_X3_entry 14 pgr (bf 5) = some (Q kx).1 := (ent_i (k := kx) (by omega) hk14 (by decide)).trans (HQ.1 kx hk14)
  have hk16 : kx < 16 := by omega
  replace hP := kP_perm (pw_outr hk16 _ wr) hP
  replace hD := kD_perm (pw_outr hk16 _ wr) hD
  have F := a_free I pgr 
  rw [← ekx] at F
  rw [xe_free] at F
  have hC := c_X3_free l G xb tx qs.1 qt.1 pa sl fi qs.2.1 qs.2.2.1 qs.2.2.2 (Q kx).1 (Q kx).2.1 (Q kx).2.2.1 (Q kx).2.2.2 bf pgr f oh lf ce (C kx).1 (C kx).2.1 (C kx).2.2.1 (C kx).2.2.2 I.2.1.stk hpg
  generalize P_X3_free bf pgr f oh lf ce (C kx).1 (C kx).2.1 (C kx).2.2.1 (C kx).2.2.2 = u at F hC
  obtain ⟨F0, F3, F5⟩ := F
  have ha : u.1 = pg 11 := F3
  have JN : JV (u.2.1) tf tc (u.2.2.1) oh lf ce ff (updC C kx ((u.2.2.2.1), (u.2.2.2.2.1), (u.2.2.2.2.2.1), (u.2.2.2.2.2.2))) n tc (P_X4_freeOn pg) (push hs pg) k0 k1 := jn_ok I.2.2.1.2.1 rfl e2 H8 K0 K1 F5
  replace ha := ha.trans hr
  refine k_i (ws' := fxw G xb tx tz qs qt pa sl fi (u.2.1) tf tc (u.2.2.1) oh lf ce ft oht lft cet pgr sg ff ++ (bun G (Q kx) (u.2.2.2.1) (u.2.2.2.2.1) (u.2.2.2.2.2.1) (u.2.2.2.2.2.2) ++ (pw G Q C (pr16 kx) ++ wr))) (as := [xb, pa, qs.1, qs.2.1, qs.2.2.1, qs.2.2.2, (Q kx).1, (Q kx).2.1, (Q kx).2.2.1, (Q kx).2.2.2]) cx hP hD hS [0, 11, 3, 4, 5, 6, 14, 15, 16, 17] rfl (kr_V (n := 0) (As := []) (ci := 3) cx hC hT rfl rfl rfl (by decide +kernel) hR rfl rfl rfl hP hD [0, 11, 3, 4, 5, 6, 14, 15, 16, 17] rfl rfl rfl rfl hl hroom hdg hf) ⟨rfl, rfl⟩ rfl (fun H locs hP hD hS => ?_)
  rw [ha]
  replace hP := kP_perm (pw_inr hk16 _ _ _ _ _ wr) hP
  replace hD := kD_perm (pw_inr hk16 _ _ _ _ _ wr) hD
  exact kk ((u.2.1), tf, tc, ((u.2.2.1), oh, lf, ce), (ft, oht, lft, cet), ff, (updC C kx ((u.2.2.2.1), (u.2.2.2.2.1), (u.2.2.2.2.2.1), (u.2.2.2.2.2.2)))) _ _ JN hP hD hS
set_option maxRecDepth 100000 in
set_option maxHeartbeats 4000000 in
theorem o_undo (hlt : l.stackTraces = false) (cx : Cx p s m args meth c cc nL own Ts ret' G A) (cl : CL s A b L xs) (HQ : PQd d) (J : JNV x n tt pg hs k0 k1)  {hs0 : List Pg} {q : Pg} (hc : hs = hs0 ++ [q]) {r0 : Int32} (hr : (nI hs0.length) = r0) (hP : va_P G.1 vwCl (wB G d x wr) H) (hD : va_D A (wB G d x wr)) (hS : va_S A s.heap H locs) (hT : GoodIn Ts (va_wsS own index yL_tryUndo wsL_tryUndo)) (hR : rmL_tryUndo.frames + 1 ≤ R.frames ∧ 8 + (2 + 11) + rmL_tryUndo.locals ≤ R.locals) (hl : lv_has ls nL lv) (hroom : (rest.map fun v => v.category).sum ≤ 8) (hdg : decode cc pc = .ok (.invokestatic index, 3)) (hf : cells + 1 ≤ R.cells ∧ slots + 6 ≤ R.slots) (kk : ∀ (x' : XT) (H1 : Heap) (locs1 : List Loc), JNV x' n tt q hs0 k0 k1 → va_P G.1 vwCl (wB G d x' wr) H1 → va_D A (wB G d x' wr) → va_S A s.heap H1 locs1 → W p l e R s m args below meth c H1 locs1 (cells + 1) (slots + 6) Qp (F0 m (pc + 3) ls (.int r0 :: rest))) : W p l e R s m args below meth c H locs cells slots Qp (F0 m pc ls (.ref d.1 :: rest)) := by
  obtain ⟨xb, tx, tz, pa, sl, fi, qs, qt, pgr, sg, Q⟩ := d
  obtain ⟨bf, tf, tc, ⟨f, oh, lf, ce⟩, ⟨ft, oht, lft, cet⟩, ff, C⟩ := x
  obtain ⟨mf, dd, kq, ki, I, e1, e2, H8, K0, K1⟩ := id J
  have e1 : tc = tt := e1
  subst e1
  have I : INV bf tf tc f oh lf ce ff C mf tc pg dd kq ki := I
  obtain ⟨hE, hN, hZ, -⟩ := cl
  have HQ : PQ Q pgr sg := HQ
  have hP : va_P G.1 vwCl (fxw G xb tx tz qs qt pa sl fi bf tf tc f oh lf ce ft oht lft cet pgr sg ff ++ (pw G Q C (List.range 16) ++ wr)) H := hP
  have hD : va_D A (fxw G xb tx tz qs qt pa sl fi bf tf tc f oh lf ce ft oht lft cet pgr sg ff ++ (pw G Q C (List.range 16) ++ wr)) := hD
  obtain ⟨uk1, uk2, uk3⟩ := undo_k I
  obtain ⟨kx, ekx⟩ : ∃ kx, kx = (if bf 5 ≤ 0 then 13 else bf 5 - 1 : Int32).toInt.toNat := ⟨_, rfl⟩
  have hk14 : kx < 14 := by omega
  have hpg : P_X3_entry 14 pgr (if bf 5 ≤ 0 then 13 else bf 5 - 1) = some (Q kx).1 := (ent_i (k := kx) (by omega) hk14 (by decide)).trans (HQ.1 kx hk14)
  have hk16 : kx < 16 := by omega
  replace hP := kP_perm (pw_outr hk16 _ wr) hP
  replace hD := kD_perm (pw_outr hk16 _ wr) hD
  have F := a_undo I pgr
  rw [← ekx] at F
  have l8 : (mf 8).toInt = hs0.length + 1 := by rw [H8.1, hc, List.length_append]; simp
  have l14 := I.2.2.1.2.1.2
  have ne : ¬ mf 8 = 0 := fun q9 => by rw [q9, show (0 : Int32).toInt = 0 by decide] at l8; omega
  rw [xe_undo ne] at F
  have hC := c_L_tryUndo l hlt G xb tx qs.1 qt.1 pa sl fi qs.2.1 qs.2.2.1 qs.2.2.2 (Q kx).1 (Q kx).2.1 (Q kx).2.2.1 (Q kx).2.2.2 bf pgr f oh lf ce (C kx).1 (C kx).2.1 (C kx).2.2.1 (C kx).2.2.2 (I.2.2.2.1 kx) hpg F.1
  generalize P_X3_undo bf pgr f oh lf ce (C kx).1 (C kx).2.1 (C kx).2.2.1 (C kx).2.2.2 = u at F hC
  obtain ⟨F1, F0, F3, F4, F5⟩ := F
  have h0 : u.1 = 0 := hm_z F0.symm
  have z1 : (1 : Int32).toInt = 1 := by decide
  have s1 := toI_sub (a := mf 8) (b := 1) (by omega) (by omega)
  have em : mf 8 - 1 = nI hs0.length := Int32.toInt_inj.mp (by rw [nI_toInt (by omega)]; omega)
  have ha : rz u.1 u.2.1 = nI hs0.length := by rw [h0]; exact (F3 h0).trans em
  have m := m101 (x := mf 8 - 1) (a := (hs0.length : Int)) (by omega) (by omega) (by omega)
  have cpu : CP 1414 (101 * (mf 8 - 1)) := cp_u I.2.2.1.2.1 ne
  have pe : ∀ j : Nat, j < 101 → q j = P_X4_copyPage 1414 101 dd pg (101 * (mf 8 - 1)) 0 j := fun j hj => by
    rw [page_c cpu (a := 101 * hs0.length) (by rw [m]; omega) hj]
    exact (H8.2 hs0.length q (by rw [hc, List.getElem?_append_right (Nat.le_refl _), Nat.sub_self]; rfl) j hj).symm
  have JN : JV (u.2.2.1) tf tc (u.2.2.2.1) (u.2.2.2.2.1) (u.2.2.2.2.2.1) (u.2.2.2.2.2.2) ff C n tc q hs0 k0 k1 := ⟨upd (upd mf 0 0) 8 (mf 8 - 1), dd, kq, ki, inv_pg F5 pe, rfl, e2, ⟨by show (mf 8 - 1).toInt = _; omega, fun i q9 hq9 => H8.2 i q9 (by rw [hc, List.getElem?_append_left (List.getElem?_eq_some_iff.mp hq9).1]; exact hq9)⟩, K0, K1⟩
  replace ha := ha.trans hr
  refine k_iW (ws' := fxw G xb tx tz qs qt pa sl fi (u.2.2.1) tf tc (u.2.2.2.1) (u.2.2.2.2.1) (u.2.2.2.2.2.1) (u.2.2.2.2.2.2) ft oht lft cet pgr sg ff ++ (bun G (Q kx) (C kx).1 (C kx).2.1 (C kx).2.2.1 (C kx).2.2.2 ++ (pw G Q C (pr16 kx) ++ wr))) (as := [xb, pa, qs.1, qs.2.1, qs.2.2.1, qs.2.2.2, (Q kx).1, (Q kx).2.1, (Q kx).2.2.1, (Q kx).2.2.2]) cx hP hD hS [0, 11, 3, 4, 5, 6, 14, 15, 16, 17] rfl (kr_SL (n := 1) (As := [.ref xb]) cx hE hN hZ hS hC hT rfl rfl rfl (by decide +kernel) hR hP hD [0, 11, 3, 4, 5, 6, 14, 15, 16, 17] rfl rfl rfl rfl hl hroom hdg hf) ⟨rfl, rfl⟩ rfl rfl (fun H locs wx hwx hP hD hS => ?_)
  rw [ha]
  rcases hwx with ⟨h9, rfl⟩ | ⟨h9, rfl⟩
  · replace hP := kP_perm (pw_outr hk16 _ wr).symm hP
    replace hD := kD_perm (pw_outr hk16 _ wr).symm hD
    exact kk ((u.2.2.1), tf, tc, ((u.2.2.2.1), (u.2.2.2.2.1), (u.2.2.2.2.2.1), (u.2.2.2.2.2.2)), (ft, oht, lft, cet), ff, C) _ _ JN hP hD hS
  · exact absurd h0 h9
set_option maxRecDepth 100000 in
set_option maxHeartbeats 4000000 in
theorem n_undo (hlt : l.stackTraces = false) (cx : Cx p s m args meth c cc nL own Ts ret' G A) (cl : CL s A b L xs) (HQ : PQd d) (J : JNV x n tt pg hs k0 k1)  (hc : hs = []) (hP : va_P G.1 vwCl (wB G d x wr) H) (hD : va_D A (wB G d x wr)) (hS : va_S A s.heap H locs) (hT : GoodIn Ts (va_wsS own index yL_tryUndo wsL_tryUndo)) (hR : rmL_tryUndo.frames + 1 ≤ R.frames ∧ 8 + (2 + 11) + rmL_tryUndo.locals ≤ R.locals) (hl : lv_has ls nL lv) (hroom : (rest.map fun v => v.category).sum ≤ 8) (hdg : decode cc pc = .ok (.invokestatic index, 3)) (hf : cells + 1 ≤ R.cells ∧ slots + 6 ≤ R.slots) (kk : ∀ (H1 : Heap) (locs1 : List Loc), va_P G.1 vwCl (wB G d x wr) H1 → va_D A (wB G d x wr) → va_S A s.heap H1 locs1 → W p l e R s m args below meth c H1 locs1 (cells + 1) (slots + 6) Qp (F0 m (pc + 3) ls (.int (-999900003) :: rest))) : W p l e R s m args below meth c H locs cells slots Qp (F0 m pc ls (.ref d.1 :: rest)) := by
  obtain ⟨xb, tx, tz, pa, sl, fi, qs, qt, pgr, sg, Q⟩ := d
  obtain ⟨bf, tf, tc, ⟨f, oh, lf, ce⟩, ⟨ft, oht, lft, cet⟩, ff, C⟩ := x
  obtain ⟨mf, dd, kq, ki, I, e1, e2, H8, K0, K1⟩ := id J
  have e1 : tc = tt := e1
  subst e1
  have I : INV bf tf tc f oh lf ce ff C mf tc pg dd kq ki := I
  obtain ⟨hE, hN, hZ, -⟩ := cl
  have HQ : PQ Q pgr sg := HQ
  have hP : va_P G.1 vwCl (fxw G xb tx tz qs qt pa sl fi bf tf tc f oh lf ce ft oht lft cet pgr sg ff ++ (pw G Q C (List.range 16) ++ wr)) H := hP
  have hD : va_D A (fxw G xb tx tz qs qt pa sl fi bf tf tc f oh lf ce ft oht lft cet pgr sg ff ++ (pw G Q C (List.range 16) ++ wr)) := hD
  obtain ⟨uk1, uk2, uk3⟩ := undo_k I
  obtain ⟨kx, ekx⟩ : ∃ kx, kx = (if bf 5 ≤ 0 then 13 else bf 5 - 1 : Int32).toInt.toNat := ⟨_, rfl⟩
  have hk14 : kx < 14 := by omega
  have hpg : P_X3_entry 14 pgr (if bf 5 ≤ 0 then 13 else bf 5 - 1) = some (Q kx).1 := (ent_i (k := kx) (by omega) hk14 (by decide)).trans (HQ.1 kx hk14)
  have hk16 : kx < 16 := by omega
  replace hP := kP_perm (pw_outr hk16 _ wr) hP
  replace hD := kD_perm (pw_outr hk16 _ wr) hD
  have F := a_undo I pgr
  rw [← ekx] at F
  have z8 : mf 8 = 0 := Int32.toInt_inj.mp (by rw [H8.1, hc]; decide)
  rw [xn_undo z8] at F
  have hC := c_L_tryUndo l hlt G xb tx qs.1 qt.1 pa sl fi qs.2.1 qs.2.2.1 qs.2.2.2 (Q kx).1 (Q kx).2.1 (Q kx).2.2.1 (Q kx).2.2.2 bf pgr f oh lf ce (C kx).1 (C kx).2.1 (C kx).2.2.1 (C kx).2.2.2 (I.2.2.2.1 kx) hpg F.1
  generalize P_X3_undo bf pgr f oh lf ce (C kx).1 (C kx).2.1 (C kx).2.2.1 (C kx).2.2.2 = u at F hC
  obtain ⟨F1, F0, F3, F4, F5⟩ := F
  have ht : u.1 = 2 := hm_e F0.symm
  have hz : ¬ u.1 = 0 := by rw [ht]; decide
  have ha : rz u.1 u.2.1 = (-999900003) := by rw [ht]; rfl
  refine k_iW (ws' := fxw G xb tx tz qs qt pa sl fi (u.2.2.1) tf tc (u.2.2.2.1) (u.2.2.2.2.1) (u.2.2.2.2.2.1) (u.2.2.2.2.2.2) ft oht lft cet pgr sg ff ++ (bun G (Q kx) (C kx).1 (C kx).2.1 (C kx).2.2.1 (C kx).2.2.2 ++ (pw G Q C (pr16 kx) ++ wr))) (as := [xb, pa, qs.1, qs.2.1, qs.2.2.1, qs.2.2.2, (Q kx).1, (Q kx).2.1, (Q kx).2.2.1, (Q kx).2.2.2]) cx hP hD hS [0, 11, 3, 4, 5, 6, 14, 15, 16, 17] rfl (kr_SL (n := 1) (As := [.ref xb]) cx hE hN hZ hS hC hT rfl rfl rfl (by decide +kernel) hR hP hD [0, 11, 3, 4, 5, 6, 14, 15, 16, 17] rfl rfl rfl rfl hl hroom hdg hf) ⟨rfl, rfl⟩ rfl rfl (fun H locs wx hwx hP hD hS => ?_)
  rw [ha]
  rcases hwx with ⟨h9, rfl⟩ | ⟨h9, rfl⟩
  · exact absurd h9 hz
  · replace hP := kP_perm (pw_outr hk16 _ wr).symm hP
    replace hD := kD_perm (pw_outr hk16 _ wr).symm hD
    exact kk _ _ hP hD hS
end RU
