/-! what a call answers and leaves, over a bridge told by its page: offsetAfter, waitFor, balanced, runScript, simulate -/
section RU
variable {p : Program} {l : Launch} {e : Env} {R : Room} {s : State} {m : MethodId} {args : Array Value} {below : List Frame} {meth : Method} {c : Code} {H : Heap} {locs : List Loc} {cells slots : Nat} {Qp : State → Prop}
variable {cc : ByteArray} {nL : Nat} {own : String} {Ts : List Cond} {ret' : Option FieldType} {G : gG} {A : Nat → Prop} {pc index : Nat} {ls : Array Slot} {b L : Nat} {xs : Nat → Int32} {rest : List Value} {lv : List (Nat × Value)}
variable {d : AD} {x : XT} {wr : va_W} {n : Int32} {tt pg : Pg} {hs : List Pg} {k0 k1 : Option Pg}
set_option maxRecDepth 100000 in
set_option maxHeartbeats 4000000 in
theorem o_simulate (hlt : l.stackTraces = false) (cx : Cx p s m args meth c cc nL own Ts ret' G A) (cl : CL s A b L xs) (HQ : PQd d) (J : JNV x n tt pg hs k0 k1) (sd : Int64) (mm : Int32) {r0 : Int32} (hr : aQ 1 ((P_X4_simulate z0 pg z0 sd mm).1, (P_X4_simulate z0 pg z0 sd mm).2.1) = r0) (hP : va_P G.1 vwCl (wB G d x wr) H) (hD : va_D A (wB G d x wr)) (hS : va_S A s.heap H locs) (hT : GoodIn Ts (va_wsS own index yL_trySimulate wsL_trySimulate)) (hR : rmL_trySimulate.frames + 1 ≤ R.frames ∧ 8 + (5 + 11) + rmL_trySimulate.locals ≤ R.locals) (hl : lv_has ls nL lv) (hroom : (rest.map fun v => v.category).sum ≤ 8) (hdg : decode cc pc = .ok (.invokestatic index, 3)) (hf : cells + 1 ≤ R.cells ∧ slots + 6 ≤ R.slots) (kk : ∀ (x' : XT) (H1 : Heap) (locs1 : List Loc), JNV x' n tt pg hs k0 k1 → va_P G.1 vwCl (wB G d x' wr) H1 → va_D A (wB G d x' wr) → va_S A s.heap H1 locs1 → W p l e R s m args below meth c H1 locs1 (cells + 1) (slots + 6) Qp (F0 m (pc + 3) ls (.int r0 :: rest))) : W p l e R s m args below meth c H locs cells slots Qp (F0 m pc ls (.int mm :: .long sd :: .ref d.1 :: rest)) := by
  obtain ⟨xb, tx, tz, pa, sl, fi, qs, qt, pgr, sg, Q⟩ := d
  obtain ⟨bf, tf, tc, ⟨f, oh, lf, ce⟩, ⟨ft, oht, lft, cet⟩, ff, C⟩ := x
  obtain ⟨mf, dd, kq, ki, I, e1, e2, H8, K0, K1⟩ := id J
  have e1 : tc = tt := e1
  subst e1
  have I : INV bf tf tc f oh lf ce ff C mf tc pg dd kq ki := I
  obtain ⟨hE, hN, hZ, -⟩ := cl
  have HQ : PQ Q pgr sg := HQ
  have hP : va_P G.1 vwCl (fxw G xb tx tz qs qt pa sl fi bf tf tc f oh lf ce ft oht lft cet pgr sg ff ++ (pw G Q C (List.range 16) ++ wr)) H := hP
  have hD : va_D A (fxw G xb tx tz qs qt pa sl fi bf tf tc f oh lf ce ft oht lft cet pgr sg ff ++ (pw G Q C (List.range 16) ++ wr)) := hD
  have F := q_simulate I.2.1 bf z0 ft oht lft cet z0 sd mm
  have hC := c_L_trySimulate l hlt G xb tx qs.1 qt.1 pa sl fi qs.2.1 qs.2.2.1 qs.2.2.2 qt.2.1 qt.2.2.1 qt.2.2.2 bf f oh lf ce ft oht lft cet sd mm I.2.1.stk F.1
  generalize P_X3_simulate bf f oh lf ce ft oht lft cet sd mm = u at F hC
  have ha : rz u.1 u.2.1 = r0 := (aQ_of (by decide) F).trans hr
  refine k_iW (ws' := fxw G xb tx tz qs qt pa sl fi bf tf tc f oh lf ce (u.2.2.1) (u.2.2.2.1) (u.2.2.2.2.1) (u.2.2.2.2.2) pgr sg ff ++ (pw G Q C (List.range 16) ++ wr)) (as := [xb, qs.1, qs.2.1, qs.2.2.1, qs.2.2.2, qt.1, qt.2.1, qt.2.2.1, qt.2.2.2]) cx hP hD hS [0, 3, 4, 5, 6, 7, 8, 9, 10] rfl (kr_SL (n := 3) (As := [.ref xb, .long sd, .int mm]) cx hE hN hZ hS hC hT rfl rfl rfl (by decide +kernel) hR hP hD [0, 3, 4, 5, 6, 7, 8, 9, 10] rfl rfl rfl rfl hl hroom hdg hf) ⟨rfl, rfl⟩ rfl rfl (fun H locs wx hwx hP hD hS => ?_)
  rw [ha]
  rcases hwx with ⟨h9, rfl⟩ | ⟨h9, rfl⟩
  · exact kk (bf, tf, tc, (f, oh, lf, ce), ((u.2.2.1), (u.2.2.2.1), (u.2.2.2.2.1), (u.2.2.2.2.2)), ff, C) _ _ J hP hD hS
  · exact kk (bf, tf, tc, (f, oh, lf, ce), (ft, oht, lft, cet), ff, C) _ _ J hP hD hS
set_option maxRecDepth 100000 in
set_option maxHeartbeats 4000000 in
theorem o_offsetAfter (hlt : l.stackTraces = false) (cx : Cx p s m args meth c cc nL own Ts ret' G A) (cl : CL s A b L xs) (HQ : PQd d) (J : JNV x n tt pg hs k0 k1) (pr : Int32) (wt : Int32) {r0 : Int32} (hr : aQ 1 ((P_X4_offsetAfter z0 pg z0 pr wt).1, (P_X4_offsetAfter z0 pg z0 pr wt).2.1) = r0) (hP : va_P G.1 vwCl (wB G d x wr) H) (hD : va_D A (wB G d x wr)) (hS : va_S A s.heap H locs) (hT : GoodIn Ts (va_wsS own index yL_tryOffsetAfter wsL_tryOffsetAfter)) (hR : rmL_tryOffsetAfter.frames + 1 ≤ R.frames ∧ 8 + (4 + 11) + rmL_tryOffsetAfter.locals ≤ R.locals) (hl : lv_has ls nL lv) (hroom : (rest.map fun v => v.category).sum ≤ 8) (hdg : decode cc pc = .ok (.invokestatic index, 3)) (hf : cells + 1 ≤ R.cells ∧ slots + 6 ≤ R.slots) (kk : ∀ (H1 : Heap) (locs1 : List Loc), va_P G.1 vwCl (wB G d x wr) H1 → va_D A (wB G d x wr) → va_S A s.heap H1 locs1 → W p l e R s m args below meth c H1 locs1 (cells + 1) (slots + 6) Qp (F0 m (pc + 3) ls (.int r0 :: rest))) : W p l e R s m args below meth c H locs cells slots Qp (F0 m pc ls (.int wt :: .int pr :: .ref d.1 :: rest)) := by
  obtain ⟨xb, tx, tz, pa, sl, fi, qs, qt, pgr, sg, Q⟩ := d
  obtain ⟨bf, tf, tc, ⟨f, oh, lf, ce⟩, ⟨ft, oht, lft, cet⟩, ff, C⟩ := x
  obtain ⟨mf, dd, kq, ki, I, e1, e2, H8, K0, K1⟩ := id J
  have e1 : tc = tt := e1
  subst e1
  have I : INV bf tf tc f oh lf ce ff C mf tc pg dd kq ki := I
  obtain ⟨hE, hN, hZ, -⟩ := cl
  have HQ : PQ Q pgr sg := HQ
  have hP : va_P G.1 vwCl (fxw G xb tx tz qs qt pa sl fi bf tf tc f oh lf ce ft oht lft cet pgr sg ff ++ (pw G Q C (List.range 16) ++ wr)) H := hP
  have hD : va_D A (fxw G xb tx tz qs qt pa sl fi bf tf tc f oh lf ce ft oht lft cet pgr sg ff ++ (pw G Q C (List.range 16) ++ wr)) := hD
  have F := q_offsetAfter I.2.1 bf z0 z0 pr wt
  have hC := c_L_tryOffsetAfter l hlt G xb tx qs.1 qt.1 pa sl fi qs.2.1 qs.2.2.1 bf f pr wt F.1
  generalize P_X3_offsetAfter bf f pr wt = u at F hC
  have ha : rz u.1 u.2 = r0 := (aQ_of (by decide) F).trans hr
  refine k_iW (ws' := fxw G xb tx tz qs qt pa sl fi bf tf tc f oh lf ce ft oht lft cet pgr sg ff ++ (pw G Q C (List.range 16) ++ wr)) (as := [xb, qs.1]) cx hP hD hS [0, 3] rfl (kr_SL (n := 3) (As := [.ref xb, .int pr, .int wt]) cx hE hN hZ hS hC hT rfl rfl rfl (by decide +kernel) hR hP hD [0, 3] rfl rfl rfl rfl hl hroom hdg hf) ⟨rfl, rfl⟩ rfl rfl (fun H locs wx hwx hP hD hS => ?_)
  rw [ha]
  rcases hwx with ⟨h9, rfl⟩ | ⟨h9, rfl⟩
  · exact kk _ _ hP hD hS
  · exact kk _ _ hP hD hS
set_option maxRecDepth 100000 in
set_option maxHeartbeats 4000000 in
theorem o_waitFor (hlt : l.stackTraces = false) (cx : Cx p s m args meth c cc nL own Ts ret' G A) (cl : CL s A b L xs) (HQ : PQd d) (J : JNV x n tt pg hs k0 k1) (off : Int32) {r0 : Int32} (hr : aQ 1 ((P_X4_waitFor z0 pg z0 off).1, (P_X4_waitFor z0 pg z0 off).2.1) = r0) (hP : va_P G.1 vwCl (wB G d x wr) H) (hD : va_D A (wB G d x wr)) (hS : va_S A s.heap H locs) (hT : GoodIn Ts (va_wsS own index yL_tryWaitFor wsL_tryWaitFor)) (hR : rmL_tryWaitFor.frames + 1 ≤ R.frames ∧ 8 + (3 + 11) + rmL_tryWaitFor.locals ≤ R.locals) (hl : lv_has ls nL lv) (hroom : (rest.map fun v => v.category).sum ≤ 8) (hdg : decode cc pc = .ok (.invokestatic index, 3)) (hf : cells + 1 ≤ R.cells ∧ slots + 6 ≤ R.slots) (kk : ∀ (H1 : Heap) (locs1 : List Loc), va_P G.1 vwCl (wB G d x wr) H1 → va_D A (wB G d x wr) → va_S A s.heap H1 locs1 → W p l e R s m args below meth c H1 locs1 (cells + 1) (slots + 6) Qp (F0 m (pc + 3) ls (.int r0 :: rest))) : W p l e R s m args below meth c H locs cells slots Qp (F0 m pc ls (.int off :: .ref d.1 :: rest)) := by
  obtain ⟨xb, tx, tz, pa, sl, fi, qs, qt, pgr, sg, Q⟩ := d
  obtain ⟨bf, tf, tc, ⟨f, oh, lf, ce⟩, ⟨ft, oht, lft, cet⟩, ff, C⟩ := x
  obtain ⟨mf, dd, kq, ki, I, e1, e2, H8, K0, K1⟩ := id J
  have e1 : tc = tt := e1
  subst e1
  have I : INV bf tf tc f oh lf ce ff C mf tc pg dd kq ki := I
  obtain ⟨hE, hN, hZ, -⟩ := cl
  have HQ : PQ Q pgr sg := HQ
  have hP : va_P G.1 vwCl (fxw G xb tx tz qs qt pa sl fi bf tf tc f oh lf ce ft oht lft cet pgr sg ff ++ (pw G Q C (List.range 16) ++ wr)) H := hP
  have hD : va_D A (fxw G xb tx tz qs qt pa sl fi bf tf tc f oh lf ce ft oht lft cet pgr sg ff ++ (pw G Q C (List.range 16) ++ wr)) := hD
  have F := q_waitFor I.2.1 bf z0 z0 off
  have hC := c_L_tryWaitFor l hlt G xb tx qs.1 qt.1 pa sl fi qs.2.1 qs.2.2.1 bf f off F.1
  generalize P_X3_waitFor bf f off = u at F hC
  have ha : rz u.1 u.2 = r0 := (aQ_of (by decide) F).trans hr
  refine k_iW (ws' := fxw G xb tx tz qs qt pa sl fi bf tf tc f oh lf ce ft oht lft cet pgr sg ff ++ (pw G Q C (List.range 16) ++ wr)) (as := [xb, qs.1]) cx hP hD hS [0, 3] rfl (kr_SL (n := 2) (As := [.ref xb, .int off]) cx hE hN hZ hS hC hT rfl rfl rfl (by decide +kernel) hR hP hD [0, 3] rfl rfl rfl rfl hl hroom hdg hf) ⟨rfl, rfl⟩ rfl rfl (fun H locs wx hwx hP hD hS => ?_)
  rw [ha]
  rcases hwx with ⟨h9, rfl⟩ | ⟨h9, rfl⟩
  · exact kk _ _ hP hD hS
  · exact kk _ _ hP hD hS
set_option maxRecDepth 100000 in
set_option maxHeartbeats 4000000 in
theorem o_balanced (hlt : l.stackTraces = false) (cx : Cx p s m args meth c cc nL own Ts ret' G A) (cl : CL s A b L xs) (HQ : PQd d) (J : JNV x n tt pg hs k0 k1) (what : Int32) {r0 : Int32} (hr : aQ 1 ((P_X4_balanced z0 pg z0 what).1, (P_X4_balanced z0 pg z0 what).2.1) = r0) (hP : va_P G.1 vwCl (wB G d x wr) H) (hD : va_D A (wB G d x wr)) (hS : va_S A s.heap H locs) (hT : GoodIn Ts (va_wsS own index yL_tryBalanced wsL_tryBalanced)) (hR : rmL_tryBalanced.frames + 1 ≤ R.frames ∧ 8 + (3 + 11) + rmL_tryBalanced.locals ≤ R.locals) (hl : lv_has ls nL lv) (hroom : (rest.map fun v => v.category).sum ≤ 8) (hdg : decode cc pc = .ok (.invokestatic index, 3)) (hf : cells + 1 ≤ R.cells ∧ slots + 6 ≤ R.slots) (kk : ∀ (x' : XT) (H1 : Heap) (locs1 : List Loc), JNV x' n tt pg hs k0 k1 → va_P G.1 vwCl (wB G d x' wr) H1 → va_D A (wB G d x' wr) → va_S A s.heap H1 locs1 → W p l e R s m args below meth c H1 locs1 (cells + 1) (slots + 6) Qp (F0 m (pc + 3) ls (.int r0 :: rest))) : W p l e R s m args below meth c H locs cells slots Qp (F0 m pc ls (.int what :: .ref d.1 :: rest)) := by
  obtain ⟨xb, tx, tz, pa, sl, fi, qs, qt, pgr, sg, Q⟩ := d
  obtain ⟨bf, tf, tc, ⟨f, oh, lf, ce⟩, ⟨ft, oht, lft, cet⟩, ff, C⟩ := x
  obtain ⟨mf, dd, kq, ki, I, e1, e2, H8, K0, K1⟩ := id J
  have e1 : tc = tt := e1
  subst e1
  have I : INV bf tf tc f oh lf ce ff C mf tc pg dd kq ki := I
  obtain ⟨hE, hN, hZ, -⟩ := cl
  have HQ : PQ Q pgr sg := HQ
  have hP : va_P G.1 vwCl (fxw G xb tx tz qs qt pa sl fi bf tf tc f oh lf ce ft oht lft cet pgr sg ff ++ (pw G Q C (List.range 16) ++ wr)) H := hP
  have hD : va_D A (fxw G xb tx tz qs qt pa sl fi bf tf tc f oh lf ce ft oht lft cet pgr sg ff ++ (pw G Q C (List.range 16) ++ wr)) := hD
  have F := q_balanced I.2.1 bf z0 ft oht lft cet z0 what
  have hC := c_L_tryBalanced l hlt G xb tx qs.1 qt.1 pa sl fi qs.2.1 qs.2.2.1 qs.2.2.2 qt.2.1 qt.2.2.1 qt.2.2.2 bf f oh lf ce ft oht lft cet what I.2.1.stk F.1
  generalize P_X3_balanced bf f oh lf ce ft oht lft cet what = u at F hC
  have ha : rz u.1 u.2.1 = r0 := (aQ_of (by decide) F).trans hr
  refine k_iW (ws' := fxw G xb tx tz qs qt pa sl fi bf tf tc f oh lf ce (u.2.2.1) (u.2.2.2.1) (u.2.2.2.2.1) (u.2.2.2.2.2) pgr sg ff ++ (pw G Q C (List.range 16) ++ wr)) (as := [xb, qs.1, qs.2.1, qs.2.2.1, qs.2.2.2, qt.1, qt.2.1, qt.2.2.1, qt.2.2.2]) cx hP hD hS [0, 3, 4, 5, 6, 7, 8, 9, 10] rfl (kr_SL (n := 2) (As := [.ref xb, .int what]) cx hE hN hZ hS hC hT rfl rfl rfl (by decide +kernel) hR hP hD [0, 3, 4, 5, 6, 7, 8, 9, 10] rfl rfl rfl rfl hl hroom hdg hf) ⟨rfl, rfl⟩ rfl rfl (fun H locs wx hwx hP hD hS => ?_)
  rw [ha]
  rcases hwx with ⟨h9, rfl⟩ | ⟨h9, rfl⟩
  · exact kk (bf, tf, tc, (f, oh, lf, ce), ((u.2.2.1), (u.2.2.2.1), (u.2.2.2.2.1), (u.2.2.2.2.2)), ff, C) _ _ J hP hD hS
  · exact kk (bf, tf, tc, (f, oh, lf, ce), (ft, oht, lft, cet), ff, C) _ _ J hP hD hS
set_option maxRecDepth 100000 in
set_option maxHeartbeats 4000000 in
theorem o_runScript (hlt : l.stackTraces = false) (cx : Cx p s m args meth c cc nL own Ts ret' G A) (cl : CL s A b L xs) (HQ : PQd d) (J : JNV x n tt pg hs k0 k1) (nn : Int32) (sc : Int64) {r0 : Int32} (hr : aQ 1 ((P_X4_runScript z0 pg z0 nn sc).1, (P_X4_runScript z0 pg z0 nn sc).2.1) = r0) (hP : va_P G.1 vwCl (wB G d x wr) H) (hD : va_D A (wB G d x wr)) (hS : va_S A s.heap H locs) (hT : GoodIn Ts (va_wsS own index yL_tryScript wsL_tryScript)) (hR : rmL_tryScript.frames + 1 ≤ R.frames ∧ 8 + (5 + 11) + rmL_tryScript.locals ≤ R.locals) (hl : lv_has ls nL lv) (hroom : (rest.map fun v => v.category).sum ≤ 8) (hdg : decode cc pc = .ok (.invokestatic index, 3)) (hf : cells + 1 ≤ R.cells ∧ slots + 6 ≤ R.slots) (kk : ∀ (x' : XT) (H1 : Heap) (locs1 : List Loc), JNV x' n tt pg hs k0 k1 → va_P G.1 vwCl (wB G d x' wr) H1 → va_D A (wB G d x' wr) → va_S A s.heap H1 locs1 → W p l e R s m args below meth c H1 locs1 (cells + 1) (slots + 6) Qp (F0 m (pc + 3) ls (.int r0 :: rest))) : W p l e R s m args below meth c H locs cells slots Qp (F0 m pc ls (.long sc :: .int nn :: .ref d.1 :: rest)) := by
  obtain ⟨xb, tx, tz, pa, sl, fi, qs, qt, pgr, sg, Q⟩ := d
  obtain ⟨bf, tf, tc, ⟨f, oh, lf, ce⟩, ⟨ft, oht, lft, cet⟩, ff, C⟩ := x
  obtain ⟨mf, dd, kq, ki, I, e1, e2, H8, K0, K1⟩ := id J
  have e1 : tc = tt := e1
  subst e1
  have I : INV bf tf tc f oh lf ce ff C mf tc pg dd kq ki := I
  obtain ⟨hE, hN, hZ, -⟩ := cl
  have HQ : PQ Q pgr sg := HQ
  have hP : va_P G.1 vwCl (fxw G xb tx tz qs qt pa sl fi bf tf tc f oh lf ce ft oht lft cet pgr sg ff ++ (pw G Q C (List.range 16) ++ wr)) H := hP
  have hD : va_D A (fxw G xb tx tz qs qt pa sl fi bf tf tc f oh lf ce ft oht lft cet pgr sg ff ++ (pw G Q C (List.range 16) ++ wr)) := hD
  have F := q_runScript I.2.1 bf z0 ft oht lft cet z0 nn sc
  have hC := c_L_tryScript l hlt G xb tx qs.1 qt.1 pa sl fi qs.2.1 qs.2.2.1 qs.2.2.2 qt.2.1 qt.2.2.1 qt.2.2.2 bf f oh lf ce ft oht lft cet nn sc I.2.1.stk F.1
  generalize P_X3_runScript bf f oh lf ce ft oht lft cet nn sc = u at F hC
  have ha : rz u.1 u.2.1 = r0 := (aQ_of (by decide) F).trans hr
  refine k_iW (ws' := fxw G xb tx tz qs qt pa sl fi bf tf tc f oh lf ce (u.2.2.1) (u.2.2.2.1) (u.2.2.2.2.1) (u.2.2.2.2.2) pgr sg ff ++ (pw G Q C (List.range 16) ++ wr)) (as := [xb, qs.1, qs.2.1, qs.2.2.1, qs.2.2.2, qt.1, qt.2.1, qt.2.2.1, qt.2.2.2]) cx hP hD hS [0, 3, 4, 5, 6, 7, 8, 9, 10] rfl (kr_SL (n := 3) (As := [.ref xb, .int nn, .long sc]) cx hE hN hZ hS hC hT rfl rfl rfl (by decide +kernel) hR hP hD [0, 3, 4, 5, 6, 7, 8, 9, 10] rfl rfl rfl rfl hl hroom hdg hf) ⟨rfl, rfl⟩ rfl rfl (fun H locs wx hwx hP hD hS => ?_)
  rw [ha]
  rcases hwx with ⟨h9, rfl⟩ | ⟨h9, rfl⟩
  · exact kk (bf, tf, tc, (f, oh, lf, ce), ((u.2.2.1), (u.2.2.2.1), (u.2.2.2.2.1), (u.2.2.2.2.2)), ff, C) _ _ J hP hD hS
  · exact kk (bf, tf, tc, (f, oh, lf, ce), (ft, oht, lft, cet), ff, C) _ _ J hP hD hS
end RU
