/-! what a call answers and leaves, over a bridge told by its page: about, told, bridge, value, bestR, bestArms -/
section RU
variable {p : Program} {l : Launch} {e : Env} {R : Room} {s : State} {m : MethodId} {args : Array Value} {below : List Frame} {meth : Method} {c : Code} {H : Heap} {locs : List Loc} {cells slots : Nat} {Qp : State → Prop}
variable {cc : ByteArray} {nL : Nat} {own : String} {Ts : List Cond} {ret' : Option FieldType} {G : gG} {A : Nat → Prop} {pc index : Nat} {ls : Array Slot} {b L : Nat} {xs : Nat → Int32} {rest : List Value} {lv : List (Nat × Value)}
variable {d : AD} {x : XT} {wr : va_W} {n : Int32} {tt pg : Pg} {hs : List Pg} {k0 k1 : Option Pg}
set_option maxRecDepth 100000 in
set_option maxHeartbeats 4000000 in
theorem o_bridge (hlt : l.stackTraces = false) (cx : Cx p s m args meth c cc nL own Ts ret' G A) (cl : CL s A b L xs) (HQ : PQd d) (J : JNV x n tt pg hs k0 k1) (what : Int32) {r0 : Int32} (hr : aQ 1 ((P_X4_bridge z0 pg what).1, (P_X4_bridge z0 pg what).2) = r0) (hP : va_P G.1 vwCl (wB G d x wr) H) (hD : va_D A (wB G d x wr)) (hS : va_S A s.heap H locs) (hT : GoodIn Ts (va_wsS own index yL_tryBridge wsL_tryBridge)) (hR : rmL_tryBridge.frames + 1 ≤ R.frames ∧ 8 + (3 + 11) + rmL_tryBridge.locals ≤ R.locals) (hl : lv_has ls nL lv) (hroom : (rest.map fun v => v.category).sum ≤ 8) (hdg : decode cc pc = .ok (.invokestatic index, 3)) (hf : cells + 1 ≤ R.cells ∧ slots + 6 ≤ R.slots) (kk : ∀ (H1 : Heap) (locs1 : List Loc), va_P G.1 vwCl (wB G d x wr) H1 → va_D A (wB G d x wr) → va_S A s.heap H1 locs1 → W p l e R s m args below meth c H1 locs1 (cells + 1) (slots + 6) Qp (F0 m (pc + 3) ls (.int r0 :: rest))) : W p l e R s m args below meth c H locs cells slots Qp (F0 m pc ls (.int what :: .ref d.1 :: rest)) := by
  obtain ⟨xb, tx, tz, pa, sl, fi, qs, qt, pgr, sg, Q⟩ := d
  obtain ⟨bf, tf, tc, ⟨f, oh, lf, ce⟩, ⟨ft, oht, lft, cet⟩, ff, C⟩ := x
  obtain ⟨mf, dd, kq, ki, I, e1, e2, H8, K0, K1⟩ := id J
  have e1 : tc = tt := e1
  subst e1
  have I : INV bf tf tc f oh lf ce ff C mf tc pg dd kq ki := I
  obtain ⟨hE, hN, hZ, -⟩ := cl
  have HQ : PQ Q pgr sg := HQ
  have hP : va_P G.1 vwCl (fxw G xb tx tz qs qt pa sl fi bf tf tc f oh lf ce ft oht lft cet pgr sg ff ++ (pw G Q C (List.range 16) ++ wr)) H := hP
  have hD : va_D A (fxw G xb tx tz qs qt pa sl fi bf tf tc f oh lf ce ft oht lft cet pgr sg ff ++ (pw G Q C (List.range 16) ++ wr)) := hD
  have F := q_bridge I.2.1 bf z0 what
  have hC := c_L_tryBridge l hlt G xb tx qs.1 qt.1 pa sl fi qs.2.1 qs.2.2.1 bf f oh what F.1
  generalize P_X3_bridge bf f oh what = u at F hC
  have ha : rz u.1 u.2 = r0 := (aQ_of (by decide) F).trans hr
  refine k_iW (ws' := fxw G xb tx tz qs qt pa sl fi bf tf tc f oh lf ce ft oht lft cet pgr sg ff ++ (pw G Q C (List.range 16) ++ wr)) (as := [xb, qs.1, qs.2.1]) cx hP hD hS [0, 3, 4] rfl (kr_SL (n := 2) (As := [.ref xb, .int what]) cx hE hN hZ hS hC hT rfl rfl rfl (by decide +kernel) hR hP hD [0, 3, 4] rfl rfl rfl rfl hl hroom hdg hf) ⟨rfl, rfl⟩ rfl rfl (fun H locs wx hwx hP hD hS => ?_)
  rw [ha]
  rcases hwx with ⟨h9, rfl⟩ | ⟨h9, rfl⟩
  · exact kk _ _ hP hD hS
  · exact kk _ _ hP hD hS
set_option maxRecDepth 100000 in
set_option maxHeartbeats 4000000 in
theorem o_bestArms (hlt : l.stackTraces = false) (cx : Cx p s m args meth c cc nL own Ts ret' G A) (cl : CL s A b L xs) (HQ : PQd d) (J : JNV x n tt pg hs k0 k1) (i : Int32) {r0 : Int32} (hr : aQ 3 ((P_X4_bestArms z0 pg i).1, (P_X4_bestArms z0 pg i).2) = r0) (hP : va_P G.1 vwCl (wB G d x wr) H) (hD : va_D A (wB G d x wr)) (hS : va_S A s.heap H locs) (hT : GoodIn Ts (va_wsS own index yL_tryBestArms wsL_tryBestArms)) (hR : rmL_tryBestArms.frames + 1 ≤ R.frames ∧ 8 + (3 + 11) + rmL_tryBestArms.locals ≤ R.locals) (hl : lv_has ls nL lv) (hroom : (rest.map fun v => v.category).sum ≤ 8) (hdg : decode cc pc = .ok (.invokestatic index, 3)) (hf : cells + 1 ≤ R.cells ∧ slots + 6 ≤ R.slots) (kk : ∀ (H1 : Heap) (locs1 : List Loc), va_P G.1 vwCl (wB G d x wr) H1 → va_D A (wB G d x wr) → va_S A s.heap H1 locs1 → W p l e R s m args below meth c H1 locs1 (cells + 1) (slots + 6) Qp (F0 m (pc + 3) ls (.int r0 :: rest))) : W p l e R s m args below meth c H locs cells slots Qp (F0 m pc ls (.int i :: .ref d.1 :: rest)) := by
  obtain ⟨xb, tx, tz, pa, sl, fi, qs, qt, pgr, sg, Q⟩ := d
  obtain ⟨bf, tf, tc, ⟨f, oh, lf, ce⟩, ⟨ft, oht, lft, cet⟩, ff, C⟩ := x
  obtain ⟨mf, dd, kq, ki, I, e1, e2, H8, K0, K1⟩ := id J
  have e1 : tc = tt := e1
  subst e1
  have I : INV bf tf tc f oh lf ce ff C mf tc pg dd kq ki := I
  obtain ⟨hE, hN, hZ, -⟩ := cl
  have HQ : PQ Q pgr sg := HQ
  have hP : va_P G.1 vwCl (fxw G xb tx tz qs qt pa sl fi bf tf tc f oh lf ce ft oht lft cet pgr sg ff ++ (pw G Q C (List.range 16) ++ wr)) H := hP
  have hD : va_D A (fxw G xb tx tz qs qt pa sl fi bf tf tc f oh lf ce ft oht lft cet pgr sg ff ++ (pw G Q C (List.range 16) ++ wr)) := hD
  have F := q_bestArms I.2.1 bf z0 i
  have hC := c_L_tryBestArms l hlt G xb tx qs.1 qt.1 pa sl fi qs.2.1 qs.2.2.1 bf f oh i F.1
  generalize P_X3_bestArms bf f oh i = u at F hC
  have ha : rz u.1 u.2 = r0 := (aQ_of (by decide) F).trans hr
  refine k_iW (ws' := fxw G xb tx tz qs qt pa sl fi bf tf tc f oh lf ce ft oht lft cet pgr sg ff ++ (pw G Q C (List.range 16) ++ wr)) (as := [xb, qs.1, qs.2.1]) cx hP hD hS [0, 3, 4] rfl (kr_SL (n := 2) (As := [.ref xb, .int i]) cx hE hN hZ hS hC hT rfl rfl rfl (by decide +kernel) hR hP hD [0, 3, 4] rfl rfl rfl rfl hl hroom hdg hf) ⟨rfl, rfl⟩ rfl rfl (fun H locs wx hwx hP hD hS => ?_)
  rw [ha]
  rcases hwx with ⟨h9, rfl⟩ | ⟨h9, rfl⟩
  · exact kk _ _ hP hD hS
  · exact kk _ _ hP hD hS
set_option maxRecDepth 100000 in
set_option maxHeartbeats 4000000 in
theorem o_told (hlt : l.stackTraces = false) (cx : Cx p s m args meth c cc nL own Ts ret' G A) (cl : CL s A b L xs) (HQ : PQd d) (J : JNV x n tt pg hs k0 k1) (j : Int32) (what : Int32) {r0 : Int32} (hr : aQ 1 ((P_X4_told z0 pg j what).1, (P_X4_told z0 pg j what).2) = r0) (hP : va_P G.1 vwCl (wB G d x wr) H) (hD : va_D A (wB G d x wr)) (hS : va_S A s.heap H locs) (hT : GoodIn Ts (va_wsS own index yL_tryTold wsL_tryTold)) (hR : rmL_tryTold.frames + 1 ≤ R.frames ∧ 8 + (4 + 11) + rmL_tryTold.locals ≤ R.locals) (hl : lv_has ls nL lv) (hroom : (rest.map fun v => v.category).sum ≤ 8) (hdg : decode cc pc = .ok (.invokestatic index, 3)) (hf : cells + 1 ≤ R.cells ∧ slots + 6 ≤ R.slots) (kk : ∀ (H1 : Heap) (locs1 : List Loc), va_P G.1 vwCl (wB G d x wr) H1 → va_D A (wB G d x wr) → va_S A s.heap H1 locs1 → W p l e R s m args below meth c H1 locs1 (cells + 1) (slots + 6) Qp (F0 m (pc + 3) ls (.int r0 :: rest))) : W p l e R s m args below meth c H locs cells slots Qp (F0 m pc ls (.int what :: .int j :: .ref d.1 :: rest)) := by
  obtain ⟨xb, tx, tz, pa, sl, fi, qs, qt, pgr, sg, Q⟩ := d
  obtain ⟨bf, tf, tc, ⟨f, oh, lf, ce⟩, ⟨ft, oht, lft, cet⟩, ff, C⟩ := x
  obtain ⟨mf, dd, kq, ki, I, e1, e2, H8, K0, K1⟩ := id J
  have e1 : tc = tt := e1
  subst e1
  have I : INV bf tf tc f oh lf ce ff C mf tc pg dd kq ki := I
  obtain ⟨hE, hN, hZ, -⟩ := cl
  have HQ : PQ Q pgr sg := HQ
  have hP : va_P G.1 vwCl (fxw G xb tx tz qs qt pa sl fi bf tf tc f oh lf ce ft oht lft cet pgr sg ff ++ (pw G Q C (List.range 16) ++ wr)) H := hP
  have hD : va_D A (fxw G xb tx tz qs qt pa sl fi bf tf tc f oh lf ce ft oht lft cet pgr sg ff ++ (pw G Q C (List.range 16) ++ wr)) := hD
  have F := q_told I.2.1 bf z0 j what
  have hC := c_L_tryTold l hlt G xb tx qs.1 qt.1 pa sl fi qs.2.1 qs.2.2.1 qs.2.2.2 bf f lf ce j what F.1
  generalize P_X3_told bf f lf ce j what = u at F hC
  have ha : rz u.1 u.2 = r0 := (aQ_of (by decide) F).trans hr
  refine k_iW (ws' := fxw G xb tx tz qs qt pa sl fi bf tf tc f oh lf ce ft oht lft cet pgr sg ff ++ (pw G Q C (List.range 16) ++ wr)) (as := [xb, qs.1, qs.2.2.1, qs.2.2.2]) cx hP hD hS [0, 3, 5, 6] rfl (kr_SL (n := 3) (As := [.ref xb, .int j, .int what]) cx hE hN hZ hS hC hT rfl rfl rfl (by decide +kernel) hR hP hD [0, 3, 5, 6] rfl rfl rfl rfl hl hroom hdg hf) ⟨rfl, rfl⟩ rfl rfl (fun H locs wx hwx hP hD hS => ?_)
  rw [ha]
  rcases hwx with ⟨h9, rfl⟩ | ⟨h9, rfl⟩
  · exact kk _ _ hP hD hS
  · exact kk _ _ hP hD hS
set_option maxRecDepth 100000 in
set_option maxHeartbeats 4000000 in
theorem o_value (hlt : l.stackTraces = false) (cx : Cx p s m args meth c cc nL own Ts ret' G A) (cl : CL s A b L xs) (HQ : PQd d) (J : JNV x n tt pg hs k0 k1) (lim : Int32) {r0 : Int32} (hr : aQ 1 ((P_X4_value z0 pg lim).1, (P_X4_value z0 pg lim).2) = r0) (hP : va_P G.1 vwCl (wB G d x wr) H) (hD : va_D A (wB G d x wr)) (hS : va_S A s.heap H locs) (hT : GoodIn Ts (va_wsS own index yL_tryValue wsL_tryValue)) (hR : rmL_tryValue.frames + 1 ≤ R.frames ∧ 8 + (3 + 11) + rmL_tryValue.locals ≤ R.locals) (hl : lv_has ls nL lv) (hroom : (rest.map fun v => v.category).sum ≤ 8) (hdg : decode cc pc = .ok (.invokestatic index, 3)) (hf : cells + 1 ≤ R.cells ∧ slots + 6 ≤ R.slots) (kk : ∀ (H1 : Heap) (locs1 : List Loc), va_P G.1 vwCl (wB G d x wr) H1 → va_D A (wB G d x wr) → va_S A s.heap H1 locs1 → W p l e R s m args below meth c H1 locs1 (cells + 1) (slots + 6) Qp (F0 m (pc + 3) ls (.int r0 :: rest))) : W p l e R s m args below meth c H locs cells slots Qp (F0 m pc ls (.int lim :: .ref d.1 :: rest)) := by
  obtain ⟨xb, tx, tz, pa, sl, fi, qs, qt, pgr, sg, Q⟩ := d
  obtain ⟨bf, tf, tc, ⟨f, oh, lf, ce⟩, ⟨ft, oht, lft, cet⟩, ff, C⟩ := x
  obtain ⟨mf, dd, kq, ki, I, e1, e2, H8, K0, K1⟩ := id J
  have e1 : tc = tt := e1
  subst e1
  have I : INV bf tf tc f oh lf ce ff C mf tc pg dd kq ki := I
  obtain ⟨hE, hN, hZ, -⟩ := cl
  have HQ : PQ Q pgr sg := HQ
  have hP : va_P G.1 vwCl (fxw G xb tx tz qs qt pa sl fi bf tf tc f oh lf ce ft oht lft cet pgr sg ff ++ (pw G Q C (List.range 16) ++ wr)) H := hP
  have hD : va_D A (fxw G xb tx tz qs qt pa sl fi bf tf tc f oh lf ce ft oht lft cet pgr sg ff ++ (pw G Q C (List.range 16) ++ wr)) := hD
  have F := q_value I.2.1 bf z0 lim
  have hC := c_L_tryValue l hlt G xb tx qs.1 qt.1 pa sl fi qs.2.1 qs.2.2.1 bf f lim F.1
  generalize P_X3_value bf f lim = u at F hC
  have ha : rz u.1 u.2 = r0 := (aQ_of (by decide) F).trans hr
  refine k_iW (ws' := fxw G xb tx tz qs qt pa sl fi bf tf tc f oh lf ce ft oht lft cet pgr sg ff ++ (pw G Q C (List.range 16) ++ wr)) (as := [xb, qs.1]) cx hP hD hS [0, 3] rfl (kr_SL (n := 2) (As := [.ref xb, .int lim]) cx hE hN hZ hS hC hT rfl rfl rfl (by decide +kernel) hR hP hD [0, 3] rfl rfl rfl rfl hl hroom hdg hf) ⟨rfl, rfl⟩ rfl rfl (fun H locs wx hwx hP hD hS => ?_)
  rw [ha]
  rcases hwx with ⟨h9, rfl⟩ | ⟨h9, rfl⟩
  · exact kk _ _ hP hD hS
  · exact kk _ _ hP hD hS
set_option maxRecDepth 100000 in
set_option maxHeartbeats 4000000 in
theorem o_bestR (hlt : l.stackTraces = false) (cx : Cx p s m args meth c cc nL own Ts ret' G A) (cl : CL s A b L xs) (HQ : PQd d) (J : JNV x n tt pg hs k0 k1) (i : Int32) {r0 : Int32} (hr : aQ 3 ((P_X4_bestR z0 pg i).1, (P_X4_bestR z0 pg i).2) = r0) (hP : va_P G.1 vwCl (wB G d x wr) H) (hD : va_D A (wB G d x wr)) (hS : va_S A s.heap H locs) (hT : GoodIn Ts (va_wsS own index yL_tryBestR wsL_tryBestR)) (hR : rmL_tryBestR.frames + 1 ≤ R.frames ∧ 8 + (3 + 11) + rmL_tryBestR.locals ≤ R.locals) (hl : lv_has ls nL lv) (hroom : (rest.map fun v => v.category).sum ≤ 8) (hdg : decode cc pc = .ok (.invokestatic index, 3)) (hf : cells + 1 ≤ R.cells ∧ slots + 6 ≤ R.slots) (kk : ∀ (H1 : Heap) (locs1 : List Loc), va_P G.1 vwCl (wB G d x wr) H1 → va_D A (wB G d x wr) → va_S A s.heap H1 locs1 → W p l e R s m args below meth c H1 locs1 (cells + 1) (slots + 6) Qp (F0 m (pc + 3) ls (.int r0 :: rest))) : W p l e R s m args below meth c H locs cells slots Qp (F0 m pc ls (.int i :: .ref d.1 :: rest)) := by
  obtain ⟨xb, tx, tz, pa, sl, fi, qs, qt, pgr, sg, Q⟩ := d
  obtain ⟨bf, tf, tc, ⟨f, oh, lf, ce⟩, ⟨ft, oht, lft, cet⟩, ff, C⟩ := x
  obtain ⟨mf, dd, kq, ki, I, e1, e2, H8, K0, K1⟩ := id J
  have e1 : tc = tt := e1
  subst e1
  have I : INV bf tf tc f oh lf ce ff C mf tc pg dd kq ki := I
  obtain ⟨hE, hN, hZ, -⟩ := cl
  have HQ : PQ Q pgr sg := HQ
  have hP : va_P G.1 vwCl (fxw G xb tx tz qs qt pa sl fi bf tf tc f oh lf ce ft oht lft cet pgr sg ff ++ (pw G Q C (List.range 16) ++ wr)) H := hP
  have hD : va_D A (fxw G xb tx tz qs qt pa sl fi bf tf tc f oh lf ce ft oht lft cet pgr sg ff ++ (pw G Q C (List.range 16) ++ wr)) := hD
  have F := q_bestR I.2.1 bf z0 i
  have hC := c_L_tryBestR l hlt G xb tx qs.1 qt.1 pa sl fi qs.2.1 qs.2.2.1 bf f oh i F.1
  generalize P_X3_bestR bf f oh i = u at F hC
  have ha : rz u.1 u.2 = r0 := (aQ_of (by decide) F).trans hr
  refine k_iW (ws' := fxw G xb tx tz qs qt pa sl fi bf tf tc f oh lf ce ft oht lft cet pgr sg ff ++ (pw G Q C (List.range 16) ++ wr)) (as := [xb, qs.1, qs.2.1]) cx hP hD hS [0, 3, 4] rfl (kr_SL (n := 2) (As := [.ref xb, .int i]) cx hE hN hZ hS hC hT rfl rfl rfl (by decide +kernel) hR hP hD [0, 3, 4] rfl rfl rfl rfl hl hroom hdg hf) ⟨rfl, rfl⟩ rfl rfl (fun H locs wx hwx hP hD hS => ?_)
  rw [ha]
  rcases hwx with ⟨h9, rfl⟩ | ⟨h9, rfl⟩
  · exact kk _ _ hP hD hS
  · exact kk _ _ hP hD hS
set_option maxRecDepth 100000 in
set_option maxHeartbeats 4000000 in
theorem o_about (hlt : l.stackTraces = false) (cx : Cx p s m args meth c cc nL own Ts ret' G A) (cl : CL s A b L xs) (HQ : PQd d) (J : JNV x n tt pg hs k0 k1) (what : Int32) {r0 : Int32} (hr : aQ 1 ((P_X4_about z0 pg what).1, (P_X4_about z0 pg what).2) = r0) (hP : va_P G.1 vwCl (wB G d x wr) H) (hD : va_D A (wB G d x wr)) (hS : va_S A s.heap H locs) (hT : GoodIn Ts (va_wsS own index yL_tryAbout wsL_tryAbout)) (hR : rmL_tryAbout.frames + 1 ≤ R.frames ∧ 8 + (3 + 11) + rmL_tryAbout.locals ≤ R.locals) (hl : lv_has ls nL lv) (hroom : (rest.map fun v => v.category).sum ≤ 8) (hdg : decode cc pc = .ok (.invokestatic index, 3)) (hf : cells + 1 ≤ R.cells ∧ slots + 6 ≤ R.slots) (kk : ∀ (H1 : Heap) (locs1 : List Loc), va_P G.1 vwCl (wB G d x wr) H1 → va_D A (wB G d x wr) → va_S A s.heap H1 locs1 → W p l e R s m args below meth c H1 locs1 (cells + 1) (slots + 6) Qp (F0 m (pc + 3) ls (.int r0 :: rest))) : W p l e R s m args below meth c H locs cells slots Qp (F0 m pc ls (.int what :: .ref d.1 :: rest)) := by
  obtain ⟨xb, tx, tz, pa, sl, fi, qs, qt, pgr, sg, Q⟩ := d
  obtain ⟨bf, tf, tc, ⟨f, oh, lf, ce⟩, ⟨ft, oht, lft, cet⟩, ff, C⟩ := x
  obtain ⟨mf, dd, kq, ki, I, e1, e2, H8, K0, K1⟩ := id J
  have e1 : tc = tt := e1
  subst e1
  have I : INV bf tf tc f oh lf ce ff C mf tc pg dd kq ki := I
  obtain ⟨hE, hN, hZ, -⟩ := cl
  have HQ : PQ Q pgr sg := HQ
  have hP : va_P G.1 vwCl (fxw G xb tx tz qs qt pa sl fi bf tf tc f oh lf ce ft oht lft cet pgr sg ff ++ (pw G Q C (List.range 16) ++ wr)) H := hP
  have hD : va_D A (fxw G xb tx tz qs qt pa sl fi bf tf tc f oh lf ce ft oht lft cet pgr sg ff ++ (pw G Q C (List.range 16) ++ wr)) := hD
  have F := q_about I.2.1 bf z0 what
  have hC := c_L_tryAbout l hlt G xb tx qs.1 qt.1 pa sl fi qs.2.1 qs.2.2.1 qs.2.2.2 bf f lf what F.1
  generalize P_X3_about bf f lf what = u at F hC
  have ha : rz u.1 u.2 = r0 := (aQ_of (by decide) F).trans hr
  refine k_iW (ws' := fxw G xb tx tz qs qt pa sl fi bf tf tc f oh lf ce ft oht lft cet pgr sg ff ++ (pw G Q C (List.range 16) ++ wr)) (as := [xb, qs.1, qs.2.2.1]) cx hP hD hS [0, 3, 5] rfl (kr_SL (n := 2) (As := [.ref xb, .int what]) cx hE hN hZ hS hC hT rfl rfl rfl (by decide +kernel) hR hP hD [0, 3, 5] rfl rfl rfl rfl hl hroom hdg hf) ⟨rfl, rfl⟩ rfl rfl (fun H locs wx hwx hP hD hS => ?_)
  rw [ha]
  rcases hwx with ⟨h9, rfl⟩ | ⟨h9, rfl⟩
  · exact kk _ _ hP hD hS
  · exact kk _ _ hP hD hS
end RU
