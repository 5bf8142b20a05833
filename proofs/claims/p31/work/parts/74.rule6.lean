/-! what a call answers and leaves, over a bridge told by its page: enoughShunt, sensitivity, errorPosition, clearText, append, load -/
section RU
variable {p : Program} {l : Launch} {e : Env} {R : Room} {s : State} {m : MethodId} {args : Array Value} {below : List Frame} {meth : Method} {c : Code} {H : Heap} {locs : List Loc} {cells slots : Nat} {Qp : State → Prop}
variable {cc : ByteArray} {nL : Nat} {own : String} {Ts : List Cond} {ret' : Option FieldType} {G : gG} {A : Nat → Prop} {pc index : Nat} {ls : Array Slot} {b L : Nat} {xs : Nat → Int32} {rest : List Value} {lv : List (Nat × Value)}
variable {d : AD} {x : XT} {wr : va_W} {n : Int32} {tt pg : Pg} {hs : List Pg} {k0 k1 : Option Pg}
set_option maxRecDepth 100000 in
set_option maxHeartbeats 4000000 in
theorem o_enoughShunt (hlt : l.stackTraces = false) (cx : Cx p s m args meth c cc nL own Ts ret' G A) (cl : CL s A b L xs) (HQ : PQd d) (J : JNV x n tt pg hs k0 k1)  {r0 : Int32} (hr : (P_X4_enoughShunt z0 pg).1 = r0) (hP : va_P G.1 vwCl (wB G d x wr) H) (hD : va_D A (wB G d x wr)) (hS : va_S A s.heap H locs) (hT : GoodIn Ts (wsV own index RX3 yX3_enoughShunt wsX3_enoughShunt)) (hR : rm_X3_enoughShunt.frames + 1 ≤ R.frames ∧ 8 + (6 + 11) + rm_X3_enoughShunt.locals ≤ R.locals) (hl : lv_has ls nL lv) (hroom : (rest.map fun v => v.category).sum ≤ 8) (hdg : decode cc pc = .ok (.invokevirtual index, 3)) (hf : cells ≤ R.cells ∧ slots ≤ R.slots) (kk : ∀ (H1 : Heap) (locs1 : List Loc), va_P G.1 vwCl (wB G d x wr) H1 → va_D A (wB G d x wr) → va_S A s.heap H1 locs1 → W p l e R s m args below meth c H1 locs1 cells slots Qp (F0 m (pc + 3) ls (.int r0 :: rest))) : W p l e R s m args below meth c H locs cells slots Qp (F0 m pc ls (.ref d.1 :: rest)) := by
  obtain ⟨xb, tx, tz, pa, sl, fi, qs, qt, pgr, sg, Q⟩ := d
  obtain ⟨bf, tf, tc, ⟨f, oh, lf, ce⟩, ⟨ft, oht, lft, cet⟩, ff, C⟩ := x
  obtain ⟨mf, dd, kq, ki, I, e1, e2, H8, K0, K1⟩ := id J
  have e1 : tc = tt := e1
  subst e1
  have I : INV bf tf tc f oh lf ce ff C mf tc pg dd kq ki := I
  obtain ⟨hE, hN, hZ, -⟩ := cl
  have HQ : PQ Q pgr sg := HQ
  have hP : va_P G.1 vwCl (fxw G xb tx tz qs qt pa sl fi bf tf tc f oh lf ce ft oht lft cet pgr sg ff ++ (pw G Q C (List.range 16) ++ wr)) H := hP
  have hD : va_D A (fxw G xb tx tz qs qt pa sl fi bf tf tc f oh lf ce ft oht lft cet pgr sg ff ++ (pw G Q C (List.range 16) ++ wr)) := hD
  have ha : P_X3_enoughShunt bf f oh = r0 := by rw [q_enoughShunt I.2.1 bf z0] at hr; exact hr
  have hC := c_X3_enoughShunt l G xb tx qs.1 qt.1 pa sl fi qs.2.1 qs.2.2.1 bf f oh
  refine k_i (ws' := fxw G xb tx tz qs qt pa sl fi bf tf tc f oh lf ce ft oht lft cet pgr sg ff ++ (pw G Q C (List.range 16) ++ wr)) (as := [xb, qs.1, qs.2.1]) cx hP hD hS [0, 3, 4] rfl (kr_V (n := 0) (As := []) (ci := 3) cx hC hT rfl rfl rfl (by decide +kernel) hR rfl rfl rfl hP hD [0, 3, 4] rfl rfl rfl rfl hl hroom hdg hf) ⟨rfl, rfl⟩ rfl (fun H locs hP hD hS => ?_)
  rw [ha]
  exact kk _ _ hP hD hS
set_option maxRecDepth 100000 in
set_option maxHeartbeats 4000000 in
theorem o_sensitivity (hlt : l.stackTraces = false) (cx : Cx p s m args meth c cc nL own Ts ret' G A) (cl : CL s A b L xs) (HQ : PQd d) (J : JNV x n tt pg hs k0 k1)  {r0 : Int32} (hr : (P_X4_sensitivity z0 pg).1 = r0) (hP : va_P G.1 vwCl (wB G d x wr) H) (hD : va_D A (wB G d x wr)) (hS : va_S A s.heap H locs) (hT : GoodIn Ts (wsV own index RX3 yX3_sensitivity wsX3_sensitivity)) (hR : rm_X3_sensitivity.frames + 1 ≤ R.frames ∧ 8 + (3 + 11) + rm_X3_sensitivity.locals ≤ R.locals) (hl : lv_has ls nL lv) (hroom : (rest.map fun v => v.category).sum ≤ 8) (hdg : decode cc pc = .ok (.invokevirtual index, 3)) (hf : cells ≤ R.cells ∧ slots ≤ R.slots) (kk : ∀ (H1 : Heap) (locs1 : List Loc), va_P G.1 vwCl (wB G d x wr) H1 → va_D A (wB G d x wr) → va_S A s.heap H1 locs1 → W p l e R s m args below meth c H1 locs1 cells slots Qp (F0 m (pc + 3) ls (.int r0 :: rest))) : W p l e R s m args below meth c H locs cells slots Qp (F0 m pc ls (.ref d.1 :: rest)) := by
  obtain ⟨xb, tx, tz, pa, sl, fi, qs, qt, pgr, sg, Q⟩ := d
  obtain ⟨bf, tf, tc, ⟨f, oh, lf, ce⟩, ⟨ft, oht, lft, cet⟩, ff, C⟩ := x
  obtain ⟨mf, dd, kq, ki, I, e1, e2, H8, K0, K1⟩ := id J
  have e1 : tc = tt := e1
  subst e1
  have I : INV bf tf tc f oh lf ce ff C mf tc pg dd kq ki := I
  obtain ⟨hE, hN, hZ, -⟩ := cl
  have HQ : PQ Q pgr sg := HQ
  have hP : va_P G.1 vwCl (fxw G xb tx tz qs qt pa sl fi bf tf tc f oh lf ce ft oht lft cet pgr sg ff ++ (pw G Q C (List.range 16) ++ wr)) H := hP
  have hD : va_D A (fxw G xb tx tz qs qt pa sl fi bf tf tc f oh lf ce ft oht lft cet pgr sg ff ++ (pw G Q C (List.range 16) ++ wr)) := hD
  have ha : P_X3_sensitivity bf f oh = r0 := by rw [q_sensitivity I.2.1 bf z0] at hr; exact hr
  have hC := c_X3_sensitivity l G xb tx qs.1 qt.1 pa sl fi qs.2.1 qs.2.2.1 bf f oh
  refine k_i (ws' := fxw G xb tx tz qs qt pa sl fi bf tf tc f oh lf ce ft oht lft cet pgr sg ff ++ (pw G Q C (List.range 16) ++ wr)) (as := [xb, qs.1, qs.2.1]) cx hP hD hS [0, 3, 4] rfl (kr_V (n := 0) (As := []) (ci := 3) cx hC hT rfl rfl rfl (by decide +kernel) hR rfl rfl rfl hP hD [0, 3, 4] rfl rfl rfl rfl hl hroom hdg hf) ⟨rfl, rfl⟩ rfl (fun H locs hP hD hS => ?_)
  rw [ha]
  exact kk _ _ hP hD hS
set_option maxRecDepth 100000 in
set_option maxHeartbeats 4000000 in
theorem o_errorPosition (hlt : l.stackTraces = false) (cx : Cx p s m args meth c cc nL own Ts ret' G A) (cl : CL s A b L xs) (HQ : PQd d) (J : JNV x n tt pg hs k0 k1)  {r0 : Int32} (hr : FE (TI tt) n.toInt.toNat r0.toInt) (hP : va_P G.1 vwCl (wB G d x wr) H) (hD : va_D A (wB G d x wr)) (hS : va_S A s.heap H locs) (hT : GoodIn Ts (wsV own index RX3 yX3_errorPosition wsX3_errorPosition)) (hR : rm_X3_errorPosition.frames + 1 ≤ R.frames ∧ 8 + (1 + 11) + rm_X3_errorPosition.locals ≤ R.locals) (hl : lv_has ls nL lv) (hroom : (rest.map fun v => v.category).sum ≤ 8) (hdg : decode cc pc = .ok (.invokevirtual index, 3)) (hf : cells ≤ R.cells ∧ slots ≤ R.slots) (kk : ∀ (H1 : Heap) (locs1 : List Loc), va_P G.1 vwCl (wB G d x wr) H1 → va_D A (wB G d x wr) → va_S A s.heap H1 locs1 → W p l e R s m args below meth c H1 locs1 cells slots Qp (F0 m (pc + 3) ls (.int r0 :: rest))) : W p l e R s m args below meth c H locs cells slots Qp (F0 m pc ls (.ref d.1 :: rest)) := by
  obtain ⟨xb, tx, tz, pa, sl, fi, qs, qt, pgr, sg, Q⟩ := d
  obtain ⟨bf, tf, tc, ⟨f, oh, lf, ce⟩, ⟨ft, oht, lft, cet⟩, ff, C⟩ := x
  obtain ⟨mf, dd, kq, ki, I, e1, e2, H8, K0, K1⟩ := id J
  have e1 : tc = tt := e1
  subst e1
  have I : INV bf tf tc f oh lf ce ff C mf tc pg dd kq ki := I
  obtain ⟨hE, hN, hZ, -⟩ := cl
  have HQ : PQ Q pgr sg := HQ
  have hP : va_P G.1 vwCl (fxw G xb tx tz qs qt pa sl fi bf tf tc f oh lf ce ft oht lft cet pgr sg ff ++ (pw G Q C (List.range 16) ++ wr)) H := hP
  have hD : va_D A (fxw G xb tx tz qs qt pa sl fi bf tf tc f oh lf ce ft oht lft cet pgr sg ff ++ (pw G Q C (List.range 16) ++ wr)) := hD
  have ha : P_X3_errorPosition bf tf tc = r0 := Int32.toInt_inj.mp (FE.uni (fe_i I.1) (by rw [e2]; exact hr))
  have hC := c_X3_errorPosition l G xb tx qs.1 qt.1 pa sl fi tz bf tf tc I.1.ch
  refine k_i (ws' := fxw G xb tx tz qs qt pa sl fi bf tf tc f oh lf ce ft oht lft cet pgr sg ff ++ (pw G Q C (List.range 16) ++ wr)) (as := [xb, tx, tz]) cx hP hD hS [0, 1, 2] rfl (kr_V (n := 0) (As := []) (ci := 3) cx hC hT rfl rfl rfl (by decide +kernel) hR rfl rfl rfl hP hD [0, 1, 2] rfl rfl rfl rfl hl hroom hdg hf) ⟨rfl, rfl⟩ rfl (fun H locs hP hD hS => ?_)
  rw [ha]
  exact kk _ _ hP hD hS
set_option maxRecDepth 100000 in
set_option maxHeartbeats 4000000 in
theorem o_clearText (hlt : l.stackTraces = false) (cx : Cx p s m args meth c cc nL own Ts ret' G A) (cl : CL s A b L xs) (HQ : PQd d) (J : JNV x n tt pg hs k0 k1)   {r0 : Int32} (hr : n = r0) (hP : va_P G.1 vwCl (wB G d x wr) H) (hD : va_D A (wB G d x wr)) (hS : va_S A s.heap H locs) (hT : GoodIn Ts (wsV own index RX3 yX3_clearText wsX3_clearText)) (hR : rm_X3_clearText.frames + 1 ≤ R.frames ∧ 8 + (2 + 11) + rm_X3_clearText.locals ≤ R.locals) (hl : lv_has ls nL lv) (hroom : (rest.map fun v => v.category).sum ≤ 8) (hdg : decode cc pc = .ok (.invokevirtual index, 3)) (hf : cells ≤ R.cells ∧ slots ≤ R.slots) (kk : ∀ (x' : XT) (H1 : Heap) (locs1 : List Loc), JNV x' 0 tt pg hs k0 k1 → va_P G.1 vwCl (wB G d x' wr) H1 → va_D A (wB G d x' wr) → va_S A s.heap H1 locs1 → W p l e R s m args below meth c H1 locs1 cells slots Qp (F0 m (pc + 3) ls (.int r0 :: rest))) : W p l e R s m args below meth c H locs cells slots Qp (F0 m pc ls (.ref d.1 :: rest)) := by
  obtain ⟨xb, tx, tz, pa, sl, fi, qs, qt, pgr, sg, Q⟩ := d
  obtain ⟨bf, tf, tc, ⟨f, oh, lf, ce⟩, ⟨ft, oht, lft, cet⟩, ff, C⟩ := x
  obtain ⟨mf, dd, kq, ki, I, e1, e2, H8, K0, K1⟩ := id J
  have e1 : tc = tt := e1
  subst e1
  have I : INV bf tf tc f oh lf ce ff C mf tc pg dd kq ki := I
  obtain ⟨hE, hN, hZ, -⟩ := cl
  have HQ : PQ Q pgr sg := HQ
  have hP : va_P G.1 vwCl (fxw G xb tx tz qs qt pa sl fi bf tf tc f oh lf ce ft oht lft cet pgr sg ff ++ (pw G Q C (List.range 16) ++ wr)) H := hP
  have hD : va_D A (fxw G xb tx tz qs qt pa sl fi bf tf tc f oh lf ce ft oht lft cet pgr sg ff ++ (pw G Q C (List.range 16) ++ wr)) := hD
  have ha : (P_X3_clearText bf tf).1 = n := I.1.1.trans e2
  have JN0 : JV bf (P_X3_clearText bf tf).2 tc f oh lf ce ff C 0 tc pg hs k0 k1 := ⟨upd mf 2 0, dd, kq, ki, ⟨tr_clr I.1, I.2.1, dr_mf I.2.2.1 (upd_o (by decide)), I.2.2.2⟩, rfl, upd_me, ⟨by rw [upd_o (by decide)]; exact H8.1, H8.2⟩, K0, K1⟩
  have hC := c_X3_clearText l G xb tx qs.1 qt.1 pa sl fi tz bf tf
  replace ha := ha.trans hr
  refine k_i (ws' := fxw G xb tx tz qs qt pa sl fi bf ((P_X3_clearText bf tf).2) tc f oh lf ce ft oht lft cet pgr sg ff ++ (pw G Q C (List.range 16) ++ wr)) (as := [xb, tx]) cx hP hD hS [0, 1] rfl (kr_V (n := 0) (As := []) (ci := 3) cx hC hT rfl rfl rfl (by decide +kernel) hR rfl rfl rfl hP hD [0, 1] rfl rfl rfl rfl hl hroom hdg hf) ⟨rfl, rfl⟩ rfl (fun H locs hP hD hS => ?_)
  rw [ha]
  exact kk (bf, ((P_X3_clearText bf tf).2), tc, (f, oh, lf, ce), (ft, oht, lft, cet), ff, C) _ _ JN0 hP hD hS
set_option maxRecDepth 100000 in
set_option maxHeartbeats 4000000 in
theorem o_append (hlt : l.stackTraces = false) (cx : Cx p s m args meth c cc nL own Ts ret' G A) (cl : CL s A b L xs) (HQ : PQd d) (J : JNV x n tt pg hs k0 k1) (ch : Int32) (hc : 0 ≤ ch.toInt ∧ ch.toInt ≤ 255) (hn : n.toInt < 60) {r0 : Int32} (hr : (n + 1) = r0) (hP : va_P G.1 vwCl (wB G d x wr) H) (hD : va_D A (wB G d x wr)) (hS : va_S A s.heap H locs) (hT : GoodIn Ts (va_wsS own index yL_tryAppend wsL_tryAppend)) (hR : rmL_tryAppend.frames + 1 ≤ R.frames ∧ 8 + (3 + 11) + rmL_tryAppend.locals ≤ R.locals) (hl : lv_has ls nL lv) (hroom : (rest.map fun v => v.category).sum ≤ 8) (hdg : decode cc pc = .ok (.invokestatic index, 3)) (hf : cells + 1 ≤ R.cells ∧ slots + 6 ≤ R.slots) (kk : ∀ (x' : XT) (H1 : Heap) (locs1 : List Loc), JNV x' (n + 1) (upd tt n.toNatClampNeg ch) pg hs k0 k1 → va_P G.1 vwCl (wB G d x' wr) H1 → va_D A (wB G d x' wr) → va_S A s.heap H1 locs1 → W p l e R s m args below meth c H1 locs1 (cells + 1) (slots + 6) Qp (F0 m (pc + 3) ls (.int r0 :: rest))) : W p l e R s m args below meth c H locs cells slots Qp (F0 m pc ls (.int ch :: .ref d.1 :: rest)) := by
  obtain ⟨xb, tx, tz, pa, sl, fi, qs, qt, pgr, sg, Q⟩ := d
  obtain ⟨bf, tf, tc, ⟨f, oh, lf, ce⟩, ⟨ft, oht, lft, cet⟩, ff, C⟩ := x
  obtain ⟨mf, dd, kq, ki, I, e1, e2, H8, K0, K1⟩ := id J
  have e1 : tc = tt := e1
  subst e1
  have I : INV bf tf tc f oh lf ce ff C mf tc pg dd kq ki := I
  obtain ⟨hE, hN, hZ, -⟩ := cl
  have HQ : PQ Q pgr sg := HQ
  have hP : va_P G.1 vwCl (fxw G xb tx tz qs qt pa sl fi bf tf tc f oh lf ce ft oht lft cet pgr sg ff ++ (pw G Q C (List.range 16) ++ wr)) H := hP
  have hD : va_D A (fxw G xb tx tz qs qt pa sl fi bf tf tc f oh lf ce ft oht lft cet pgr sg ff ++ (pw G Q C (List.range 16) ++ wr)) := hD
  have hn2 : (mf 2).toInt < 60 := by rw [e2]; exact hn
  have F := And.intro (show (P_X3_append bf tf tc ch).1 = 0 ∨ (P_X3_append bf tf tc ch).1 = 1 ∨ (P_X3_append bf tf tc ch).1 = 2 from (q_append I.1 bf ch).1) (ap_eq (bf := bf) I.1 hc hn2)
  have hC := c_L_tryAppend l hlt G xb tx qs.1 qt.1 pa sl fi tz bf tf tc ch F.1
  generalize P_X3_append bf tf tc ch = u at F hC
  have F2 := F.2
  have h0 : u.1 = 0 := by rw [F2]
  have ha : rz u.1 u.2.1 = n + 1 := by rw [F2]; show mf 2 + 1 = n + 1; rw [e2]
  have JN : JV bf (u.2.2.1) (u.2.2.2) f oh lf ce ff C (n + 1) (upd tc n.toNatClampNeg ch) pg hs k0 k1 := by
    rw [F2, ← e2]
    exact ⟨upd mf 2 (mf 2 + 1), dd, kq, ki, ⟨tr_app I.1 hc hn2, I.2.1, dr_mf I.2.2.1 (upd_o (by decide)), I.2.2.2⟩, rfl, upd_me, ⟨by rw [upd_o (by decide)]; exact H8.1, H8.2⟩, K0, K1⟩
  replace ha := ha.trans hr
  refine k_iW (ws' := fxw G xb tx tz qs qt pa sl fi bf (u.2.2.1) (u.2.2.2) f oh lf ce ft oht lft cet pgr sg ff ++ (pw G Q C (List.range 16) ++ wr)) (as := [xb, tx, tz]) cx hP hD hS [0, 1, 2] rfl (kr_SL (n := 2) (As := [.ref xb, .int ch]) cx hE hN hZ hS hC hT rfl rfl rfl (by decide +kernel) hR hP hD [0, 1, 2] rfl rfl rfl rfl hl hroom hdg hf) ⟨rfl, rfl⟩ rfl rfl (fun H locs wx hwx hP hD hS => ?_)
  rw [ha]
  rcases hwx with ⟨h9, rfl⟩ | ⟨h9, rfl⟩
  · exact kk (bf, (u.2.2.1), (u.2.2.2), (f, oh, lf, ce), (ft, oht, lft, cet), ff, C) _ _ JN hP hD hS
  · exact absurd h0 h9
set_option maxRecDepth 100000 in
set_option maxHeartbeats 4000000 in
theorem n_append (hlt : l.stackTraces = false) (cx : Cx p s m args meth c cc nL own Ts ret' G A) (cl : CL s A b L xs) (HQ : PQd d) (J : JNV x n tt pg hs k0 k1)   (hP : va_P G.1 vwCl (wB G d x wr) H) (hD : va_D A (wB G d x wr)) (hS : va_S A s.heap H locs) (hT : GoodIn Ts (va_wsS own index yL_tryAppend wsL_tryAppend)) (hR : rmL_tryAppend.frames + 1 ≤ R.frames ∧ 8 + (3 + 11) + rmL_tryAppend.locals ≤ R.locals) (hl : lv_has ls nL lv) (hroom : (rest.map fun v => v.category).sum ≤ 8) (hdg : decode cc pc = .ok (.invokestatic index, 3)) (hf : cells + 1 ≤ R.cells ∧ slots + 6 ≤ R.slots) (kk : ∀ (H1 : Heap) (locs1 : List Loc), va_P G.1 vwCl (wB G d x wr) H1 → va_D A (wB G d x wr) → va_S A s.heap H1 locs1 → W p l e R s m args below meth c H1 locs1 (cells + 1) (slots + 6) Qp (F0 m (pc + 3) ls (.int (-999900002) :: rest))) : W p l e R s m args below meth c H locs cells slots Qp (F0 m pc ls (.int 256 :: .ref d.1 :: rest)) := by
  obtain ⟨xb, tx, tz, pa, sl, fi, qs, qt, pgr, sg, Q⟩ := d
  obtain ⟨bf, tf, tc, ⟨f, oh, lf, ce⟩, ⟨ft, oht, lft, cet⟩, ff, C⟩ := x
  obtain ⟨mf, dd, kq, ki, I, e1, e2, H8, K0, K1⟩ := id J
  have e1 : tc = tt := e1
  subst e1
  have I : INV bf tf tc f oh lf ce ff C mf tc pg dd kq ki := I
  obtain ⟨hE, hN, hZ, -⟩ := cl
  have HQ : PQ Q pgr sg := HQ
  have hP : va_P G.1 vwCl (fxw G xb tx tz qs qt pa sl fi bf tf tc f oh lf ce ft oht lft cet pgr sg ff ++ (pw G Q C (List.range 16) ++ wr)) H := hP
  have hD : va_D A (fxw G xb tx tz qs qt pa sl fi bf tf tc f oh lf ce ft oht lft cet pgr sg ff ++ (pw G Q C (List.range 16) ++ wr)) := hD
  have F := And.intro (show (P_X3_append bf tf tc 256).1 = 0 ∨ (P_X3_append bf tf tc 256).1 = 1 ∨ (P_X3_append bf tf tc 256).1 = 2 from (q_append I.1 bf 256).1) (show (P_X3_append bf tf tc 256).1 = 1 by unfold P_X3_append; rw [if_neg (by decide)])
  have hC := c_L_tryAppend l hlt G xb tx qs.1 qt.1 pa sl fi tz bf tf tc 256 F.1
  generalize P_X3_append bf tf tc 256 = u at F hC
  have ht : u.1 = 1 := F.2
  have hz : ¬ u.1 = 0 := by rw [ht]; decide
  have ha : rz u.1 u.2.1 = (-999900002) := by rw [ht]; rfl
  refine k_iW (ws' := fxw G xb tx tz qs qt pa sl fi bf (u.2.2.1) (u.2.2.2) f oh lf ce ft oht lft cet pgr sg ff ++ (pw G Q C (List.range 16) ++ wr)) (as := [xb, tx, tz]) cx hP hD hS [0, 1, 2] rfl (kr_SL (n := 2) (As := [.ref xb, .int 256]) cx hE hN hZ hS hC hT rfl rfl rfl (by decide +kernel) hR hP hD [0, 1, 2] rfl rfl rfl rfl hl hroom hdg hf) ⟨rfl, rfl⟩ rfl rfl (fun H locs wx hwx hP hD hS => ?_)
  rw [ha]
  rcases hwx with ⟨h9, rfl⟩ | ⟨h9, rfl⟩
  · exact absurd h9 hz
  · exact kk _ _ hP hD hS
set_option maxRecDepth 100000 in
set_option maxHeartbeats 4000000 in
theorem o_load (hlt : l.stackTraces = false) (cx : Cx p s m args meth c cc nL own Ts ret' G A) (cl : CL s A b L xs) (HQ : PQd d) (J : JNV x n tt pg hs k0 k1)  (hF : FE (TI tt) n.toInt.toNat (-9999)) (hP : va_P G.1 vwCl (wB G d x wr) H) (hD : va_D A (wB G d x wr)) (hS : va_S A s.heap H locs) (hT : GoodIn Ts (va_wsS own index yL_tryLoad wsL_tryLoad)) (hR : rmL_tryLoad.frames + 1 ≤ R.frames ∧ 8 + (2 + 11) + rmL_tryLoad.locals ≤ R.locals) (hl : lv_has ls nL lv) (hroom : (rest.map fun v => v.category).sum ≤ 8) (hdg : decode cc pc = .ok (.invokestatic index, 3)) (hf : cells + 1 ≤ R.cells ∧ slots + 6 ≤ R.slots) (kk : ∀ (pg' : Pg) (K : Nat) (x' : XT) (H1 : Heap) (locs1 : List Loc), n.toInt.toNat = 15 + 5 * K → 1 ≤ K → K ≤ 6 → PG (TI tt) K pg' → JNV x' n tt pg' [] none none → va_P G.1 vwCl (wB G d x' wr) H1 → va_D A (wB G d x' wr) → va_S A s.heap H1 locs1 → W p l e R s m args below meth c H1 locs1 (cells + 1) (slots + 6) Qp (F0 m (pc + 3) ls (.int (pg' 9) :: rest))) : W p l e R s m args below meth c H locs cells slots Qp (F0 m pc ls (.ref d.1 :: rest)) := by
  obtain ⟨xb, tx, tz, pa, sl, fi, qs, qt, pgr, sg, Q⟩ := d
  obtain ⟨bf, tf, tc, ⟨f, oh, lf, ce⟩, ⟨ft, oht, lft, cet⟩, ff, C⟩ := x
  obtain ⟨mf, dd, kq, ki, I, e1, e2, H8, K0, K1⟩ := id J
  have e1 : tc = tt := e1
  subst e1
  have I : INV bf tf tc f oh lf ce ff C mf tc pg dd kq ki := I
  obtain ⟨hE, hN, hZ, -⟩ := cl
  have HQ : PQ Q pgr sg := HQ
  have hP : va_P G.1 vwCl (fxw G xb tx tz qs qt pa sl fi bf tf tc f oh lf ce ft oht lft cet pgr sg ff ++ (pw G Q C (List.range 16) ++ wr)) H := hP
  have hD : va_D A (fxw G xb tx tz qs qt pa sl fi bf tf tc f oh lf ce ft oht lft cet pgr sg ff ++ (pw G Q C (List.range 16) ++ wr)) := hD
  have F := a_load I z0
  obtain ⟨q, pr', pg', K, g0, g1, g2, g3, g4, g5⟩ := ld_ok (pg := pg) (ki := ki) I.1 (by rw [e2]; exact hF)
  rw [g0] at F
  have hC := c_L_tryLoad l hlt G xb tx qs.1 qt.1 pa sl fi tz qs.2.1 qs.2.2.1 qs.2.2.2 bf tf tc f oh lf ce ff I.1.ch F.1
  generalize P_X3_load bf tf tc f oh lf ce ff = u at F hC
  obtain ⟨F1, F0, F3, F4, F5⟩ := F
  have h0 : u.1 = 0 := hm_z F0.symm
  have ha : rz u.1 u.2.1 = pg' 9 := by rw [h0]; exact F3 h0
  have JN : JV (u.2.2.1) tf tc (u.2.2.2.1) (u.2.2.2.2.1) (u.2.2.2.2.2.1) ce (u.2.2.2.2.2.2) C n tc pg' [] none none := ⟨upd (upd q 0 0) 8 0, dd, kq, upd (upd ki 0 0) 1 0, F5, rfl, g5.trans e2, ⟨(show (0 : Int32).toInt = 0 by decide), fun i q9 h => by simp at h⟩, ⟨fun _ => rfl, fun q9 h => by cases h⟩, ⟨fun _ => rfl, fun q9 h => by cases h⟩⟩
  refine k_iW (ws' := fxw G xb tx tz qs qt pa sl fi (u.2.2.1) tf tc (u.2.2.2.1) (u.2.2.2.2.1) (u.2.2.2.2.2.1) ce ft oht lft cet pgr sg (u.2.2.2.2.2.2) ++ (pw G Q C (List.range 16) ++ wr)) (as := [xb, tx, tz, qs.1, qs.2.1, qs.2.2.1, qs.2.2.2, fi]) cx hP hD hS [0, 1, 2, 3, 4, 5, 6, 13] rfl (kr_SL (n := 1) (As := [.ref xb]) cx hE hN hZ hS hC hT rfl rfl rfl (by decide +kernel) hR hP hD [0, 1, 2, 3, 4, 5, 6, 13] rfl rfl rfl rfl hl hroom hdg hf) ⟨rfl, rfl⟩ rfl rfl (fun H locs wx hwx hP hD hS => ?_)
  rw [ha]
  rcases hwx with ⟨h9, rfl⟩ | ⟨h9, rfl⟩
  · exact kk pg' K ((u.2.2.1), tf, tc, ((u.2.2.2.1), (u.2.2.2.2.1), (u.2.2.2.2.2.1), ce), (ft, oht, lft, cet), (u.2.2.2.2.2.2), C) _ _ (by rw [← e2]; exact g1) g2 g3 g4 JN hP hD hS
  · exact absurd h0 h9
set_option maxRecDepth 100000 in
set_option maxHeartbeats 4000000 in
theorem n_load (hlt : l.stackTraces = false) (cx : Cx p s m args meth c cc nL own Ts ret' G A) (cl : CL s A b L xs) (HQ : PQd d) (J : JNV x n tt pg hs k0 k1)  {r : Int} (hF : FE (TI tt) n.toInt.toNat r) (hr : ¬ r = -9999) (hP : va_P G.1 vwCl (wB G d x wr) H) (hD : va_D A (wB G d x wr)) (hS : va_S A s.heap H locs) (hT : GoodIn Ts (va_wsS own index yL_tryLoad wsL_tryLoad)) (hR : rmL_tryLoad.frames + 1 ≤ R.frames ∧ 8 + (2 + 11) + rmL_tryLoad.locals ≤ R.locals) (hl : lv_has ls nL lv) (hroom : (rest.map fun v => v.category).sum ≤ 8) (hdg : decode cc pc = .ok (.invokestatic index, 3)) (hf : cells + 1 ≤ R.cells ∧ slots + 6 ≤ R.slots) (kk : ∀ (H1 : Heap) (locs1 : List Loc), va_P G.1 vwCl (wB G d x wr) H1 → va_D A (wB G d x wr) → va_S A s.heap H1 locs1 → W p l e R s m args below meth c H1 locs1 (cells + 1) (slots + 6) Qp (F0 m (pc + 3) ls (.int (-999900003) :: rest))) : W p l e R s m args below meth c H locs cells slots Qp (F0 m pc ls (.ref d.1 :: rest)) := by
  obtain ⟨xb, tx, tz, pa, sl, fi, qs, qt, pgr, sg, Q⟩ := d
  obtain ⟨bf, tf, tc, ⟨f, oh, lf, ce⟩, ⟨ft, oht, lft, cet⟩, ff, C⟩ := x
  obtain ⟨mf, dd, kq, ki, I, e1, e2, H8, K0, K1⟩ := id J
  have e1 : tc = tt := e1
  subst e1
  have I : INV bf tf tc f oh lf ce ff C mf tc pg dd kq ki := I
  obtain ⟨hE, hN, hZ, -⟩ := cl
  have HQ : PQ Q pgr sg := HQ
  have hP : va_P G.1 vwCl (fxw G xb tx tz qs qt pa sl fi bf tf tc f oh lf ce ft oht lft cet pgr sg ff ++ (pw G Q C (List.range 16) ++ wr)) H := hP
  have hD : va_D A (fxw G xb tx tz qs qt pa sl fi bf tf tc f oh lf ce ft oht lft cet pgr sg ff ++ (pw G Q C (List.range 16) ++ wr)) := hD
  have F := a_load I z0
  have g0 := ld_no (pg := pg) (ki := ki) I.1 (by rw [e2]; exact hF) hr
  rw [g0] at F
  have hC := c_L_tryLoad l hlt G xb tx qs.1 qt.1 pa sl fi tz qs.2.1 qs.2.2.1 qs.2.2.2 bf tf tc f oh lf ce ff I.1.ch F.1
  generalize P_X3_load bf tf tc f oh lf ce ff = u at F hC
  obtain ⟨F1, F0, F3, F4, F5⟩ := F
  have ht : u.1 = 2 := hm_e F0.symm
  have hz : ¬ u.1 = 0 := by rw [ht]; decide
  have ha : rz u.1 u.2.1 = (-999900003) := by rw [ht]; rfl
  refine k_iW (ws' := fxw G xb tx tz qs qt pa sl fi (u.2.2.1) tf tc (u.2.2.2.1) (u.2.2.2.2.1) (u.2.2.2.2.2.1) ce ft oht lft cet pgr sg (u.2.2.2.2.2.2) ++ (pw G Q C (List.range 16) ++ wr)) (as := [xb, tx, tz, qs.1, qs.2.1, qs.2.2.1, qs.2.2.2, fi]) cx hP hD hS [0, 1, 2, 3, 4, 5, 6, 13] rfl (kr_SL (n := 1) (As := [.ref xb]) cx hE hN hZ hS hC hT rfl rfl rfl (by decide +kernel) hR hP hD [0, 1, 2, 3, 4, 5, 6, 13] rfl rfl rfl rfl hl hroom hdg hf) ⟨rfl, rfl⟩ rfl rfl (fun H locs wx hwx hP hD hS => ?_)
  rw [ha]
  rcases hwx with ⟨h9, rfl⟩ | ⟨h9, rfl⟩
  · exact absurd h9 hz
  · exact kk _ _ hP hD hS
end RU
