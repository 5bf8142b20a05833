/-! the law's walk: what it knows, its world, its calls -/
theorem kP_iff {D : va_G} {cl : List vw_C} {ws : va_W} {H : Heap} : va_P D cl ws H ↔ ∀ q ∈ ws, va_at D cl q H :=
  ⟨fun h q hq => by
    obtain ⟨k, hk⟩ := List.getElem?_of_mem hq
    exact h k q hk, fun h k q hk => h q (List.mem_of_getElem? hk)⟩
theorem kD_iff {A : Nat → Prop} {ws : va_W} : va_D A ws ↔ (ws.map (·.1)).Nodup ∧ ∀ q ∈ ws, A q.1 := by
  constructor
  · rintro ⟨h1, h2⟩
    refine ⟨?_, fun q hq => ?_⟩
    · rw [List.nodup_iff_pairwise_ne, List.pairwise_iff_getElem]
      intro i j hi hj hij e
      rw [List.length_map] at hi hj
      rw [List.getElem_map, List.getElem_map] at e
      have := h1 i j ws[i] ws[j] (List.getElem?_eq_getElem hi) (List.getElem?_eq_getElem hj) e
      omega
    · obtain ⟨k, hk⟩ := List.getElem?_of_mem hq
      exact h2 k q hk
  · rintro ⟨h1, h2⟩
    refine ⟨fun i j p q hp hq e => ?_, fun k q hk => h2 q (List.mem_of_getElem? hk)⟩
    have hi := (List.getElem?_eq_some_iff.mp hp).1
    refine (List.getElem?_inj (l := ws.map (·.1)) (by rw [List.length_map]; exact hi) h1).mp ?_
    rw [List.getElem?_map, List.getElem?_map, hp, hq]
    exact congrArg some e
theorem kP_perm {D : va_G} {cl : List vw_C} {w1 w2 : va_W} {H : Heap} (hp : w1.Perm w2) (h : va_P D cl w1 H) : va_P D cl w2 H :=
  kP_iff.mpr (fun q hq => kP_iff.mp h q (hp.mem_iff.mpr hq))
theorem kD_perm {A : Nat → Prop} {w1 w2 : va_W} (hp : w1.Perm w2) (h : va_D A w1) : va_D A w2 := by
  obtain ⟨h1, h2⟩ := kD_iff.mp h
  exact kD_iff.mpr ⟨(hp.map (·.1)).nodup_iff.mp h1, fun q hq => h2 q (hp.mem_iff.mpr hq)⟩
def pw (G : gG) (Q : Nat → qd) (C : Nat → ct4) (ks : List Nat) : va_W := ks.flatMap (fun k => bun G (Q k) (C k).1 (C k).2.1 (C k).2.2.1 (C k).2.2.2)
def pr16 (k : Nat) : List Nat := (List.range 16).erase k
theorem pw_out {G : gG} {Q : Nat → qd} {C : Nat → ct4} {k : Nat} (hk : k < 16) (fx : va_W) : (fx ++ pw G Q C (List.range 16)).Perm (fx ++ (bun G (Q k) (C k).1 (C k).2.1 (C k).2.2.1 (C k).2.2.2 ++ pw G Q C (pr16 k))) := by
  refine List.Perm.append_left fx ?_
  have h := (List.perm_cons_erase (List.mem_range.mpr hk)).flatMap_right (fun k => bun G (Q k) (C k).1 (C k).2.1 (C k).2.2.1 (C k).2.2.2)
  rw [List.flatMap_cons] at h
  exact h
theorem pw_upd {G : gG} {Q : Nat → qd} {C : Nat → ct4} {k : Nat} {x : ct4} : pw G Q (updC C k x) (pr16 k) = pw G Q C (pr16 k) := by
  unfold pw
  rw [List.flatMap_def, List.flatMap_def]
  refine congrArg List.flatten (List.map_congr_left (fun j hj => ?_))
  have : j ≠ k := ((List.nodup_range).mem_erase_iff.mp hj).1
  rw [updC_o this]
theorem pw_in {G : gG} {Q : Nat → qd} {C : Nat → ct4} {k : Nat} (hk : k < 16) (fx : va_W) (x1 x2 x3 x4 : Nat → Int32) : (fx ++ (bun G (Q k) x1 x2 x3 x4 ++ pw G Q C (pr16 k))).Perm (fx ++ pw G Q (updC C k (x1, x2, x3, x4)) (List.range 16)) := by
  have h := (pw_out (G := G) (Q := Q) (C := updC C k (x1, x2, x3, x4)) hk fx).symm
  rw [updC_me, pw_upd] at h
  exact h
/-- the law's world, without the states in the class's two rows -/
def WF (G : gG) (cJ : ClassId) (xb tx tk pa sl fi mo te re no tr di ke ik ou : Nat) (qs qt : qd) (pg sg : Nat → Option Nat) (bf tf tc f oh lf ce ft oht lft cet ff mf tt pr pn pt dd kk ki : Nat → Int32) (fo : Nat → Int64) : va_W :=
  [oBr xb tx qs.1 qt.1 pa sl fi bf, oTx tx tk tf, aC G tk 60 tc, oSt qs.1 qs.2.1 qs.2.2.1 f, aI G qs.2.1 6 oh, oLed qs.2.2.1 qs.2.2.2 lf, aI G qs.2.2.2 80 ce, oSt qt.1 qt.2.1 qt.2.2.1 ft, aI G qt.2.1 6 oht, oLed qt.2.2.1 qt.2.2.2 lft, aI G qt.2.2.2 80 cet, aS G pa 14 pg, aS G sl 2 sg, aZ G fi 2 ff, oMo mo te re no tr di ke ik mf, aI G te 60 tt, aI G re 101 pr, aI G no 101 pn, aI G tr 101 pt, aI G di 1414 dd, aI G ke 202 kk, aZ G ik 2 ki, oJ cJ ou fo]
/-- what holds all through the law -/
def LX (p : Program) (l : Launch) (s : State) (m : MethodId) (meth : Method) (c : Code) (G : gG) (cJ : ClassId) (b L : Nat) (xs : Nat → Int32) : Prop :=
  l.stackTraces = false ∧ Cx p s m #[Value.ref b] meth c cL_law 7 RL wsL_law ret G (fun q : Nat => s.heap.size ≤ q) ∧ va_K G.1 vwCl [(cJ, .long)] s ∧ eK s ∧ eN s ∧ eZ (fun q : Nat => s.heap.size ≤ q) s s.heap ∧ va_X b L xs s s.heap ∧ b < s.heap.size
/-- the addresses of the states in the class's two rows -/
def PQ (Q : Nat → qd) (pg sg : Nat → Option Nat) : Prop := (∀ k : Nat, k < 14 → pg k = some (Q k).1) ∧ ∀ k : Nat, k < 2 → sg k = some (Q (14 + k)).1
theorem ent_i {n : Nat} {pg : Nat → Option Nat} {i : Int32} {k : Nat} (hi : i.toInt = k) (hk : k < n) (hn : n < 2147483648) : P_X3_entry n pg i = pg k := by
  unfold P_X3_entry
  have z : (0 : Int32).toInt = 0 := by decide
  have zn : (Int32.ofNat n).toInt = n := nI_toInt hn
  have e : i.toNatClampNeg = k := by show i.toInt.toNat = k; omega
  show (if i < 0 then none else (if Int32.ofNat n ≤ i then none else pg i.toNatClampNeg)) = pg k
  rw [if_neg (by rw [Int32.lt_iff_toInt_lt]; omega), if_neg (by rw [Int32.le_iff_toInt_le]; omega), e]
section KLW
variable {p : Program} {l : Launch} {e : Env} {R : Room} {s : State} {m : MethodId} {args : Array Value} {below : List Frame} {meth : Method} {c : Code} {H : Heap} {locs : List Loc} {cells slots : Nat} {Q : State → Prop}
variable {cc : ByteArray} {nL : Nat} {own : String} {Ts : List Cond} {ret' : Option FieldType} {G : gG} {A : Nat → Prop} {pc : Nat} {ls : Array Slot} {cJ : ClassId}
theorem kr_SL {y : MethodName} {wl wl' : List Cond} {rm : Room} {bytes : ByteArray} {mL' n index : Nat} {ret2 : Option FieldType} {hh : List (Nat × Nat × Nat × Nat)} {Qc : (Nat → Prop) → Array Value → State → Outcome → State → Prop} {ws wc : va_W} {As rest st : List Value} {lv : List (Nat × Value)}
    (cx : Cx p s m args meth c cc nL own Ts ret' G A) (hKJ : va_K G.1 vwCl [(cJ, .long)] s) (hE : eK s) (hN : eN s) (hZ : eZ A s s.heap) (hS : va_S A s.heap H locs) (hC : kL l G cJ y wl rm As wc Qc) (hT : GoodIn Ts (va_wsS own index y wl)) (hw : wl = Cond.codeWith y bytes mL' ret2 hh :: wl') (hrc : rm.cells = 1) (hrs : rm.slots = 6)
    (hd : y.cls ≠ "java/lang/invoke/MethodHandle" ∧ y.cls ≠ "java/lang/invoke/VarHandle" ∧ (parseMethodDescriptor y.desc).map (fun d => d.parameters.length) = some n) (hR : rm.frames + 1 ≤ R.frames ∧ 8 + (mL' + 11) + rm.locals ≤ R.locals)
    (hP : va_P G.1 vwCl ws H) (hD : va_D A ws) (is : List Nat) (hn : va_nd is = true) (hCc : is.map (fun i => ws[i]?) = wc.map some)
    (hst : st = As.reverse ++ rest) (hAs : As.length = n) (hsize : lv_has ls nL lv) (hroom : (rest.map fun v => v.category).sum ≤ 8) (hdg : decode cc pc = .ok (.invokestatic index, 3)) (hf : cells + 1 ≤ R.cells ∧ slots + 6 ≤ R.slots) :
    va_Run p l e R s m args below meth c H locs cells slots 1 6 (F0 m pc ls st) rest (Qc (va_A wc H.size) As.toArray) (va_A wc H.size) := by
  obtain ⟨hx, hb, hml, hown, hts, hr, hlocks, hK, hA⟩ := cx
  have hPc := k_pick hP hCc
  have hDc := hD.sub is hn hCc
  have hFc := k_free hD hS hA hCc
  subst hst
  exact vx_runSW (As := As) (rest := rest) ⟨hx, hb, hml, hown, hts⟩ (hC H.size) (vx_cwSW n hts hT hw hrc hrs hd hR) ⟨mL_blind, fun U hU hW => ⟨rfl, by rw [hU], by rw [hU]; exact hPc, gK.warm hW hK, va_K.moved hW.alike hKJ, hDc.weaken (fun _ _ _ _ => trivial), eK.warm hW hE, eN.moved hW.alike hN, hZ.at hS hFc hU hW⟩⟩ rfl hAs hsize.1 rfl (lv_room hroom) hdg hf
theorem k_iW {k t : Int32} {ws wc w1 ws' : va_W} {a : Array Value} {as : List Nat} {st rest : List Value} (cx : Cx p s m args meth c cc nL own Ts ret' G A) (hP : va_P G.1 vwCl ws H) (hD : va_D A ws) (hS : va_S A s.heap H locs) (is : List Nat) (hCc : is.map (fun i => ws[i]?) = wc.map some)
    (hr : va_Run p l e R s m args below meth c H locs cells slots 1 6 (F0 m pc ls st) rest (qW G k t w1 wc (va_A wc H.size) a) (va_A wc H.size)) (hf : w1.map (·.1) = as ∧ wc.map (·.1) = as) (hw : kRep ws is w1 = ws') (hw0 : kRep ws is wc = ws)
    (kk : ∀ (H1 : Heap) (locs1 : List Loc) (wx : va_W), ((t = 0 ∧ wx = ws') ∨ (¬ t = 0 ∧ wx = ws)) → va_P G.1 vwCl wx H1 → va_D A wx → va_S A s.heap H1 locs1 → W p l e R s m args below meth c H1 locs1 (cells + 1) (slots + 6) Q (F0 m (pc + 3) ls (.int k :: rest))) : W p l e R s m args below meth c H locs cells slots Q (F0 m pc ls st) := by
  have hFc := k_free hD hS cx.2.2.2.2.2.2.2.2 hCc
  refine va_calli hr hS (fun q _ h => hFc q h) hFc (fun r' u t' H1 locs1 ht hvm hpo hB hz hk hS1 => ?_)
  cases hpo
  rw [ht] at hB
  by_cases h0 : t = 0
  · have hB : va_P G.1 vwCl w1 H1 := by rw [if_pos h0] at hB; exact hB
    obtain ⟨h1, h2⟩ := k_rep hP hD is hCc (hf.1.trans hf.2.symm) hk hB
    rw [hw] at h1 h2
    exact kk H1 locs1 ws' (Or.inl ⟨h0, rfl⟩) h1 h2 hS1
  · have hB : va_P G.1 vwCl wc H1 := by rw [if_neg h0] at hB; exact hB
    obtain ⟨h1, h2⟩ := k_rep hP hD is hCc (hf.2.trans hf.2.symm) hk hB
    rw [hw0] at h1 h2
    exact kk H1 locs1 ws (Or.inr ⟨h0, rfl⟩) h1 h2 hS1
end KLW
theorem lx_in {i L j : Nat} (hi : i + 4 ≤ L) (hL : L ≤ 2048) (hj : j < 4) : vp_in (nI i + nI j) L := by
  rw [nI_add]
  exact vp_in_nI (by omega) (by omega)
/-- from one turn of the law's loop to the next -/
def NX (p : Program) (l : Launch) (e : Env) (s : State) (m : MethodId) (below : List Frame) (meth : Method) (c : Code) (b : Nat) (G : gG) (cJ : ClassId) (xb tx tk pa sl fi mo te re no tr di ke ik ou : Nat) (qs qt : qd) (pg sg : Nat → Option Nat) (Q : Nat → qd) (i cells slots : Nat) : Prop :=
  ∀ (bf tf tc f oh lf ce ft oht lft cet ff mf tt pr pn pt dd kk ki : Nat → Int32) (fo : Nat → Int64) (C : Nat → ct4) (H : Heap) (locs : List Loc) (ls : Array Slot), INV bf tf tc f oh lf ce ff C mf tt pn dd kk ki →
    va_P G.1 vwCl (WF G cJ xb tx tk pa sl fi mo te re no tr di ke ik ou qs qt pg sg bf tf tc f oh lf ce ft oht lft cet ff mf tt pr pn pt dd kk ki fo ++ pw G Q C (List.range 16)) H →
    va_D (fun q : Nat => s.heap.size ≤ q) (WF G cJ xb tx tk pa sl fi mo te re no tr di ke ik ou qs qt pg sg bf tf tc f oh lf ce ft oht lft cet ff mf tt pr pn pt dd kk ki fo ++ pw G Q C (List.range 16)) →
    va_S (fun q : Nat => s.heap.size ≤ q) s.heap H locs → lv_has ls 7 [(0, .ref b), (1, .ref xb), (2, .ref mo), (3, .ref ou), (4, .int (nI i))] →
    W p l e room_1 s m #[Value.ref b] below meth c H locs cells slots (lw_Z below #[Value.ref b] s) (F0 m 1609 ls [])
section LT
variable {p : Program} {l : Launch} {e : Env} {s : State} {m : MethodId} {below : List Frame} {meth : Method} {c : Code} {b L : Nat} {xs : Nat → Int32} {G : gG} {cJ : ClassId}
variable {xb tx tk pa sl fi mo te re no tr di ke ik ou : Nat} {qs qt : qd} {pg sg : Nat → Option Nat} {Q : Nat → qd} {i cells slots : Nat}
variable {bf tf tc f oh lf ce ft oht lft cet ff mf tt pr pn pt dd kk ki : Nat → Int32} {fo : Nat → Int64} {C : Nat → ct4} {H : Heap} {locs : List Loc} {ls : Array Slot}
set_option maxRecDepth 100000 in
set_option maxHeartbeats 4000000 in
/-- a call's two answers are held against each other -/
theorem law_tail (X : LX p l s m meth c G cJ b L xs) (hcs : cells ≤ 601024 ∧ slots ≤ 7293034) {k v : Int32} {pc : Nat} {off : Int}
    (I : INV bf tf tc f oh lf ce ff C mf tt pn dd kk ki) (hk : mf 0 = k) (hv : k = 0 → fo 0 = v.toInt64)
    (hP : va_P G.1 vwCl (WF G cJ xb tx tk pa sl fi mo te re no tr di ke ik ou qs qt pg sg bf tf tc f oh lf ce ft oht lft cet ff mf tt pr pn pt dd kk ki fo ++ pw G Q C (List.range 16)) H) (hD : va_D (fun q : Nat => s.heap.size ≤ q) (WF G cJ xb tx tk pa sl fi mo te re no tr di ke ik ou qs qt pg sg bf tf tc f oh lf ce ft oht lft cet ff mf tt pr pn pt dd kk ki fo ++ pw G Q C (List.range 16))) (hS : va_S (fun q : Nat => s.heap.size ≤ q) s.heap H locs)
    (hl : lv_has ls 7 [(6, .int v), (5, .int k), (0, .ref b), (1, .ref xb), (2, .ref mo), (3, .ref ou), (4, .int (nI i))])
    (d0 : decode cL_law pc = .ok (.aload_n 2, 1)) (d1 : decode cL_law (pc + 1) = .ok (.invokevirtual 100, 3)) (d4 : decode cL_law (pc + 4) = .ok (.iload 5, 2)) (d6 : decode cL_law (pc + 6) = .ok (.if_icmp .eq 5, 3)) (d11 : decode cL_law (pc + 11) = .ok (.iload 5, 2)) (d13 : decode cL_law (pc + 13) = .ok (.ifCond .ne 15, 3)) (d16 : decode cL_law (pc + 16) = .ok (.aload_n 3, 1)) (d17 : decode cL_law (pc + 17) = .ok (.iconst 0, 1)) (d18 : decode cL_law (pc + 18) = .ok (.laload, 1)) (d19 : decode cL_law (pc + 19) = .ok (.iload 6, 2)) (d21 : decode cL_law (pc + 21) = .ok (.i2l, 1)) (d22 : decode cL_law (pc + 22) = .ok (.lcmp, 1)) (d23 : decode cL_law (pc + 23) = .ok (.ifCond .eq 5, 3)) (d28 : decode cL_law (pc + 28) = .ok (.goto off, 3)) (hof : ((pc + 28 : Nat) : Int) + off = 1609)
    (kn : NX p l e s m below meth c b G cJ xb tx tk pa sl fi mo te re no tr di ke ik ou qs qt pg sg Q i cells slots) :
    W p l e room_1 s m #[Value.ref b] below meth c H locs cells slots (lw_Z below #[Value.ref b] s) (F0 m pc ls []) := by
  obtain ⟨hlt, cx, hKJ, hE, hN, hZ, hX, hbl⟩ := X
  obtain ⟨hx, hb, hml, hown, hts, hr, hlocks, hK, hA⟩ := id cx
  refine lv_aload_n hx hb d0 rfl (lv_at hl 4 rfl) ?_
  have hC := c_X4_thrown l G mo te re no tr di ke ik mf
  refine k_i (ws' := WF G cJ xb tx tk pa sl fi mo te re no tr di ke ik ou qs qt pg sg bf tf tc f oh lf ce ft oht lft cet ff mf tt pr pn pt dd kk ki fo ++ pw G Q C (List.range 16)) (as := [mo]) cx hP hD hS [14] rfl (kr_V (n := 0) (As := []) (ci := 4) cx hC gL_law_X4_thrown rfl rfl rfl (by decide +kernel) ⟨Nat.le_of_ble_eq_true rfl, Nat.le_of_ble_eq_true rfl⟩ rfl rfl rfl hP hD [14] rfl rfl rfl rfl hl (Nat.le_of_ble_eq_true rfl) d1 hcs) ⟨rfl, rfl⟩ rfl (fun H locs hP hD hS => ?_)
  refine lv_iload hx hb d4 (lv_at hl 1 rfl) ?_
  have go : ∀ (H : Heap) (locs : List Loc), va_P G.1 vwCl (WF G cJ xb tx tk pa sl fi mo te re no tr di ke ik ou qs qt pg sg bf tf tc f oh lf ce ft oht lft cet ff mf tt pr pn pt dd kk ki fo ++ pw G Q C (List.range 16)) H → va_D (fun q : Nat => s.heap.size ≤ q) (WF G cJ xb tx tk pa sl fi mo te re no tr di ke ik ou qs qt pg sg bf tf tc f oh lf ce ft oht lft cet ff mf tt pr pn pt dd kk ki fo ++ pw G Q C (List.range 16)) → va_S (fun q : Nat => s.heap.size ≤ q) s.heap H locs →
      W p l e room_1 s m #[Value.ref b] below meth c H locs cells slots (lw_Z below #[Value.ref b] s) (F0 m (pc + 28) ls []) := fun H locs hP hD hS => by
    refine lv_goto (tgt := 1609) hx hb d28 (by rw [hof]; rfl) ?_
    exact kn bf tf tc f oh lf ce ft oht lft cet ff mf tt pr pn pt dd kk ki fo C H locs ls I hP hD hS (lv_sub hl [2, 3, 4, 5, 6] rfl)
  refine lv_icmp_eq (tgt := pc + 11) hx hb d6 (by omega) (fun c1 => ?_) (fun c1 => absurd hk c1)
  refine lv_iload hx hb d11 (lv_at hl 1 rfl) ?_
  refine lv_if_ne (tgt := pc + 28) hx hb d13 (by omega) (fun c2 => go H locs hP hD hS) (fun c2 => ?_)
  refine lv_aload_n hx hb d16 rfl (lv_at hl 5 rfl) ?_
  refine lv_iconst (v := 0) hx hb d17 (by decide) ?_
  refine va_lald (cA := cJ) (n := 1) (f := fo) hx hb hKJ hP 22 0 rfl rfl (vp_in_nI (n := 0) (N := 1) (by decide) (by decide)) d18 ?_
  refine lv_iload hx hb d19 (lv_at hl 0 rfl) ?_
  refine lv_i2l hx hb d21 rfl ?_
  refine W.lcmp hx hb d22 ?_
  refine lv_if_eq (tgt := pc + 28) hx hb d23 (by omega) (fun c3 => go H locs hP hD hS) (fun c3 => absurd ?_ c3)
  have e : fo ((0 : Int32).toNatClampNeg) = v.toInt64 := hv c2
  rw [e]
  rcases cmp_3 v.toInt64 v.toInt64 with ⟨q, -⟩ | ⟨-, q⟩ | ⟨q, -⟩
  · exact absurd q (Int64.lt_irrefl)
  · exact q
  · exact absurd q (Int64.lt_irrefl)
end LT
