/-! the law's wrappers: what they ask, how a throw is caught -/
def eN (U : State) : Prop := va_Nc "java/lang/IllegalStateException" "java/lang/IllegalArgumentException" U ∧ va_Nc "java/lang/IllegalStateException" "java/lang/IndexOutOfBoundsException" U
theorem eN.moved {u U : State} (hvm : u.vm.Alike U.vm) (h : eN u) : eN U := ⟨va_Nc.moved hvm h.1, va_Nc.moved hvm h.2⟩
abbrev mL (G : gG) (av : List Value) (ws : va_W) (sz : Nat) : Array Value → State → Prop := va_Pc av (fun U => U.heap.size = sz ∧ va_P G.1 vwCl ws U.heap ∧ gK G U ∧ va_D (fun _ => True) ws ∧ eK U ∧ eN U ∧ eZ (va_A ws sz) U U.heap)
theorem mL_blind {G : gG} {av : List Value} {ws : va_W} {sz : Nat} : FrameBlind (mL G av ws sz) := fun a U g mk q => by
  obtain ⟨q0, q1, qP, qK, qD, qE, qN, qZ⟩ := q
  exact ⟨q0, q1, qP, gK.warm (s := U) (U := U.calling g mk a) (State.WarmedH.refl (U : State)) qK, qD, eK.warm (s := U) (U := U.calling g mk a) (State.WarmedH.refl (U : State)) qE, eN.moved (u := U) (U := U.calling g mk a) (Vm.Alike.refl U.vm) qN, ⟨vx_Zq.moved (u := U) (U := U.calling g mk a) (Vm.Alike.refl U.vm) qZ.1, vx_Zq.moved (u := U) (U := U.calling g mk a) (Vm.Alike.refl U.vm) qZ.2⟩⟩
def kL (l : Launch) (G : gG) (y : MethodName) (wl : List Cond) (rm : Room) (av : List Value) (ws : va_W) (Qc : (Nat → Prop) → Array Value → State → Outcome → State → Prop) : Prop :=
  ∀ sz, Met l y wl rm (mL G av ws sz) (Qc (va_A ws sz)) 1 6 (va_A ws sz)
abbrev qW (G : gG) (k t : Int32) (w1 w0 : va_W) (A : Nat → Prop) : Array Value → State → Outcome → State → Prop := va_Qi (fun r' (_ : Unit) => r' = k) (fun _ t' => va_P G.1 vwCl (if t = 0 then w1 else w0) t'.heap) A
def CtL (s : State) (c : Code) (A : Nat → Prop) (hh : List (Nat × Nat × Nat × Nat)) : Prop := c.exceptionTable.toList = tableOf hh ∧ eK s ∧ eN s ∧ eZ A s s.heap
theorem k_bodyL {l : Launch} {G : gG} {y : MethodName} {wl wl' : List Cond} {rm : Room} {av : List Value} {ws : va_W} {Qc : (Nat → Prop) → Array Value → State → Outcome → State → Prop} {cc : ByteArray} {nL : Nat} {ret : Option FieldType} {hh : List (Nat × Nat × Nat × Nat)} (hy : plainName y.cls = true) (hw : wl = Cond.codeWith y cc nL ret hh :: wl') (hml : (lg_sl av).length ≤ nL)
    (body : ∀ p e s m args below meth c A, Cx p s m args meth c cc nL y.cls wl ret G A → CtL s c A hh → va_P G.1 vwCl ws s.heap → va_D A ws → va_S A s.heap s.heap [] → ∀ ls, lv_has ls nL (lv_args 0 av) →
      W p l e rm s m args below meth c s.heap [] 0 0 (MQ below (Qc A) args s 1 6 A) (F0 m 0 ls [])) : kL l G y wl rm av ws Qc := by
  intro sz
  refine va_MetW (cc := cc) (maxL := nL) (ret := ret) (hh := hh) hy hw ?_
  intro p e s m args below meth c s₁ B hml' hv
  obtain ⟨rfl, hsz, hP, hK, hD0, hE, hN, hZ⟩ := hv
  subst hsz
  have hts := atoms_spec (ws := wl) B.pre
  have hown : s.vm.findClass y.cls = some m.cls := findClass_of_methodNamed B.named
  have htab : c.exceptionTable.toList = tableOf hh := vx_table (x := y) B (hts _ (by rw [hw]; exact List.mem_cons_self))
  have hl := lv_entry av (n := nL) hml
  rw [lg_entry_eq]
  exact body p e s m _ below meth c (va_A ws s.heap.size) ⟨B.exec, B.bytes, hml', hown, hts, B.returns, B.notSynchronized, hK, fun q h => Or.inr h⟩ ⟨htab, hE, hN, hZ⟩ hP (hD0.self (sz := s.heap.size)) va_S.rf _ hl
section KL
variable {p : Program} {l : Launch} {e : Env} {R : Room} {s : State} {m : MethodId} {args : Array Value} {below : List Frame} {meth : Method} {c : Code} {H : Heap} {locs : List Loc} {cells slots : Nat} {Q : State → Prop}
variable {cc : ByteArray} {nL : Nat} {own : String} {Ts : List Cond} {ret : Option FieldType} {G : gG} {A : Nat → Prop} {pc : Nat} {ls : Array Slot}
theorem eZ.at {wc : va_W} {U : State} (hZ : eZ A s s.heap) (hS : va_S A s.heap H locs) (hF : ∀ q : Nat, va_A wc H.size q → A q) (hU : U.heap = H) (hW : s.WarmedH U.vm) : eZ (va_A wc H.size) U U.heap := by
  rw [hU]
  exact ⟨vx_Zq.moved hW.alike ((hZ.1.kept hS.2.1).narrow hF), vx_Zq.moved hW.alike ((hZ.2.kept hS.2.1).narrow hF)⟩
theorem kr_VX {y : MethodName} {wl wl' : List Cond} {rm : Room} {bytes : ByteArray} {mL n index : Nat} {ret' : Option FieldType} {Qc : (Nat → Prop) → Array Value → State → Outcome → State → Prop} {XC : (Nat → Prop) → String → State → State → Prop} {ws wc : va_W} {b : Nat} {As rest st : List Value} {lv : List (Nat × Value)} {C : String} {ci : Nat} {fs : List Value} {q : vw_C} {wt : va_W}
    (cx : Cx p s m args meth c cc nL own Ts ret G A) (hE : eK s) (hZ : eZ A s s.heap) (hS : va_S A s.heap H locs) (hC : kX l G y wl rm (.ref b :: As) wc Qc XC) (hT : GoodIn Ts (wsV own index C y wl)) (hw : wl = Cond.code y bytes mL ret' :: wl') (hrc : rm.cells = 1) (hrs : rm.slots = 6)
    (hd : y.cls = C ∧ y.cls ≠ "java/lang/invoke/MethodHandle" ∧ y.cls ≠ "java/lang/invoke/VarHandle" ∧ (parseMethodDescriptor y.desc).map (fun d => d.parameters.length) = some n) (hR : rm.frames + 1 ≤ R.frames ∧ 8 + (mL + 11) + rm.locals ≤ R.locals)
    (hc : vwCl[ci]? = some q) (hq : q.1 = C) (he : wc = (b, .inr (ci, fs)) :: wt) (hP : va_P G.1 vwCl ws H) (hD : va_D A ws) (is : List Nat) (hn : va_nd is = true) (hCc : is.map (fun i => ws[i]?) = wc.map some)
    (hst : st = As.reverse ++ .ref b :: rest) (hAs : As.length = n) (hsize : lv_has ls nL lv) (hroom : (rest.map fun v => v.category).sum ≤ 8) (hdg : decode cc pc = .ok (.invokevirtual index, 3)) (hf : cells + 1 ≤ R.cells ∧ slots + 6 ≤ R.slots) :
    vx_Run p l e R s m args below meth c H locs cells slots 1 6 (F0 m pc ls st) rest (Qc (va_A wc H.size) (Value.ref b :: As).toArray) (XC (va_A wc H.size)) (va_A wc H.size) := by
  obtain ⟨hx, hb, hml, hown, hts, hr, hlocks, hK, hA⟩ := cx
  have hPc := k_pick hP hCc
  have hDc := hD.sub is hn hCc
  have hFc := k_free hD hS hA hCc
  subst hst
  subst hq
  exact vx_runV (As := As) (rest := rest) ⟨hx, hb, hml, hown, hts⟩ (hC H.size) (cwV n hts hT hw hrc hrs hd hR) ⟨mX_blind, va_recv hK.1 hPc hc (q0 := 0) (by rw [he]; rfl), fun U hU hW => ⟨rfl, by rw [hU], by rw [hU]; exact hPc, gK.warm hW hK, hDc.weaken (fun _ _ _ _ => trivial), eK.warm hW hE, hZ.at hS hFc hU hW⟩⟩ rfl hAs hsize.1 rfl (lv_room hroom) hdg hf
theorem k_iX {t r : Int32} {ws wc w1 ws' : va_W} {a : Array Value} {as : List Nat} {st rest : List Value} (cx : Cx p s m args meth c cc nL own Ts ret G A) (hP : va_P G.1 vwCl ws H) (hD : va_D A ws) (hS : va_S A s.heap H locs) (is : List Nat) (hCc : is.map (fun i => ws[i]?) = wc.map some)
    (hr : vx_Run p l e R s m args below meth c H locs cells slots 1 6 (F0 m pc ls st) rest (qX G t r w1 (va_A wc H.size) a) (xX G t wc (va_A wc H.size)) (va_A wc H.size)) (hf : w1.map (·.1) = as ∧ wc.map (·.1) = as) (hw : kRep ws is w1 = ws') (hw0 : kRep ws is wc = ws)
    (kx : ∀ (E : String) (ce : Cell) (q9 : Addr) (H1 : Heap) (locs1 : List Loc), eX t = some E → va_P G.1 vwCl ws H1 → va_D A ws → va_S A s.heap H1 locs1 → H1[q9]? = some ce → ce.vm = .none → s.vm.findClass E = some ce.cls → vx_W p l e R s m args below meth c H1 locs1 (cells + 1) (slots + 6) Q (F0 m pc ls rest) q9)
    (kk : ∀ (H1 : Heap) (locs1 : List Loc), t = 0 → va_P G.1 vwCl ws' H1 → va_D A ws' → va_S A s.heap H1 locs1 → W p l e R s m args below meth c H1 locs1 (cells + 1) (slots + 6) Q (F0 m (pc + 3) ls (.int r :: rest))) : W p l e R s m args below meth c H locs cells slots Q (F0 m pc ls st) := by
  have hFc := k_free hD hS cx.2.2.2.2.2.2.2.2 hCc
  refine vx_calli hr hS (fun q _ h => hFc q h) hFc (fun q _ h => hFc q h) (fun E ce q9 u t' H1 locs1 ht hvm hpo hB hz hk hS1 hce hcv hcl => ?_) (fun r' u t' H1 locs1 ht hvm hpo hB hz hk hS1 => ?_)
  · obtain ⟨hB1, hB⟩ := hB
    rw [ht] at hB
    obtain ⟨h1, h2⟩ := k_rep hP hD is hCc (hf.2.trans hf.2.symm) hk hB
    rw [hw0] at h1 h2
    exact kx E ce q9 H1 locs1 hB1 h1 h2 hS1 hce hcv hcl
  · obtain ⟨h0, rfl⟩ := hpo
    rw [ht] at hB
    obtain ⟨h1, h2⟩ := k_rep hP hD is hCc (hf.1.trans hf.2.symm) hk hB
    rw [hw] at h1 h2
    exact kk H1 locs1 h0 h1 h2 hS1
theorem k_iretW {v k t : Int32} {w1 w0 wf : va_W} (cx : Cx p s m args meth c cc nL own Ts (some .int) G A) (hk : v = k) (hw : wf = if t = 0 then w1 else w0) (hP : va_P G.1 vwCl wf H) (hS : va_S A s.heap H locs) (hdg : decode cc pc = .ok (.ireturn, 1)) :
    W p l e R s m args below meth c H locs cells slots (MQ below (qW G k t w1 w0 A) args s cells slots A) (F0 m pc ls [.int v]) := by
  obtain ⟨hx, hb, hml, hown, hts, hr, hlocks, hK, hA⟩ := cx
  exact W.iret (v := v) hx hb hr (fun t' ht hW => ⟨⟨v, (), rfl, hk, by show va_P G.1 vwCl (if t = 0 then w1 else w0) t'.heap; rw [ht, ← hw]; exact hP⟩, hS.F ht⟩) hS.2.2 hdg
end KL
theorem kP_iff {D : va_G} {cl : List vw_C} {ws : va_W} {H : Heap} : va_P D cl ws H ↔ ∀ q ∈ ws, va_at D cl q H :=
  ⟨fun h q hq => by
    obtain ⟨k, hk⟩ := List.getElem?_of_mem hq
    exact h k q hk, fun h k q hk => h q (List.mem_of_getElem? hk)⟩
theorem kD_iff {A : Nat → Prop} {ws : va_W} : va_D A ws ↔ (ws.map (·.1)).Nodup ∧ ∀ q ∈ ws, A q.1 := by
  constructor
  · rintro ⟨h1, h2⟩
    refine ⟨?_, fun q hq => ?_⟩
    · rw [List.nodup_iff_pairwise_ne, List.pairwise_iff_getElem]
      intro i j hi hj hij e
      rw [List.length_map] at hi hj
      rw [List.getElem_map, List.getElem_map] at e
      have := h1 i j ws[i] ws[j] (List.getElem?_eq_getElem hi) (List.getElem?_eq_getElem hj) e
      omega
    · obtain ⟨k, hk⟩ := List.getElem?_of_mem hq
      exact h2 k q hk
  · rintro ⟨h1, h2⟩
    refine ⟨fun i j p q hp hq e => ?_, fun k q hk => h2 q (List.mem_of_getElem? hk)⟩
    have hi := (List.getElem?_eq_some_iff.mp hp).1
    refine (List.getElem?_inj (l := ws.map (·.1)) (by rw [List.length_map]; exact hi) h1).mp ?_
    rw [List.getElem?_map, List.getElem?_map, hp, hq]
    exact congrArg some e
theorem kP_perm {D : va_G} {cl : List vw_C} {w1 w2 : va_W} {H : Heap} (hp : w1.Perm w2) (h : va_P D cl w1 H) : va_P D cl w2 H :=
  kP_iff.mpr (fun q hq => kP_iff.mp h q (hp.mem_iff.mpr hq))
theorem kD_perm {A : Nat → Prop} {w1 w2 : va_W} (hp : w1.Perm w2) (h : va_D A w1) : va_D A w2 := by
  obtain ⟨h1, h2⟩ := kD_iff.mp h
  exact kD_iff.mpr ⟨(hp.map (·.1)).nodup_iff.mp h1, fun q hq => h2 q (hp.mem_iff.mpr hq)⟩
def pw (G : gG) (Q : Nat → qd) (C : Nat → ct4) (ks : List Nat) : va_W := ks.flatMap (fun k => bun G (Q k) (C k).1 (C k).2.1 (C k).2.2.1 (C k).2.2.2)
def pr16 (k : Nat) : List Nat := (List.range 16).erase k
theorem pw_out {G : gG} {Q : Nat → qd} {C : Nat → ct4} {k : Nat} (hk : k < 16) (fx : va_W) : (fx ++ pw G Q C (List.range 16)).Perm (fx ++ (bun G (Q k) (C k).1 (C k).2.1 (C k).2.2.1 (C k).2.2.2 ++ pw G Q C (pr16 k))) := by
  refine List.Perm.append_left fx ?_
  have h := (List.perm_cons_erase (List.mem_range.mpr hk)).flatMap_right (fun k => bun G (Q k) (C k).1 (C k).2.1 (C k).2.2.1 (C k).2.2.2)
  rw [List.flatMap_cons] at h
  exact h
theorem pw_upd {G : gG} {Q : Nat → qd} {C : Nat → ct4} {k : Nat} {x : ct4} : pw G Q (updC C k x) (pr16 k) = pw G Q C (pr16 k) := by
  unfold pw
  rw [List.flatMap_def, List.flatMap_def]
  refine congrArg List.flatten (List.map_congr_left (fun j hj => ?_))
  have : j ≠ k := ((List.nodup_range).mem_erase_iff.mp hj).1
  rw [updC_o this]
theorem pw_in {G : gG} {Q : Nat → qd} {C : Nat → ct4} {k : Nat} (hk : k < 16) (fx : va_W) (x1 x2 x3 x4 : Nat → Int32) : (fx ++ (bun G (Q k) x1 x2 x3 x4 ++ pw G Q C (pr16 k))).Perm (fx ++ pw G Q (updC C k (x1, x2, x3, x4)) (List.range 16)) := by
  have h := (pw_out (G := G) (Q := Q) (C := updC C k (x1, x2, x3, x4)) hk fx).symm
  rw [updC_me, pw_upd] at h
  exact h
/-- the addresses of the states in the class's two rows -/
def PQ (Q : Nat → qd) (pg sg : Nat → Option Nat) : Prop := (∀ k : Nat, k < 14 → pg k = some (Q k).1) ∧ ∀ k : Nat, k < 2 → sg k = some (Q (14 + k)).1
theorem ent_i {n : Nat} {pg : Nat → Option Nat} {i : Int32} {k : Nat} (hi : i.toInt = k) (hk : k < n) (hn : n < 2147483648) : P_X3_entry n pg i = pg k := by
  unfold P_X3_entry
  have z : (0 : Int32).toInt = 0 := by decide
  have zn : (Int32.ofNat n).toInt = n := nI_toInt hn
  have e : i.toNatClampNeg = k := by show i.toInt.toNat = k; omega
  show (if i < 0 then none else (if Int32.ofNat n ≤ i then none else pg i.toNatClampNeg)) = pg k
  rw [if_neg (by rw [Int32.lt_iff_toInt_lt]; omega), if_neg (by rw [Int32.le_iff_toInt_le]; omega), e]
section KLW
variable {p : Program} {l : Launch} {e : Env} {R : Room} {s : State} {m : MethodId} {args : Array Value} {below : List Frame} {meth : Method} {c : Code} {H : Heap} {locs : List Loc} {cells slots : Nat} {Q : State → Prop}
variable {cc : ByteArray} {nL : Nat} {own : String} {Ts : List Cond} {ret' : Option FieldType} {G : gG} {A : Nat → Prop} {pc : Nat} {ls : Array Slot}
theorem kr_SL {y : MethodName} {wl wl' : List Cond} {rm : Room} {bytes : ByteArray} {mL' n index : Nat} {ret2 : Option FieldType} {hh : List (Nat × Nat × Nat × Nat)} {Qc : (Nat → Prop) → Array Value → State → Outcome → State → Prop} {ws wc : va_W} {As rest st : List Value} {lv : List (Nat × Value)}
    (cx : Cx p s m args meth c cc nL own Ts ret' G A) (hE : eK s) (hN : eN s) (hZ : eZ A s s.heap) (hS : va_S A s.heap H locs) (hC : kL l G y wl rm As wc Qc) (hT : GoodIn Ts (va_wsS own index y wl)) (hw : wl = Cond.codeWith y bytes mL' ret2 hh :: wl') (hrc : rm.cells = 1) (hrs : rm.slots = 6)
    (hd : y.cls ≠ "java/lang/invoke/MethodHandle" ∧ y.cls ≠ "java/lang/invoke/VarHandle" ∧ (parseMethodDescriptor y.desc).map (fun d => d.parameters.length) = some n) (hR : rm.frames + 1 ≤ R.frames ∧ 8 + (mL' + 11) + rm.locals ≤ R.locals)
    (hP : va_P G.1 vwCl ws H) (hD : va_D A ws) (is : List Nat) (hn : va_nd is = true) (hCc : is.map (fun i => ws[i]?) = wc.map some)
    (hst : st = As.reverse ++ rest) (hAs : As.length = n) (hsize : lv_has ls nL lv) (hroom : (rest.map fun v => v.category).sum ≤ 8) (hdg : decode cc pc = .ok (.invokestatic index, 3)) (hf : cells + 1 ≤ R.cells ∧ slots + 6 ≤ R.slots) :
    va_Run p l e R s m args below meth c H locs cells slots 1 6 (F0 m pc ls st) rest (Qc (va_A wc H.size) As.toArray) (va_A wc H.size) := by
  obtain ⟨hx, hb, hml, hown, hts, hr, hlocks, hK, hA⟩ := cx
  have hPc := k_pick hP hCc
  have hDc := hD.sub is hn hCc
  have hFc := k_free hD hS hA hCc
  subst hst
  exact vx_runSW (As := As) (rest := rest) ⟨hx, hb, hml, hown, hts⟩ (hC H.size) (vx_cwSW n hts hT hw hrc hrs hd hR) ⟨mL_blind, fun U hU hW => ⟨rfl, by rw [hU], by rw [hU]; exact hPc, gK.warm hW hK, hDc.weaken (fun _ _ _ _ => trivial), eK.warm hW hE, eN.moved hW.alike hN, hZ.at hS hFc hU hW⟩⟩ rfl hAs hsize.1 rfl (lv_room hroom) hdg hf
theorem k_iW {k t : Int32} {ws wc w1 ws' : va_W} {a : Array Value} {as : List Nat} {st rest : List Value} (cx : Cx p s m args meth c cc nL own Ts ret' G A) (hP : va_P G.1 vwCl ws H) (hD : va_D A ws) (hS : va_S A s.heap H locs) (is : List Nat) (hCc : is.map (fun i => ws[i]?) = wc.map some)
    (hr : va_Run p l e R s m args below meth c H locs cells slots 1 6 (F0 m pc ls st) rest (qW G k t w1 wc (va_A wc H.size) a) (va_A wc H.size)) (hf : w1.map (·.1) = as ∧ wc.map (·.1) = as) (hw : kRep ws is w1 = ws') (hw0 : kRep ws is wc = ws)
    (kk : ∀ (H1 : Heap) (locs1 : List Loc) (wx : va_W), ((t = 0 ∧ wx = ws') ∨ (¬ t = 0 ∧ wx = ws)) → va_P G.1 vwCl wx H1 → va_D A wx → va_S A s.heap H1 locs1 → W p l e R s m args below meth c H1 locs1 (cells + 1) (slots + 6) Q (F0 m (pc + 3) ls (.int k :: rest))) : W p l e R s m args below meth c H locs cells slots Q (F0 m pc ls st) := by
  have hFc := k_free hD hS cx.2.2.2.2.2.2.2.2 hCc
  refine va_calli hr hS (fun q _ h => hFc q h) hFc (fun r' u t' H1 locs1 ht hvm hpo hB hz hk hS1 => ?_)
  cases hpo
  rw [ht] at hB
  by_cases h0 : t = 0
  · have hB : va_P G.1 vwCl w1 H1 := by rw [if_pos h0] at hB; exact hB
    obtain ⟨h1, h2⟩ := k_rep hP hD is hCc (hf.1.trans hf.2.symm) hk hB
    rw [hw] at h1 h2
    exact kk H1 locs1 ws' (Or.inl ⟨h0, rfl⟩) h1 h2 hS1
  · have hB : va_P G.1 vwCl wc H1 := by rw [if_neg h0] at hB; exact hB
    obtain ⟨h1, h2⟩ := k_rep hP hD is hCc (hf.2.trans hf.2.symm) hk hB
    rw [hw0] at h1 h2
    exact kk H1 locs1 ws (Or.inr ⟨h0, rfl⟩) h1 h2 hS1
end KLW
theorem slot_k {Q : Nat → qd} {pg sg : Nat → Option Nat} (HQ : PQ Q pg sg) (x : Int32) : ∃ kx : Nat, kx < 16 ∧ (P_X3_outside x 0 1 = 0 → kx = 14 + x.toInt.toNat) ∧ (P_X3_outside x 0 1 = 0 → P_X3_entry 2 sg x = some (Q kx).1) := by
  by_cases c : P_X3_outside x 0 1 = 0
  · have h := out_i c
    have z0 : (0 : Int32).toInt = 0 := by decide
    have z1 : (1 : Int32).toInt = 1 := by decide
    have h2 : x.toInt.toNat < 2 := by omega
    exact ⟨14 + x.toInt.toNat, by omega, fun _ => rfl, fun _ => (ent_i (k := x.toInt.toNat) (by omega) h2 (by decide)).trans (HQ.2 _ h2)⟩
  · exact ⟨0, by decide, fun q => absurd q c, fun q => absurd q c⟩
def rz (t r : Int32) : Int32 := if t = 0 then r else if t = 1 then (-999900002) else if t = 2 then (-999900003) else (-999900001)
section KLD
variable {p : Program} {l : Launch} {e : Env} {R : Room} {s : State} {m : MethodId} {args : Array Value} {below : List Frame} {meth : Method} {c : Code} {H : Heap} {locs : List Loc} {cells slots : Nat} {Q : State → Prop}
variable {cc : ByteArray} {nL : Nat} {own : String} {Ts : List Cond} {ret : Option FieldType} {G : gG} {A : Nat → Prop} {pc : Nat} {ls : Array Slot} {rest : List Value}
theorem k_ldc {index : Nat} {v : Int32} (cx : Cx p s m args meth c cc nL own Ts ret G A) (h1 : Cond.constant own index v ∈ Ts) (hdg : decode cc pc = .ok (.ldc index, 2)) (kk : W p l e R s m args below meth c H locs cells slots Q (F0 m (pc + 2) ls (.int v :: rest))) : W p l e R s m args below meth c H locs cells slots Q (F0 m pc ls rest) := by
  obtain ⟨hx, hb, hml, hown, hts, hr, hlocks, hK, hA⟩ := cx
  exact lv_ldc hx hb hown (hts _ h1) hdg kk
theorem k_ldcw {index : Nat} {v : Int32} (cx : Cx p s m args meth c cc nL own Ts ret G A) (h1 : Cond.constant own index v ∈ Ts) (hdg : decode cc pc = .ok (.ldc_w index, 3)) (kk : W p l e R s m args below meth c H locs cells slots Q (F0 m (pc + 3) ls (.int v :: rest))) : W p l e R s m args below meth c H locs cells slots Q (F0 m pc ls rest) := by
  obtain ⟨hx, hb, hml, hown, hts, hr, hlocks, hK, hA⟩ := cx
  exact lv_ldcw hx hb hown (hts _ h1) hdg kk
end KLD
