/-! the law's wrappers: what they ask, how a throw is caught -/
def oJ (cJ : ClassId) (a : Nat) (f : Nat → Int64) : Nat × va_E := (a, .inl (cJ, 1, .inr (.inl f)))
def eN (U : State) : Prop := va_Nc "java/lang/IllegalStateException" "java/lang/IllegalArgumentException" U ∧ va_Nc "java/lang/IllegalStateException" "java/lang/IndexOutOfBoundsException" U
theorem eN.moved {u U : State} (hvm : u.vm.Alike U.vm) (h : eN u) : eN U := ⟨va_Nc.moved hvm h.1, va_Nc.moved hvm h.2⟩
abbrev mL (G : gG) (cJ : ClassId) (av : List Value) (ws : va_W) (sz : Nat) : Array Value → State → Prop := va_Pc av (fun U => U.heap.size = sz ∧ va_P G.1 vwCl ws U.heap ∧ gK G U ∧ va_K G.1 vwCl [(cJ, .long)] U ∧ va_D (fun _ => True) ws ∧ eK U ∧ eN U ∧ eZ (va_A ws sz) U U.heap)
theorem mL_blind {G : gG} {cJ : ClassId} {av : List Value} {ws : va_W} {sz : Nat} : FrameBlind (mL G cJ av ws sz) := fun a U g mk q => by
  obtain ⟨q0, q1, qP, qK, qJ, qD, qE, qN, qZ⟩ := q
  exact ⟨q0, q1, qP, gK.warm (s := U) (U := U.calling g mk a) (State.WarmedH.refl (U : State)) qK, va_K.moved (u := U) (U := U.calling g mk a) (Vm.Alike.refl U.vm) qJ, qD, eK.warm (s := U) (U := U.calling g mk a) (State.WarmedH.refl (U : State)) qE, eN.moved (u := U) (U := U.calling g mk a) (Vm.Alike.refl U.vm) qN, ⟨vx_Zq.moved (u := U) (U := U.calling g mk a) (Vm.Alike.refl U.vm) qZ.1, vx_Zq.moved (u := U) (U := U.calling g mk a) (Vm.Alike.refl U.vm) qZ.2⟩⟩
def kL (l : Launch) (G : gG) (cJ : ClassId) (y : MethodName) (wl : List Cond) (rm : Room) (av : List Value) (ws : va_W) (Qc : (Nat → Prop) → Array Value → State → Outcome → State → Prop) : Prop :=
  ∀ sz, Met l y wl rm (mL G cJ av ws sz) (Qc (va_A ws sz)) 1 6 (va_A ws sz)
def hm (e1 t : Int32) : Int32 := if t = 0 then 0 else if t = e1 then 1 else 2
abbrev qW (G : gG) (k t : Int32) (w1 w0 : va_W) (A : Nat → Prop) : Array Value → State → Outcome → State → Prop := va_Qi (fun r' (_ : Unit) => r' = k) (fun _ t' => va_P G.1 vwCl (if t = 0 then w1 else w0) t'.heap) A
def CtL (s : State) (c : Code) (G : gG) (cJ : ClassId) (A : Nat → Prop) (hh : List (Nat × Nat × Nat × Nat)) : Prop := va_K G.1 vwCl [(cJ, .long)] s ∧ c.exceptionTable.toList = tableOf hh ∧ eK s ∧ eN s ∧ eZ A s s.heap
theorem k_bodyL {l : Launch} {G : gG} {cJ : ClassId} {y : MethodName} {wl wl' : List Cond} {rm : Room} {av : List Value} {ws : va_W} {Qc : (Nat → Prop) → Array Value → State → Outcome → State → Prop} {cc : ByteArray} {nL : Nat} {ret : Option FieldType} {hh : List (Nat × Nat × Nat × Nat)} (hy : plainName y.cls = true) (hw : wl = Cond.codeWith y cc nL ret hh :: wl') (hml : (lg_sl av).length ≤ nL)
    (body : ∀ p e s m args below meth c A, Cx p s m args meth c cc nL y.cls wl ret G A → CtL s c G cJ A hh → va_P G.1 vwCl ws s.heap → va_D A ws → va_S A s.heap s.heap [] → ∀ ls, lv_has ls nL (lv_args 0 av) →
      W p l e rm s m args below meth c s.heap [] 0 0 (MQ below (Qc A) args s 1 6 A) (F0 m 0 ls [])) : kL l G cJ y wl rm av ws Qc := by
  intro sz
  refine va_MetW (cc := cc) (maxL := nL) (ret := ret) (hh := hh) hy hw ?_
  intro p e s m args below meth c s₁ B hml' hv
  obtain ⟨rfl, hsz, hP, hK, hJ, hD0, hE, hN, hZ⟩ := hv
  subst hsz
  have hts := atoms_spec (ws := wl) B.pre
  have hown : s.vm.findClass y.cls = some m.cls := findClass_of_methodNamed B.named
  have htab : c.exceptionTable.toList = tableOf hh := vx_table (x := y) B (hts _ (by rw [hw]; exact List.mem_cons_self))
  have hl := lv_entry av (n := nL) hml
  rw [lg_entry_eq]
  exact body p e s m _ below meth c (va_A ws s.heap.size) ⟨B.exec, B.bytes, hml', hown, hts, B.returns, B.notSynchronized, hK, fun q h => Or.inr h⟩ ⟨hJ, htab, hE, hN, hZ⟩ hP (hD0.self (sz := s.heap.size)) va_S.rf _ hl
section KL
variable {p : Program} {l : Launch} {e : Env} {R : Room} {s : State} {m : MethodId} {args : Array Value} {below : List Frame} {meth : Method} {c : Code} {H : Heap} {locs : List Loc} {cells slots : Nat} {Q : State → Prop}
variable {cc : ByteArray} {nL : Nat} {own : String} {Ts : List Cond} {ret : Option FieldType} {G : gG} {A : Nat → Prop} {pc : Nat} {ls : Array Slot}
theorem eZ.at {wc : va_W} {U : State} (hZ : eZ A s s.heap) (hS : va_S A s.heap H locs) (hF : ∀ q : Nat, va_A wc H.size q → A q) (hU : U.heap = H) (hW : s.WarmedH U.vm) : eZ (va_A wc H.size) U U.heap := by
  rw [hU]
  exact ⟨vx_Zq.moved hW.alike ((hZ.1.kept hS.2.1).narrow hF), vx_Zq.moved hW.alike ((hZ.2.kept hS.2.1).narrow hF)⟩
theorem kr_VX {y : MethodName} {wl wl' : List Cond} {rm : Room} {bytes : ByteArray} {mL n index : Nat} {ret' : Option FieldType} {Qc : (Nat → Prop) → Array Value → State → Outcome → State → Prop} {XC : (Nat → Prop) → String → State → State → Prop} {ws wc : va_W} {b : Nat} {As rest st : List Value} {lv : List (Nat × Value)} {C : String} {ci : Nat} {fs : List Value} {q : vw_C} {wt : va_W}
    (cx : Cx p s m args meth c cc nL own Ts ret G A) (hE : eK s) (hZ : eZ A s s.heap) (hS : va_S A s.heap H locs) (hC : kX l G y wl rm (.ref b :: As) wc Qc XC) (hT : GoodIn Ts (wsV own index C y wl)) (hw : wl = Cond.code y bytes mL ret' :: wl') (hrc : rm.cells = 1) (hrs : rm.slots = 6)
    (hd : y.cls = C ∧ y.cls ≠ "java/lang/invoke/MethodHandle" ∧ y.cls ≠ "java/lang/invoke/VarHandle" ∧ (parseMethodDescriptor y.desc).map (fun d => d.parameters.length) = some n) (hR : rm.frames + 1 ≤ R.frames ∧ 8 + (mL + 11) + rm.locals ≤ R.locals)
    (hc : vwCl[ci]? = some q) (hq : q.1 = C) (he : wc = (b, .inr (ci, fs)) :: wt) (hP : va_P G.1 vwCl ws H) (hD : va_D A ws) (is : List Nat) (hn : va_nd is = true) (hCc : is.map (fun i => ws[i]?) = wc.map some)
    (hst : st = As.reverse ++ .ref b :: rest) (hAs : As.length = n) (hsize : lv_has ls nL lv) (hroom : (rest.map fun v => v.category).sum ≤ 8) (hdg : decode cc pc = .ok (.invokevirtual index, 3)) (hf : cells + 1 ≤ R.cells ∧ slots + 6 ≤ R.slots) :
    vx_Run p l e R s m args below meth c H locs cells slots 1 6 (F0 m pc ls st) rest (Qc (va_A wc H.size) (Value.ref b :: As).toArray) (XC (va_A wc H.size)) (va_A wc H.size) := by
  obtain ⟨hx, hb, hml, hown, hts, hr, hlocks, hK, hA⟩ := cx
  have hPc := k_pick hP hCc
  have hDc := hD.sub is hn hCc
  have hFc := k_free hD hS hA hCc
  subst hst
  subst hq
  exact vx_runV (As := As) (rest := rest) ⟨hx, hb, hml, hown, hts⟩ (hC H.size) (cwV n hts hT hw hrc hrs hd hR) ⟨mX_blind, va_recv hK.1 hPc hc (q0 := 0) (by rw [he]; rfl), fun U hU hW => ⟨rfl, by rw [hU], by rw [hU]; exact hPc, gK.warm hW hK, hDc.weaken (fun _ _ _ _ => trivial), eK.warm hW hE, hZ.at hS hFc hU hW⟩⟩ rfl hAs hsize.1 rfl (lv_room hroom) hdg hf
theorem k_iX {t r : Int32} {ws wc w1 ws' : va_W} {a : Array Value} {as : List Nat} {st rest : List Value} (cx : Cx p s m args meth c cc nL own Ts ret G A) (hP : va_P G.1 vwCl ws H) (hD : va_D A ws) (hS : va_S A s.heap H locs) (is : List Nat) (hCc : is.map (fun i => ws[i]?) = wc.map some)
    (hr : vx_Run p l e R s m args below meth c H locs cells slots 1 6 (F0 m pc ls st) rest (qX G t r w1 (va_A wc H.size) a) (xX G t wc (va_A wc H.size)) (va_A wc H.size)) (hf : w1.map (·.1) = as ∧ wc.map (·.1) = as) (hw : kRep ws is w1 = ws') (hw0 : kRep ws is wc = ws)
    (kx : ∀ (E : String) (ce : Cell) (q9 : Addr) (H1 : Heap) (locs1 : List Loc), eX t = some E → va_P G.1 vwCl ws H1 → va_D A ws → va_S A s.heap H1 locs1 → H1[q9]? = some ce → ce.vm = .none → s.vm.findClass E = some ce.cls → vx_W p l e R s m args below meth c H1 locs1 (cells + 1) (slots + 6) Q (F0 m pc ls rest) q9)
    (kk : ∀ (H1 : Heap) (locs1 : List Loc), t = 0 → va_P G.1 vwCl ws' H1 → va_D A ws' → va_S A s.heap H1 locs1 → W p l e R s m args below meth c H1 locs1 (cells + 1) (slots + 6) Q (F0 m (pc + 3) ls (.int r :: rest))) : W p l e R s m args below meth c H locs cells slots Q (F0 m pc ls st) := by
  have hFc := k_free hD hS cx.2.2.2.2.2.2.2.2 hCc
  refine vx_calli hr hS (fun q _ h => hFc q h) hFc (fun q _ h => hFc q h) (fun E ce q9 u t' H1 locs1 ht hvm hpo hB hz hk hS1 hce hcv hcl => ?_) (fun r' u t' H1 locs1 ht hvm hpo hB hz hk hS1 => ?_)
  · obtain ⟨hB1, hB⟩ := hB
    rw [ht] at hB
    obtain ⟨h1, h2⟩ := k_rep hP hD is hCc (hf.2.trans hf.2.symm) hk hB
    rw [hw0] at h1 h2
    exact kx E ce q9 H1 locs1 hB1 h1 h2 hS1 hce hcv hcl
  · obtain ⟨h0, rfl⟩ := hpo
    rw [ht] at hB
    obtain ⟨h1, h2⟩ := k_rep hP hD is hCc (hf.1.trans hf.2.symm) hk hB
    rw [hw] at h1 h2
    exact kk H1 locs1 h0 h1 h2 hS1
theorem k_last {ws ws' : va_W} {cJ : ClassId} {b n : Nat} {f : Nat → Int64} {i : Int32} {x : Int64} {rest : List Value} (cx : Cx p s m args meth c cc nL own Ts ret G A) (hKJ : va_K G.1 vwCl [(cJ, .long)] s) (hP : va_P G.1 vwCl ws H) (hD : va_D A ws) (hS : va_S A s.heap H locs) (q0 : Nat) (he : ws[q0]? = some (b, .inl (cJ, n, .inr (.inl f)))) (hi : vp_in i n) (hw : ws.set q0 (b, .inl (cJ, n, .inr (.inl (vp_updL f i.toNatClampNeg x)))) = ws') (hdg : decode cc pc = .ok (.lastore, 1))
    (kk : ∀ (H1 : Heap) (locs1 : List Loc), va_P G.1 vwCl ws' H1 → va_D A ws' → va_S A s.heap H1 locs1 → W p l e R s m args below meth c H1 locs1 cells slots Q (F0 m (pc + 1) ls rest)) : W p l e R s m args below meth c H locs cells slots Q (F0 m pc ls (.long x :: .int i :: .ref b :: rest)) := by
  obtain ⟨hx, hb, hml, hown, hts, hr, hlocks, hK, hA⟩ := cx
  subst hw
  exact va_last hx hb hKJ hP hD hS q0 0 he rfl hi hdg kk
theorem k_iretW {v k t : Int32} {w1 w0 wf : va_W} (cx : Cx p s m args meth c cc nL own Ts (some .int) G A) (hk : v = k) (hw : wf = if t = 0 then w1 else w0) (hP : va_P G.1 vwCl wf H) (hS : va_S A s.heap H locs) (hdg : decode cc pc = .ok (.ireturn, 1)) :
    W p l e R s m args below meth c H locs cells slots (MQ below (qW G k t w1 w0 A) args s cells slots A) (F0 m pc ls [.int v]) := by
  obtain ⟨hx, hb, hml, hown, hts, hr, hlocks, hK, hA⟩ := cx
  exact W.iret (v := v) hx hb hr (fun t' ht hW => ⟨⟨v, (), rfl, hk, by show va_P G.1 vwCl (if t = 0 then w1 else w0) t'.heap; rw [ht, ← hw]; exact hP⟩, hS.F ht⟩) hS.2.2 hdg
end KL
