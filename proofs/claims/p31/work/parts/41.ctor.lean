/-! constructors: what they ask, what they leave -/
def kN (l : Launch) (G : gG) (y : MethodName) (wl : List Cond) (rm : Room) (mc ms a : Nat) (e0 : va_E) {U : Type} (po : U → Prop) (wf : U → va_W) : Prop :=
  ∀ sz, Met l y wl rm (va_Pc [.ref a] (fun S => S.heap.size = sz ∧ va_P G.1 vwCl [(a, e0)] S.heap ∧ gK G S ∧ va_D (fun _ => True) [(a, e0)] ∧ va_AO RX1 S)) (va_Qv po (fun u t => va_P G.1 vwCl (wf u) t.heap ∧ va_D (va_A [(a, e0)] sz) (wf u)) (va_A [(a, e0)] sz)) mc ms (va_A [(a, e0)] sz)
theorem k_joinL {A : Nat → Prop} {D : va_G} {cl : List vw_C} {ws wc w1 : va_W} {H H1 : Heap} (hP : va_P D cl (ws ++ wc) H) (hD : va_D A (ws ++ wc)) (hk : ∀ q : Nat, q < H.size → ¬ va_A wc H.size q → H1[q]? = H[q]?) (hF : ∀ q : Nat, va_A wc H.size q → A q) (hP1 : va_P D cl w1 H1) (hD1 : va_D (va_A wc H.size) w1) :
    va_P D cl (ws ++ w1) H1 ∧ va_D A (ws ++ w1) := by
  have at1 : ∀ (k : Nat) (q : Nat × va_E), ws[k]? = some q → (ws ++ wc)[k]? = some q := fun k q h => by
    rw [List.getElem?_append_left (List.getElem?_eq_some_iff.mp h).1]; exact h
  have nA : ∀ (k : Nat) (q : Nat × va_E), ws[k]? = some q → ¬ va_A wc H.size q.1 := by
    rintro k q h (⟨j, e, h3⟩ | h3)
    · have h4 : (ws ++ wc)[ws.length + j]? = some (q.1, e) := by
        rw [List.getElem?_append_right (Nat.le_add_right _ _), Nat.add_sub_cancel_left]; exact h3
      have h5 := hD.1 k (ws.length + j) q (q.1, e) (at1 k q h) h4 rfl
      have h6 := (List.getElem?_eq_some_iff.mp h).1
      omega
    · have := (hP k q (at1 k q h)).lt
      omega
  refine ⟨va_P.app (fun k q h => (hP k q (at1 k q h)).kept (hk q.1 ((hP k q (at1 k q h)).lt) (nA k q h))) hP1, va_D.app ⟨fun i j p q hp hq h => hD.1 i j p q (at1 i p hp) (at1 j q hq) h, fun k q h => hD.2 k q (at1 k q h)⟩ ⟨hD1.1, fun k q h => hF _ (hD1.2 k q h)⟩ (fun i j p q hp hq h => ?_)⟩
  exact nA i p hp (by rw [h]; exact hD1.2 j q hq)
theorem kA_uni {D : va_G} {cl : List vw_C} {t1 t2 : List (ClassId × FieldType)} {s : State} {k j : Nat} {c1 c2 : ClassId} {ty : FieldType} (h1 : va_K D cl t1 s) (h2 : va_K D cl t2 s) (e1 : t1[k]? = some (c1, ty)) (e2 : t2[j]? = some (c2, ty)) : c1 = c2 := by
  have r1 := (h1.2 k _ e1).2
  have r2 := (h2.2 j _ e2).2
  cases ty with
  | object C =>
    obtain ⟨kA, comp, -, -, -, f1⟩ := r1
    obtain ⟨kB, comp2, -, -, -, f2⟩ := r2
    exact Option.some.inj (f1.symm.trans f2)
  | _ => exact Option.some.inj (Eq.symm (Eq.trans (Eq.symm r2) r1))
theorem k_bodyN {l : Launch} {G : gG} {y : MethodName} {wl wl' : List Cond} {rm : Room} {mc ms a : Nat} {e0 : va_E} {U : Type} {po : U → Prop} {wf : U → va_W} {cc : ByteArray} {nL : Nat} {ret : Option FieldType} (hy : plainName y.cls = true) (hy1 : y.name = "<init>") (hw : wl = Cond.code y cc nL ret :: wl') (hml : 1 ≤ nL)
    (body : ∀ p e s m args below meth c A, Cx p s m args meth c cc nL y.cls wl ret G A → meth.name = "<init>" → va_AO RX1 s → va_P G.1 vwCl [(a, e0)] s.heap → va_D A [(a, e0)] → va_S A s.heap s.heap [] → ∀ ls, lv_has ls nL [(0, .ref a)] →
      W p l e rm s m args below meth c s.heap [] 0 0 (MQ below (va_Qv po (fun u t => va_P G.1 vwCl (wf u) t.heap ∧ va_D A (wf u)) A) args s mc ms A) (F0 m 0 ls [])) : kN l G y wl rm mc ms a e0 po wf := by
  intro sz
  refine Met.ofW (cc := cc) (maxL := nL) (ret := ret) hy hw ?_
  intro p e s m args below meth c s₁ B hml' hv
  obtain ⟨rfl, hsz, hP, hK, hD0, hAO⟩ := hv
  subst hsz
  have hts := atoms_spec (ws := wl) B.pre
  have hown : s.vm.findClass y.cls = some m.cls := findClass_of_methodNamed B.named
  have hl := lv_entry [.ref a] (n := nL) hml
  rw [lg_entry_eq]
  have hin : meth.name = "<init>" := (name_of_methodNamed B.named B.method).1.trans hy1
  exact body p e s m _ below meth c (va_A [(a, e0)] s.heap.size) ⟨B.exec, B.bytes, hml', hown, hts, B.returns, B.notSynchronized, hK, fun q h => Or.inr h⟩ hin hAO hP (hD0.self (sz := s.heap.size)) va_S.rf _ hl
section KN
variable {p : Program} {l : Launch} {e : Env} {R : Room} {s : State} {m : MethodId} {args : Array Value} {below : List Frame} {meth : Method} {c : Code} {H : Heap} {locs : List Loc} {cells slots : Nat} {Q : State → Prop}
variable {cc : ByteArray} {nL : Nat} {own : String} {Ts : List Cond} {ret : Option FieldType} {G : gG} {A : Nat → Prop} {pc : Nat} {ls : Array Slot} {ws : va_W} {rest : List Value}
theorem k_vretN {U : Type} {po : U → Prop} {wf : U → va_W} {mc ms : Nat} (cx : Cx p s m args meth c cc nL own Ts none G A) (u : U) (hu : po u) (hP : va_P G.1 vwCl (wf u) H) (hD : va_D A (wf u)) (hS : va_S A s.heap H locs) (hm : cells ≤ mc ∧ slots ≤ ms) (hdg : decode cc pc = .ok (.return_, 1)) :
    W p l e R s m args below meth c H locs cells slots (MQ below (va_Qv po (fun u t => va_P G.1 vwCl (wf u) t.heap ∧ va_D A (wf u)) A) args s mc ms A) (F0 m pc ls []) := by
  obtain ⟨hx, hb, hml, hown, hts, hr, hlocks, hK, hA⟩ := cx
  refine W.widen hm.1 hm.2 ?_
  exact W.vret hx hb hr (fun t ht hW => ⟨⟨u, rfl, hu, by rw [ht]; exact hP, hD⟩, hS.F ht⟩) hS.2.2 hdg
theorem k_obj {idx : Nat} {a : Nat} {lv : List (Nat × Value)} (cx : Cx p s m args meth c cc nL own Ts ret G A) (hl : lv_has ls nL lv) (h1 : Cond.methodLink own idx objectInit ∈ Ts) (h2 : Cond.instanceMethod objectInit ∈ Ts) (h3 : Cond.code objectInit ⟨#[0xb1]⟩ 1 none ∈ Ts) (hR : 1 ≤ R.frames ∧ 12 ≤ R.locals) (hdg : decode cc pc = .ok (.invokespecial idx, 3))
    (kk : W p l e R s m args below meth c H locs cells slots Q (F0 m (pc + 3) ls [])) : W p l e R s m args below meth c H locs cells slots Q (F0 m pc ls [.ref a]) := by
  obtain ⟨hx, hb, hml, hown, hts, hr, hlocks, hK, hA⟩ := cx
  refine W.objInit hx hb hown (hts _ h1) (hts _ h2) (hts _ h3) rfl (by rw [hml]; exact hl.1) rfl hdg hR.1 hR.2 ?_
  exact W.eq (g2 := F0 m (pc + 3) ls []) rfl kk
theorem k_newaI {n : Int32} {N : Nat} (cx : Cx p s m args meth c cc nL own Ts ret G A) (harr : Cond.arrayClass .int ∈ Ts) (hP : va_P G.1 vwCl ws H) (hD : va_D A ws) (hS : va_S A s.heap H locs) (hn : ¬ n < 0) (hN : n.toNatClampNeg = N) (hbytes : N * 4 ≤ 536870912) (hcells : cells + 1 ≤ R.cells) (hslots : slots + N ≤ R.slots) (hdg : decode cc pc = .ok (.newarray .int, 2))
    (kk : ∀ (q : Nat) (H1 : Heap), va_P G.1 vwCl (ws ++ [aI G q N (fun _ => 0)]) H1 → va_D A (ws ++ [aI G q N (fun _ => 0)]) → va_S A s.heap H1 locs → W p l e R s m args below meth c H1 locs (cells + 1) (slots + N) Q (F0 m (pc + 2) ls (.ref q :: rest))) : W p l e R s m args below meth c H locs cells slots Q (F0 m pc ls (.int n :: rest)) := by
  obtain ⟨hx, hb, hml, hown, hts, hr, hlocks, hK, hA⟩ := cx
  refine va_newa (atype := .int) (a0 := (N, .inl (fun _ => 0))) hx hb (hts _ harr) rfl hK.1 hP hD hS hA (fun cA => rfl) hn hN hbytes hcells hslots hdg (fun q cA H1 hK1 hP1 hD1 hS1 => ?_)
  have e : cA = G.2.1 := kA_uni (k := 4) (j := 0) hK1 hK.1 rfl rfl
  subst e
  exact kk q H1 hP1 hD1 hS1
theorem k_newaC {n : Int32} {N : Nat} (cx : Cx p s m args meth c cc nL own Ts ret G A) (harr : Cond.arrayClass .char ∈ Ts) (hP : va_P G.1 vwCl ws H) (hD : va_D A ws) (hS : va_S A s.heap H locs) (hn : ¬ n < 0) (hN : n.toNatClampNeg = N) (hbytes : N * 2 ≤ 536870912) (hcells : cells + 1 ≤ R.cells) (hslots : slots + N ≤ R.slots) (hdg : decode cc pc = .ok (.newarray .char, 2))
    (kk : ∀ (q : Nat) (H1 : Heap), va_P G.1 vwCl (ws ++ [aC G q N (fun _ => 0)]) H1 → va_D A (ws ++ [aC G q N (fun _ => 0)]) → va_S A s.heap H1 locs → W p l e R s m args below meth c H1 locs (cells + 1) (slots + N) Q (F0 m (pc + 2) ls (.ref q :: rest))) : W p l e R s m args below meth c H locs cells slots Q (F0 m pc ls (.int n :: rest)) := by
  obtain ⟨hx, hb, hml, hown, hts, hr, hlocks, hK, hA⟩ := cx
  refine va_newa (atype := .char) (a0 := (N, .inl (fun _ => 0))) hx hb (hts _ harr) rfl hK.1 hP hD hS hA (fun cA => rfl) hn hN hbytes hcells hslots hdg (fun q cA H1 hK1 hP1 hD1 hS1 => ?_)
  have e : cA = G.2.2.1 := kA_uni (k := 4) (j := 1) hK1 hK.1 rfl rfl
  subst e
  exact kk q H1 hP1 hD1 hS1
theorem k_newaZ {n : Int32} {N : Nat} (cx : Cx p s m args meth c cc nL own Ts ret G A) (harr : Cond.arrayClass .boolean ∈ Ts) (hP : va_P G.1 vwCl ws H) (hD : va_D A ws) (hS : va_S A s.heap H locs) (hn : ¬ n < 0) (hN : n.toNatClampNeg = N) (hbytes : N * 1 ≤ 536870912) (hcells : cells + 1 ≤ R.cells) (hslots : slots + N ≤ R.slots) (hdg : decode cc pc = .ok (.newarray .boolean, 2))
    (kk : ∀ (q : Nat) (H1 : Heap), va_P G.1 vwCl (ws ++ [aZ G q N (fun _ => 0)]) H1 → va_D A (ws ++ [aZ G q N (fun _ => 0)]) → va_S A s.heap H1 locs → W p l e R s m args below meth c H1 locs (cells + 1) (slots + N) Q (F0 m (pc + 2) ls (.ref q :: rest))) : W p l e R s m args below meth c H locs cells slots Q (F0 m pc ls (.int n :: rest)) := by
  obtain ⟨hx, hb, hml, hown, hts, hr, hlocks, hK, hA⟩ := cx
  refine va_newa (atype := .boolean) (a0 := (N, .inl (fun _ => 0))) hx hb (hts _ harr) rfl hK.1 hP hD hS hA (fun cA => rfl) hn hN hbytes hcells hslots hdg (fun q cA H1 hK1 hP1 hD1 hS1 => ?_)
  have e : cA = G.2.2.2.1 := kA_uni (k := 4) (j := 2) hK1 hK.1 rfl rfl
  subst e
  exact kk q H1 hP1 hD1 hS1
theorem k_newq {n : Int32} {N index : Nat} (cx : Cx p s m args meth c cc nL own Ts ret G A) (hAO : va_AO RX1 s) (hlk : Cond.classLink own index RX1 ∈ Ts) (hP : va_P G.1 vwCl ws H) (hD : va_D A ws) (hS : va_S A s.heap H locs) (hn : ¬ n < 0) (hN : n.toNatClampNeg = N) (hbytes : N * 4 ≤ 536870912) (hcells : cells + 1 ≤ R.cells) (hslots : slots + N ≤ R.slots) (hdg : decode cc pc = .ok (.anewarray index, 3))
    (kk : ∀ (q : Nat) (H1 : Heap), va_P G.1 vwCl (ws ++ [aS G q N (fun _ => none)]) H1 → va_D A (ws ++ [aS G q N (fun _ => none)]) → va_S A s.heap H1 locs → W p l e R s m args below meth c H1 locs (cells + 1) (slots + N) Q (F0 m (pc + 3) ls (.ref q :: rest))) : W p l e R s m args below meth c H locs cells slots Q (F0 m pc ls (.int n :: rest)) := by
  obtain ⟨hx, hb, hml, hown, hts, hr, hlocks, hK, hA⟩ := cx
  refine va_newq hx hb hown (hts _ hlk) hAO hK.1 hP hD hS hA hn hN hbytes hcells hslots hdg (fun q cA H1 hK1 hP1 hD1 hS1 => ?_)
  have e : cA = G.2.2.2.2 := kA_uni (k := 4) (j := 3) hK1 hK.1 rfl rfl
  subst e
  exact kk q H1 hP1 hD1 hS1
theorem k_new {C : String} {T : u_T} {N ci index : Nat} {ty : Nat → FieldType} {fs : List Value} (cx : Cx p s m args meth c cc nL own Ts ret G A) (hin : ∀ w ∈ u_ws C T N, w ∈ Ts) (hty : ∀ k, k < N → parseFieldDescriptor (T k).2.2.1 = some (ty k)) (hcl : Cond.classLink own index C ∈ Ts) (hinst : Cond.instantiable C N ∈ Ts) (hini : Cond.initialized C ∈ Ts)
    (hP : va_P G.1 vwCl ws H) (hD : va_D A ws) (hS : va_S A s.heap H locs) (hc : vwCl[ci]? = some (C, T, N)) (hfs : (List.range N).map (fun j => defaultValue (ty j)) = (List.range N).map (fun j => vp_V fs j)) (hcells : cells + 1 ≤ R.cells) (hslots : slots + N ≤ R.slots) (hdg : decode cc pc = .ok (.new index, 3))
    (kk : ∀ (q : Nat) (H1 : Heap), va_P G.1 vwCl (ws ++ [(q, .inr (ci, fs))]) H1 → va_D A (ws ++ [(q, .inr (ci, fs))]) → va_S A s.heap H1 locs → W p l e R s m args below meth c H1 locs (cells + 1) (slots + N) Q (F0 m (pc + 3) ls (.ref q :: rest))) : W p l e R s m args below meth c H locs cells slots Q (F0 m pc ls rest) := by
  obtain ⟨hx, hb, hml, hown, hts, hr, hlocks, hK, hA⟩ := cx
  refine va_new hx hb hts hin ty hty hown (hts _ hcl) (hts _ hinst) (hts _ hini) hK.1 hP hD hS hA hc (fun j hj => ?_) hcells hslots hdg kk
  have h := congrArg (fun l => l[j]?) hfs
  simp only [List.getElem?_map, List.getElem?_range hj, Option.map_some] at h
  exact Option.some.inj h
theorem k_initN {y : MethodName} {wl wl' : List Cond} {rm : Room} {mc ms b index mL : Nat} {e0 : va_E} {U : Type} {po : U → Prop} {wf : U → va_W} {bytes : ByteArray} {host : String} {lv : List (Nat × Value)} (cx : Cx p s m args meth c cc nL own Ts ret G A) (hAO : va_AO RX1 s) (hC : kN l G y wl rm mc ms b e0 po wf) (hT : GoodIn Ts wl) (hw : wl = Cond.code y bytes mL none :: wl') (hrc : rm.cells = mc) (hrs : rm.slots = ms)
    (hlk : Cond.methodLinkNest own index y host ∈ gN) (hin : Cond.initialized y.cls ∈ Ts) (him : Cond.instanceMethod y ∈ Ts) (hy1 : y.name = "<init>") (hd : y.cls ≠ "java/lang/invoke/MethodHandle" ∧ y.cls ≠ "java/lang/invoke/VarHandle" ∧ (parseMethodDescriptor y.desc).map (fun d => d.parameters.length) = some 0) (hR : rm.frames + 1 ≤ R.frames ∧ 8 + (mL + 11) + rm.locals ≤ R.locals)
    (hP : va_P G.1 vwCl (ws ++ [(b, e0)]) H) (hD : va_D A (ws ++ [(b, e0)])) (hS : va_S A s.heap H locs) (hsize : lv_has ls nL lv) (hroom : (rest.map fun v => v.category).sum ≤ 8) (hdg : decode cc pc = .ok (.invokespecial index, 3)) (hf : cells + mc ≤ R.cells ∧ slots + ms ≤ R.slots)
    (kk : ∀ (u : U) (H1 : Heap) (locs1 : List Loc), po u → va_P G.1 vwCl (ws ++ wf u) H1 → va_D A (ws ++ wf u) → va_S A s.heap H1 locs1 → W p l e R s m args below meth c H1 locs1 (cells + mc) (slots + ms) Q (F0 m (pc + 3) ls rest)) : W p l e R s m args below meth c H locs cells slots Q (F0 m pc ls (.ref b :: rest)) := by
  obtain ⟨hx, hb, hml, hown, hts, hr, hlocks, hK, hA⟩ := cx
  have hCc : [ws.length].map (fun i => (ws ++ [(b, e0)])[i]?) = [(b, e0)].map some := by simp
  have hPc := k_pick hP hCc
  have hDc := hD.sub [ws.length] rfl hCc
  have hFc := k_free hD hS hA hCc
  refine va_callv (va_runIN (As := []) (rest := rest) ⟨hx, hb, hml, hown, hts⟩ (hC H.size) ⟨va_cnB 0 hts hT hw hrc hrs (hK.2 _ hlk) (hts _ hin) hd hR, hy1, hts _ him⟩ ⟨fun a U g mk q => by obtain ⟨q0, q1, qP, qK, qD, qA⟩ := q; exact ⟨q0, q1, qP, gK.warm (s := U) (U := U.calling g mk a) (State.WarmedH.refl (U : State)) qK, qD, va_AO.moved (u := U) (U := U.calling g mk a) (Vm.Alike.refl U.vm) qA⟩, fun U hU hW => ⟨rfl, by rw [hU], by rw [hU]; exact hPc, gK.warm hW hK, hDc.weaken (fun _ _ _ _ => trivial), va_AO.moved hW.alike hAO⟩⟩ rfl rfl hsize.1 rfl (lv_room hroom) hdg hf) hS (fun q _ h => hFc q h) hFc (fun u t H1 locs1 ht hvm hpo hB hz hk hS1 => ?_)
  obtain ⟨hP1, hD1⟩ := hB
  rw [ht] at hP1
  obtain ⟨h1, h2⟩ := k_joinL hP hD hk hFc hP1 hD1
  exact kk u H1 locs1 hpo h1 h2 hS1
theorem k_putF {T : u_T} {C : String} {N ci index b : Nat} {fs : List Value} {ty0 : Nat → FieldType} {ty : FieldType} {v : Value} {ws' : va_W} (cx : Cx p s m args meth c cc nL C Ts ret G A) (hin2 : meth.name = "<init>") (hin : ∀ w ∈ u_ws C T N, w ∈ Ts) (hty : ∀ k, k < N → parseFieldDescriptor (T k).2.2.1 = some (ty0 k)) (hnm : ∀ a, a < N → ∀ b, b < N → a ≠ b → (T a).2.1 ≠ (T b).2.1) (hP : va_P G.1 vwCl ws H) (hD : va_D A ws) (hS : va_S A s.heap H locs) (q0 : Nat) (he : ws[q0]? = some (b, .inr (ci, fs))) (hc : vwCl[ci]? = some (C, T, N)) (k : Nat) (hk : k < N)
    (hlink : Cond.fieldLink C index (T k).1 (T k).2.1 (T k).2.2.1 ∈ Ts) (hfin : (T k).2.2.2 = true) (hdecl : (T k).1 = C) (hd : ty0 k = ty) (hn : narrow ty v = v) (hfit : fits ty v = true) (hl : k < fs.length) (hw : ws.set q0 (b, .inr (ci, fs.set k v)) = ws') (hdg : decode cc pc = .ok (.putfield index, 3))
    (kk : ∀ (H1 : Heap) (locs1 : List Loc), va_P G.1 vwCl ws' H1 → va_D A ws' → va_S A s.heap H1 locs1 → W p l e R s m args below meth c H1 locs1 cells slots Q (F0 m (pc + 3) ls rest)) : W p l e R s m args below meth c H locs cells slots Q (F0 m pc ls (v :: .ref b :: rest)) := by
  obtain ⟨hx, hb, hml, hown, hts, hr, hlocks, hK, hA⟩ := cx
  subst hw
  exact va_putF hx hb hts hin ty0 hty hnm hown hK.1 hP hD hS q0 he hc k hk (hts _ hlink) (fun _ h => h) hfin hin2 hdecl (hd ▸ hty k hk) hn hfit hl hdg kk
theorem k_astq {b n v qk : Nat} {i : Int32} {vs : List Value} {f : Nat → Option Nat} {ws' : va_W} (cx : Cx p s m args meth c cc nL own Ts ret G A) (hP : va_P G.1 vwCl ws H) (hD : va_D A ws) (hS : va_S A s.heap H locs) (q0 : Nat) (ha : ws[q0]? = some (aS G b n f)) (hv : ws[qk]? = some (v, .inr (1, vs))) (hi : vp_in i n) (hw : ws.set q0 (aS G b n (va_up f i.toNatClampNeg (some v))) = ws') (hdg : decode cc pc = .ok (.aastore, 1))
    (kk : ∀ (H1 : Heap) (locs1 : List Loc), va_P G.1 vwCl ws' H1 → va_D A ws' → va_S A s.heap H1 locs1 → W p l e R s m args below meth c H1 locs1 cells slots Q (F0 m (pc + 1) ls rest)) : W p l e R s m args below meth c H locs cells slots Q (F0 m pc ls (.ref v :: .int i :: .ref b :: rest)) := by
  obtain ⟨hx, hb, hml, hown, hts, hr, hlocks, hK, hA⟩ := cx
  subst hw
  exact va_astq hx hb hK.1 hP hD hS q0 3 qk 1 (r := (RX1, TX1, 16)) ha rfl hv rfl hi hdg kk
end KN
