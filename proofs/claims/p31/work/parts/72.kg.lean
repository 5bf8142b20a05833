/-! the law's methods: worlds of bridges, contracts that say what holds -/
abbrev Pg : Type := Nat → Int32
abbrev XT : Type := Pg × Pg × Pg × ct4 × ct4 × Pg × (Nat → ct4)
abbrev AD : Type := Nat × Nat × Nat × Nat × Nat × Nat × qd × qd × (Nat → Option Nat) × (Nat → Option Nat) × (Nat → qd)
def wF (G : gG) (d : AD) (x : XT) : va_W := fxw G d.1 d.2.1 d.2.2.1 d.2.2.2.2.2.2.1 d.2.2.2.2.2.2.2.1 d.2.2.2.1 d.2.2.2.2.1 d.2.2.2.2.2.1 x.1 x.2.1 x.2.2.1 x.2.2.2.1.1 x.2.2.2.1.2.1 x.2.2.2.1.2.2.1 x.2.2.2.1.2.2.2 x.2.2.2.2.1.1 x.2.2.2.2.1.2.1 x.2.2.2.2.1.2.2.1 x.2.2.2.2.1.2.2.2 d.2.2.2.2.2.2.2.2.1 d.2.2.2.2.2.2.2.2.2.1 x.2.2.2.2.2.1
def wB (G : gG) (d : AD) (x : XT) (wr : va_W) : va_W := wF G d x ++ (pw G d.2.2.2.2.2.2.2.2.2.2 x.2.2.2.2.2.2 (List.range 16) ++ wr)
def PQd (d : AD) : Prop := PQ d.2.2.2.2.2.2.2.2.2.2 d.2.2.2.2.2.2.2.2.1 d.2.2.2.2.2.2.2.2.2.1
theorem wB_app (G : gG) (d : AD) (x : XT) (wr : va_W) : wB G d x wr = wB G d x [] ++ wr := by
  unfold wB
  rw [List.append_nil, List.append_assoc]
theorem pw_fst (G : gG) (Q : Nat → qd) (C C' : Nat → ct4) (ks : List Nat) : (pw G Q C ks).map (·.1) = (pw G Q C' ks).map (·.1) := by
  unfold pw
  rw [List.map_flatMap, List.map_flatMap]
  rfl
theorem wB_fst (G : gG) (d : AD) (x x' : XT) (wr : va_W) : (wB G d x wr).map (·.1) = (wB G d x' wr).map (·.1) := by
  unfold wB
  rw [List.map_append, List.map_append, List.map_append, List.map_append, pw_fst G _ x.2.2.2.2.2.2 x'.2.2.2.2.2.2]
  rfl
theorem wB_fst2 (G : gG) (d1 d2 : AD) (x1 x2 x1' x2' : XT) (wr : va_W) : (wB G d1 x1 (wB G d2 x2 wr)).map (·.1) = (wB G d1 x1' (wB G d2 x2' wr)).map (·.1) := by
  rw [wB_app G d1 x1, wB_app G d1 x1', List.map_append, List.map_append, wB_fst G d1 x1 x1', wB_fst G d2 x2 x2']
theorem wB_swap (G : gG) (d1 d2 : AD) (x1 x2 : XT) (wr : va_W) : (wB G d1 x1 (wB G d2 x2 wr)).Perm (wB G d2 x2 (wB G d1 x1 wr)) := by
  rw [wB_app G d1 x1 (wB G d2 x2 wr), wB_app G d2 x2 wr, wB_app G d2 x2 (wB G d1 x1 wr), wB_app G d1 x1 wr, ← List.append_assoc, ← List.append_assoc]
  exact List.Perm.append_right wr List.perm_append_comm
abbrev mG (G : gG) (b L : Nat) (xs : Nat → Int32) (av : List Value) (ws : va_W) (sz : Nat) : Array Value → State → Prop := va_Pc av (fun U => U.heap.size = sz ∧ va_P G.1 vwCl ws U.heap ∧ gK G U ∧ va_D (fun _ => True) ws ∧ eK U ∧ eN U ∧ eZ (va_A ws sz) U U.heap ∧ (va_X b L xs U U.heap ∧ b < sz ∧ ∀ q ∈ ws, ¬ q.1 = b))
theorem mG_blind {G : gG} {b L : Nat} {xs : Nat → Int32} {av : List Value} {ws : va_W} {sz : Nat} : FrameBlind (mG G b L xs av ws sz) := fun a U g mk q => by
  obtain ⟨q0, q1, qP, qK, qD, qE, qN, qZ, qX, qb⟩ := q
  exact ⟨q0, q1, qP, gK.warm (s := U) (U := U.calling g mk a) (State.WarmedH.refl (U : State)) qK, qD, eK.warm (s := U) (U := U.calling g mk a) (State.WarmedH.refl (U : State)) qE, eN.moved (u := U) (U := U.calling g mk a) (Vm.Alike.refl U.vm) qN, ⟨vx_Zq.moved (u := U) (U := U.calling g mk a) (Vm.Alike.refl U.vm) qZ.1, vx_Zq.moved (u := U) (U := U.calling g mk a) (Vm.Alike.refl U.vm) qZ.2⟩, va_X.moved (u := U) (U := U.calling g mk a) (Vm.Alike.refl U.vm) qX, qb⟩
abbrev qG {U : Type} (G : gG) (w : U → va_W) (J : Int32 → U → Prop) (A : Nat → Prop) : Array Value → State → Outcome → State → Prop := va_Qi J (fun u' t => va_P G.1 vwCl (w u') t.heap) A
/-- the method, called over a world whose contents keep I, answers r and leaves contents so that J -/
def kG {U : Type} (l : Launch) (G : gG) (y : MethodName) (wl : List Cond) (rm : Room) (av : List Value) (b L : Nat) (xs : Nat → Int32) (w : U → va_W) (I : U → Prop) (J : Int32 → U → Prop) (mc ms : Nat) : Prop :=
  ∀ u, I u → ∀ sz, Met l y wl rm (mG G b L xs av (w u) sz) (qG G w J (va_A (w u) sz)) mc ms (va_A (w u) sz)
def CL (s : State) (A : Nat → Prop) (b L : Nat) (xs : Nat → Int32) : Prop := eK s ∧ eN s ∧ eZ A s s.heap ∧ va_X b L xs s s.heap ∧ b < s.heap.size ∧ ¬ A b
theorem k_bodyG {U : Type} {l : Launch} {G : gG} {y : MethodName} {wl wl' : List Cond} {rm : Room} {av : List Value} {b L : Nat} {xs : Nat → Int32} {w : U → va_W} {I : U → Prop} {J : Int32 → U → Prop} {mc ms : Nat} {cc : ByteArray} {nL : Nat} {ret : Option FieldType} (hy : plainName y.cls = true) (hw : wl = Cond.code y cc nL ret :: wl') (hml : (lg_sl av).length ≤ nL)
    (body : ∀ u, I u → ∀ p e s m args below meth c A, Cx p s m args meth c cc nL y.cls wl ret G A → CL s A b L xs → ∀ H locs, va_P G.1 vwCl (w u) H → va_D A (w u) → va_S A s.heap H locs → ∀ ls, lv_has ls nL (lv_args 0 av) →
      W p l e rm s m args below meth c H locs 0 0 (MQ below (qG G w J A) args s mc ms A) (F0 m 0 ls [])) : kG l G y wl rm av b L xs w I J mc ms := by
  intro u hu sz
  refine Met.ofW (cc := cc) (maxL := nL) (ret := ret) hy hw ?_
  intro p e s m args below meth c s₁ B hml' hv
  obtain ⟨rfl, hsz, hP, hK, hD0, hE, hN, hZ, hX, hbl, hbn⟩ := hv
  subst hsz
  have hts := atoms_spec (ws := wl) B.pre
  have hown : s.vm.findClass y.cls = some m.cls := findClass_of_methodNamed B.named
  have hl := lv_entry av (n := nL) hml
  rw [lg_entry_eq]
  refine body u hu p e s m _ below meth c (va_A (w u) s.heap.size) ⟨B.exec, B.bytes, hml', hown, hts, B.returns, B.notSynchronized, hK, fun q h => Or.inr h⟩ ⟨hE, hN, hZ, hX, hbl, ?_⟩ s.heap [] hP (hD0.self (sz := s.heap.size)) va_S.rf _ hl
  rintro (⟨k, e', h⟩ | h)
  · exact hbn _ (List.mem_of_getElem? h) rfl
  · exact absurd hbl (Nat.not_lt.mpr h)
theorem kc_join {A : Nat → Prop} {D : va_G} {cl : List vw_C} {wc w1 wr : va_W} {H H1 : Heap} (hP : va_P D cl (wc ++ wr) H) (hD : va_D A (wc ++ wr)) (hk : ∀ q : Nat, q < H.size → ¬ va_A wc H.size q → H1[q]? = H[q]?) (hP1 : va_P D cl w1 H1) (hf : w1.map (·.1) = wc.map (·.1)) : va_P D cl (w1 ++ wr) H1 ∧ va_D A (w1 ++ wr) := by
  obtain ⟨d1, d2⟩ := kD_iff.mp hD
  have hP' := kP_iff.mp hP
  have hP1' := kP_iff.mp hP1
  constructor
  · refine kP_iff.mpr (fun q hq => ?_)
    rcases List.mem_append.mp hq with h | h
    · exact hP1' q h
    · have hat := hP' q (List.mem_append_right _ h)
      have hl := hat.lt
      refine hat.kept (hk q.1 hl ?_)
      rintro (⟨j, e, h3⟩ | h3)
      · rw [List.map_append] at d1
        have hdis := List.nodup_append.mp d1
        exact (hdis.2.2 q.1 (List.mem_map.mpr ⟨(q.1, e), List.mem_of_getElem? h3, rfl⟩) q.1 (List.mem_map.mpr ⟨q, h, rfl⟩)) rfl
      · omega
  · refine kD_iff.mpr ⟨?_, fun q hq => ?_⟩
    · rw [List.map_append, hf, ← List.map_append]; exact d1
    · rcases List.mem_append.mp hq with h | h
      · have : q.1 ∈ wc.map (·.1) := by rw [← hf]; exact List.mem_map.mpr ⟨q, h, rfl⟩
        obtain ⟨q', h1, h2⟩ := List.mem_map.mp this
        rw [← h2]
        exact d2 q' (List.mem_append_left _ h1)
      · exact d2 q (List.mem_append_right _ h)
section KC
variable {p : Program} {l : Launch} {e : Env} {R : Room} {s : State} {m : MethodId} {args : Array Value} {below : List Frame} {meth : Method} {c : Code} {H : Heap} {locs : List Loc} {cells slots : Nat} {Q : State → Prop}
variable {cc : ByteArray} {nL : Nat} {own : String} {Ts : List Cond} {ret' : Option FieldType} {G : gG} {A : Nat → Prop} {pc : Nat} {ls : Array Slot} {b L : Nat} {xs : Nat → Int32}
theorem k_retG {U : Type} {w : U → va_W} {J : Int32 → U → Prop} {v : Int32} {u : U} {mc ms : Nat} {ty : FieldType} (cx : Cx p s m args meth c cc nL own Ts (some ty) G A) (hn : narrow ty (.int v) = .int v) (hJ : J v u) (hP : va_P G.1 vwCl (w u) H) (hS : va_S A s.heap H locs) (hcs : cells ≤ mc ∧ slots ≤ ms) (hdg : decode cc pc = .ok (.ireturn, 1)) :
    W p l e R s m args below meth c H locs cells slots (MQ below (qG G w J A) args s mc ms A) (F0 m pc ls [.int v]) := by
  obtain ⟨hx, hb, hml, hown, hts, hr, hlocks, hK, hA⟩ := cx
  refine W.widen (k := mc) (n := ms) hcs.1 hcs.2 ?_
  exact W.zret (v := v) hx hb hr hn (fun t ht hW => ⟨⟨v, u, rfl, hJ, by show va_P G.1 vwCl (w u) t.heap; rw [ht]; exact hP⟩, hS.F ht⟩) hS.2.2 hdg
theorem kc {U : Type} {w : U → va_W} {I : U → Prop} {J : Int32 → U → Prop} {y : MethodName} {wl wl' : List Cond} {rm : Room} {bytes : ByteArray} {mL' n index mc ms : Nat} {ret2 : Option FieldType} {wr : va_W} {u : U} {As rest st : List Value} {lv : List (Nat × Value)}
    (cx : Cx p s m args meth c cc nL own Ts ret' G A) (cl : CL s A b L xs) (hC : kG l G y wl rm As b L xs w I J mc ms) (hfst : ∀ u u', (w u).map (·.1) = (w u').map (·.1)) (hu : I u) (hP : va_P G.1 vwCl (w u ++ wr) H) (hD : va_D A (w u ++ wr)) (hS : va_S A s.heap H locs)
    (hT : GoodIn Ts (va_wsS own index y wl)) (hw : wl = Cond.code y bytes mL' ret2 :: wl') (hrc : rm.cells = mc) (hrs : rm.slots = ms)
    (hd : y.cls ≠ "java/lang/invoke/MethodHandle" ∧ y.cls ≠ "java/lang/invoke/VarHandle" ∧ (parseMethodDescriptor y.desc).map (fun d => d.parameters.length) = some n) (hR : rm.frames + 1 ≤ R.frames ∧ 8 + (mL' + 11) + rm.locals ≤ R.locals)
    (hst : st = As.reverse ++ rest) (hAs : As.length = n) (hsize : lv_has ls nL lv) (hroom : (rest.map fun v => v.category).sum ≤ 8) (hdg : decode cc pc = .ok (.invokestatic index, 3)) (hf : cells + mc ≤ R.cells ∧ slots + ms ≤ R.slots)
    (kk : ∀ (r : Int32) (u' : U) (H1 : Heap) (locs1 : List Loc), J r u' → va_P G.1 vwCl (w u' ++ wr) H1 → va_D A (w u' ++ wr) → va_S A s.heap H1 locs1 → W p l e R s m args below meth c H1 locs1 (cells + mc) (slots + ms) Q (F0 m (pc + 3) ls (.int r :: rest))) :
    W p l e R s m args below meth c H locs cells slots Q (F0 m pc ls st) := by
  obtain ⟨hx, hb, hml, hown, hts, hr, hlocks, hK, hA⟩ := cx
  obtain ⟨hE, hN, hZ, hX, hbl, hbA⟩ := cl
  have hPc : va_P G.1 vwCl (w u) H := kP_iff.mpr (fun q hq => kP_iff.mp hP q (List.mem_append_left _ hq))
  obtain ⟨d1, d2⟩ := kD_iff.mp hD
  have hDc : va_D A (w u) := kD_iff.mpr ⟨by rw [List.map_append] at d1; exact (List.nodup_append.mp d1).1, fun q hq => d2 q (List.mem_append_left _ hq)⟩
  have hFc : ∀ q : Nat, va_A (w u) H.size q → A q := by
    rintro q (⟨k, e', h⟩ | h)
    · exact hDc.2 k (q, e') h
    · exact hA q (Nat.le_trans hS.1 h)
  subst hst
  refine va_calli (va_runS (As := As) (rest := rest) ⟨hx, hb, hml, hown, hts⟩ (hC u hu H.size) (va_cwS n hts hT hw hrc hrs hd hR) ⟨mG_blind, fun U hU hW => ⟨rfl, by rw [hU], by rw [hU]; exact hPc, gK.warm hW hK, hDc.weaken (fun _ _ _ _ => trivial), eK.warm hW hE, eN.moved hW.alike hN, hZ.at hS hFc hU hW, ?_, Nat.lt_of_lt_of_le hbl hS.1, ?_⟩⟩ rfl hAs hsize.1 rfl (lv_room hroom) hdg hf) hS (fun q _ h => hFc q h) hFc (fun r' u' t' H1 locs1 ht hvm hpo hB hz hk hS1 => ?_)
  · rw [hU]
    exact va_X.moved hW.alike (hX.kept (hS.2.1 b hbl hbA))
  · intro q hq h
    exact hbA (h ▸ d2 q (List.mem_append_left _ hq))
  · rw [ht] at hB
    obtain ⟨h1, h2⟩ := kc_join hP hD hk hB (hfst u' u)
    exact kk r' u' H1 locs1 hpo h1 h2 hS1
/-- a call over one bridge -/
theorem kc1 {I : XT → Prop} {J : Int32 → XT → Prop} {d : AD} {x : XT} {y : MethodName} {wl wl' : List Cond} {rm : Room} {bytes : ByteArray} {mL' n index mc ms : Nat} {ret2 : Option FieldType} {wr : va_W} {As rest st : List Value} {lv : List (Nat × Value)}
    (cx : Cx p s m args meth c cc nL own Ts ret' G A) (cl : CL s A b L xs) (hC : kG l G y wl rm As b L xs (fun x => wB G d x []) I J mc ms) (hu : I x) (hP : va_P G.1 vwCl (wB G d x wr) H) (hD : va_D A (wB G d x wr)) (hS : va_S A s.heap H locs)
    (hT : GoodIn Ts (va_wsS own index y wl)) (hw : wl = Cond.code y bytes mL' ret2 :: wl') (hrc : rm.cells = mc) (hrs : rm.slots = ms)
    (hd : y.cls ≠ "java/lang/invoke/MethodHandle" ∧ y.cls ≠ "java/lang/invoke/VarHandle" ∧ (parseMethodDescriptor y.desc).map (fun d => d.parameters.length) = some n) (hR : rm.frames + 1 ≤ R.frames ∧ 8 + (mL' + 11) + rm.locals ≤ R.locals)
    (hst : st = As.reverse ++ rest) (hAs : As.length = n) (hsize : lv_has ls nL lv) (hroom : (rest.map fun v => v.category).sum ≤ 8) (hdg : decode cc pc = .ok (.invokestatic index, 3)) (hf : cells + mc ≤ R.cells ∧ slots + ms ≤ R.slots)
    (kk : ∀ (r : Int32) (x' : XT) (H1 : Heap) (locs1 : List Loc), J r x' → va_P G.1 vwCl (wB G d x' wr) H1 → va_D A (wB G d x' wr) → va_S A s.heap H1 locs1 → W p l e R s m args below meth c H1 locs1 (cells + mc) (slots + ms) Q (F0 m (pc + 3) ls (.int r :: rest))) :
    W p l e R s m args below meth c H locs cells slots Q (F0 m pc ls st) := by
  rw [wB_app] at hP hD
  refine kc (u := x) (wr := wr) cx cl hC (fun u u' => wB_fst G d u u' []) hu hP hD hS hT hw hrc hrs hd hR hst hAs hsize hroom hdg hf (fun r x' H1 locs1 hJ hP hD hS => ?_)
  have hP : va_P G.1 vwCl (wB G d x' [] ++ wr) H1 := hP
  have hD : va_D A (wB G d x' [] ++ wr) := hD
  rw [← wB_app] at hP hD
  exact kk r x' H1 locs1 hJ hP hD hS
/-- a call over two bridges -/
theorem kc2 {I : XT × XT → Prop} {J : Int32 → XT × XT → Prop} {d1 d2 : AD} {x1 x2 : XT} {y : MethodName} {wl wl' : List Cond} {rm : Room} {bytes : ByteArray} {mL' n index mc ms : Nat} {ret2 : Option FieldType} {As rest st : List Value} {lv : List (Nat × Value)}
    (cx : Cx p s m args meth c cc nL own Ts ret' G A) (cl : CL s A b L xs) (hC : kG l G y wl rm As b L xs (fun x => wB G d1 x.1 (wB G d2 x.2 [])) I J mc ms) (hu : I (x1, x2)) (hP : va_P G.1 vwCl (wB G d1 x1 (wB G d2 x2 [])) H) (hD : va_D A (wB G d1 x1 (wB G d2 x2 []))) (hS : va_S A s.heap H locs)
    (hT : GoodIn Ts (va_wsS own index y wl)) (hw : wl = Cond.code y bytes mL' ret2 :: wl') (hrc : rm.cells = mc) (hrs : rm.slots = ms)
    (hd : y.cls ≠ "java/lang/invoke/MethodHandle" ∧ y.cls ≠ "java/lang/invoke/VarHandle" ∧ (parseMethodDescriptor y.desc).map (fun d => d.parameters.length) = some n) (hR : rm.frames + 1 ≤ R.frames ∧ 8 + (mL' + 11) + rm.locals ≤ R.locals)
    (hst : st = As.reverse ++ rest) (hAs : As.length = n) (hsize : lv_has ls nL lv) (hroom : (rest.map fun v => v.category).sum ≤ 8) (hdg : decode cc pc = .ok (.invokestatic index, 3)) (hf : cells + mc ≤ R.cells ∧ slots + ms ≤ R.slots)
    (kk : ∀ (r : Int32) (x1' x2' : XT) (H1 : Heap) (locs1 : List Loc), J r (x1', x2') → va_P G.1 vwCl (wB G d1 x1' (wB G d2 x2' [])) H1 → va_D A (wB G d1 x1' (wB G d2 x2' [])) → va_S A s.heap H1 locs1 → W p l e R s m args below meth c H1 locs1 (cells + mc) (slots + ms) Q (F0 m (pc + 3) ls (.int r :: rest))) :
    W p l e R s m args below meth c H locs cells slots Q (F0 m pc ls st) := by
  have e : ∀ y1 y2 : XT, wB G d1 y1 (wB G d2 y2 []) = (fun x : XT × XT => wB G d1 x.1 (wB G d2 x.2 [])) (y1, y2) ++ [] := fun _ _ => (List.append_nil _).symm
  rw [e] at hP hD
  refine kc (u := (x1, x2)) (wr := []) cx cl hC (fun u u' => wB_fst2 G d1 d2 _ _ _ _ []) hu hP hD hS hT hw hrc hrs hd hR hst hAs hsize hroom hdg hf (fun r x' H1 locs1 hJ hP hD hS => ?_)
  obtain ⟨y1, y2⟩ := x'
  rw [← e] at hP hD
  exact kk r y1 y2 H1 locs1 hJ hP hD hS
/-- a call over no bridge -/
theorem kc0 {I : Unit → Prop} {J : Int32 → Unit → Prop} {ws : va_W} {y : MethodName} {wl wl' : List Cond} {rm : Room} {bytes : ByteArray} {mL' n index mc ms : Nat} {ret2 : Option FieldType} {As rest st : List Value} {lv : List (Nat × Value)}
    (cx : Cx p s m args meth c cc nL own Ts ret' G A) (cl : CL s A b L xs) (hC : kG l G y wl rm As b L xs (fun _ : Unit => []) I J mc ms) (hu : I ()) (hP : va_P G.1 vwCl ws H) (hD : va_D A ws) (hS : va_S A s.heap H locs)
    (hT : GoodIn Ts (va_wsS own index y wl)) (hw : wl = Cond.code y bytes mL' ret2 :: wl') (hrc : rm.cells = mc) (hrs : rm.slots = ms)
    (hd : y.cls ≠ "java/lang/invoke/MethodHandle" ∧ y.cls ≠ "java/lang/invoke/VarHandle" ∧ (parseMethodDescriptor y.desc).map (fun d => d.parameters.length) = some n) (hR : rm.frames + 1 ≤ R.frames ∧ 8 + (mL' + 11) + rm.locals ≤ R.locals)
    (hst : st = As.reverse ++ rest) (hAs : As.length = n) (hsize : lv_has ls nL lv) (hroom : (rest.map fun v => v.category).sum ≤ 8) (hdg : decode cc pc = .ok (.invokestatic index, 3)) (hf : cells + mc ≤ R.cells ∧ slots + ms ≤ R.slots)
    (kk : ∀ (r : Int32) (H1 : Heap) (locs1 : List Loc), J r () → va_P G.1 vwCl ws H1 → va_D A ws → va_S A s.heap H1 locs1 → W p l e R s m args below meth c H1 locs1 (cells + mc) (slots + ms) Q (F0 m (pc + 3) ls (.int r :: rest))) :
    W p l e R s m args below meth c H locs cells slots Q (F0 m pc ls st) :=
  kc (u := ()) (wr := ws) cx cl hC (fun _ _ => rfl) hu hP hD hS hT hw hrc hrs hd hR hst hAs hsize hroom hdg hf (fun r u' H1 locs1 hJ hP hD hS => kk r H1 locs1 hJ hP hD hS)
end KC
