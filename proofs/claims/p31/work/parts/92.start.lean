/-! what holds at the law's entry -/
set_option maxRecDepth 200000 in
theorem st_gN : ∀ w ∈ gN, w ∈ lw_tbl := lw_ch [61, 76, 82, 195, 337, 341, 707, 480, 484, 486, 499, 494, 435, 451, 455, 456, 457, 461, 465, 297, 508, 527, 538, 553, 578, 592, 596, 354, 616, 565, 377, 640, 641, 642, 67, 88, 89, 104, 106, 108, 110, 112, 116, 118, 120, 122, 126, 128, 130] rfl
theorem st_gNt : ∀ w ∈ gN, w.onTables = true := by decide +kernel
set_option maxRecDepth 200000 in
theorem st_eW : ∀ w ∈ eW, w ∈ lw_tbl := lw_ch [231, 320, 360, 233, 235, 237] rfl
theorem st_eWt : ∀ w ∈ eW, w.onTables = true := by decide +kernel
set_option maxRecDepth 200000 in
theorem st_eS : ∀ w ∈ eS.map (fun q => Cond.stringRef RX3 q.1 q.2), w ∈ lw_tbl := lw_ch [433, 434, 450, 270, 507, 479, 522, 577, 595, 367, 614, 615, 327, 624, 639, 650, 658, 666, 671, 700, 398, 406] rfl
def stW : List Cond := [.instantiable RX0 3, .instantiable RX1 16, .instantiable RX2 2, .instantiable RX3 8, .arrayClass .int, .arrayClass .char, .arrayClass .boolean, .arrayOver (.object RX1), .laysStatic Bundle.tN "UNASSIGNED_STACK" Bundle.steD, .laysStatic Bundle.tN "SUPPRESSED_SENTINEL" Bundle.listD, .initialized Bundle.tN]
set_option maxRecDepth 200000 in
theorem st_W : ∀ w ∈ stW, w ∈ lw_tbl := lw_ch [81, 75, 60, 52, 98, 73, 190, 164, 256, 258, 44] rfl
theorem st_eX : ∀ q ∈ eS, Cond.exactly (.string RX3 q.1) "java/lang/String" ∈ flatC (Jvm.Cond.and given_1 narrow_1) := by decide +kernel
theorem st_n1 : Cond.not (.castable "java/lang/IllegalStateException" "java/lang/IllegalArgumentException") ∈ flatC (Jvm.Cond.and given_1 narrow_1) := by decide +kernel
theorem st_n2 : Cond.not (.castable "java/lang/IllegalStateException" "java/lang/IndexOutOfBoundsException") ∈ flatC (Jvm.Cond.and given_1 narrow_1) := by decide +kernel
theorem st_r1 : Cond.isRef (.static Bundle.tN "UNASSIGNED_STACK" Bundle.steD) ∈ flatC (Jvm.Cond.and given_1 narrow_1) := by decide +kernel
theorem st_r2 : Cond.isRef (.static Bundle.tN "SUPPRESSED_SENTINEL" Bundle.listD) ∈ flatC (Jvm.Cond.and given_1 narrow_1) := by decide +kernel
theorem st_flags {l : Launch} (h : l.flags = flags0) : l.stackTraces = false := by
  unfold Launch.stackTraces
  rw [h]
  decide +kernel
theorem st_arr {s : State} {args : Array Value} {t : FieldType} (ht : ∀ C, t ≠ .object C) (h : (Cond.arrayClass t).before args s = true) : ∃ cA : ClassId, ArrOfT s cA t ∧ va_RA s cA t := by
  obtain ⟨cA, kA, comp, hfind, hk, hkind⟩ := Cond.arrayClass_spec h
  refine ⟨cA, fun n z => ⟨fun k h => (by cases h), kA, hk, comp, hkind⟩, ?_⟩
  cases t <;> first | exact hfind | exact absurd rfl (ht _)
theorem st_arrO {s : State} {args : Array Value} {C : String} (h : (Cond.arrayOver (.object C)).before args s = true) : ∃ cA : ClassId, ArrOfT s cA (.object C) ∧ va_RA s cA (.object C) := by
  obtain ⟨comp, cA, k, h1, h2, h3, h4, h5⟩ := Cond.arrayOver_spec h
  exact ⟨cA, fun n z => ⟨fun k h => (by cases h), k, h3, comp, h4⟩, k, comp, h3, h4, h1, h5⟩
theorem st_G {s : State} {args : Array Value} (hts : ∀ w ∈ lw_tbl, w.before args s = true) : ∃ G : gG, gK G s ∧ va_AO RX1 s := by
  have hw : ∀ w ∈ stW, w.before args s = true := fun w h => hts w (st_W w h)
  obtain ⟨c0, i0, k0⟩ := u_known (C := RX0) (T := TX0) (N := 3) (n := 3) hts inX0 (hw _ (List.mem_of_getElem? (i := 0) rfl))
  obtain ⟨c1, i1, k1⟩ := u_known (C := RX1) (T := TX1) (N := 16) (n := 16) hts inX1 (hw _ (List.mem_of_getElem? (i := 1) rfl))
  obtain ⟨c2, i2, k2⟩ := u_known (C := RX2) (T := TX2) (N := 2) (n := 2) hts inX2 (hw _ (List.mem_of_getElem? (i := 2) rfl))
  obtain ⟨c3, i3, k3⟩ := u_known (C := RX3) (T := TX3) (N := 8) (n := 8) hts inX3 (hw _ (List.mem_of_getElem? (i := 3) rfl))
  obtain ⟨cI, aI1, aI2⟩ := st_arr (t := .int) (fun C q => by cases q) (hw _ (List.mem_of_getElem? (i := 4) rfl))
  obtain ⟨cC, aC1, aC2⟩ := st_arr (t := .char) (fun C q => by cases q) (hw _ (List.mem_of_getElem? (i := 5) rfl))
  obtain ⟨cZ, aZ1, aZ2⟩ := st_arr (t := .boolean) (fun C q => by cases q) (hw _ (List.mem_of_getElem? (i := 6) rfl))
  have hao := hw (.arrayOver (.object RX1)) (List.mem_of_getElem? (i := 7) rfl)
  obtain ⟨cS, aS1, aS2⟩ := st_arrO hao
  have hcl : ∀ (k : Nat) (q : vw_C), vwCl[k]? = some q → u_Kn s q.1 q.2.1 q.2.2 ((fun k => if k = 0 then c0 else if k = 1 then c1 else if k = 2 then c2 else c3) k) ((fun k => if k = 0 then i0 else if k = 1 then i1 else if k = 2 then i2 else i3) k) := by
    intro k q hq
    match k, hq with
    | 0, hq => cases hq; exact k0
    | 1, hq => cases hq; exact k1
    | 2, hq => cases hq; exact k2
    | 3, hq => cases hq; exact k3
    | k + 4, hq => simp [vwCl] at hq
  refine ⟨((fun k => if k = 0 then c0 else if k = 1 then c1 else if k = 2 then c2 else c3, fun k => if k = 0 then i0 else if k = 1 then i1 else if k = 2 then i2 else i3), cI, cC, cZ, cS), ⟨⟨hcl, ?_⟩, fun w h => va_Nw.of (st_gNt w h) (hts w (st_gN w h))⟩, va_AO.of hao⟩
  intro k q hq
  match k, hq with
  | 0, hq => cases hq; exact ⟨aI1, aI2⟩
  | 1, hq => cases hq; exact ⟨aC1, aC2⟩
  | 2, hq => cases hq; exact ⟨aZ1, aZ2⟩
  | 3, hq => cases hq; exact ⟨aS1, aS2⟩
  | k + 4, hq => simp [gT] at hq
theorem st_eK {s : State} {b : Nat} (hts : ∀ w ∈ lw_tbl, w.before #[Value.ref b] s = true) (hgv : (Jvm.Cond.and given_1 narrow_1).before #[Value.ref b] s = true) : eK s ∧ eN s ∧ eZ (fun q : Nat => s.heap.size ≤ q) s s.heap := by
  have hf := flat_of_before _ hgv
  have hw : ∀ w ∈ stW, w.before #[Value.ref b] s = true := fun w h => hts w (st_W w h)
  have hA : ∀ a : Nat, a < s.heap.size → ¬ (fun q : Nat => s.heap.size ≤ q) a := fun a h => Nat.not_le.mpr h
  refine ⟨⟨fun w h => va_Nw.of (st_eWt w h) (hts w (st_eW w h)), fun q hq => ?_⟩, ⟨va_Nc.of (hf _ st_n1), va_Nc.of (hf _ st_n2)⟩, vx_Zqof (hw _ (List.mem_of_getElem? (i := 8) rfl)) (hw _ (List.mem_of_getElem? (i := 10) rfl)) (hf _ st_r1) hA, vx_Zqof (hw _ (List.mem_of_getElem? (i := 9) rfl)) (hw _ (List.mem_of_getElem? (i := 10) rfl)) (hf _ st_r2) hA⟩
  have h1 : (Cond.stringRef RX3 q.1 q.2).before #[Value.ref b] s = true := hts _ (st_eS _ (List.mem_map.mpr ⟨q, hq, rfl⟩))
  have h2 := hf _ (st_eX q hq)
  obtain ⟨a2, c, cA, kA, q1, -⟩ := Cond.exactly_spec (args := #[Value.ref b]) (first := s) (o := none) (s := s) (idx := []) (t := .string RX3 q.1) (cls := "java/lang/String") h2
  exact ⟨a2, vk_R.of h1 q1⟩
section KM
variable {p : Program} {l : Launch} {e : Env} {R : Room} {s : State} {m : MethodId} {args : Array Value} {below : List Frame} {meth : Method} {c : Code} {H : Heap} {locs : List Loc} {cells slots : Nat} {Q : State → Prop}
variable {cc : ByteArray} {nL : Nat} {own : String} {Ts : List Cond} {ret' : Option FieldType} {G : gG} {A : Nat → Prop} {pc : Nat} {ls : Array Slot} {ws : va_W} {rest : List Value}
theorem k_initM {y : MethodName} {wl wl' : List Cond} {rm : Room} {mc ms b index mL : Nat} {e0 : va_E} {U : Type} {po : U → Prop} {wf : U → va_W} {bytes : ByteArray} {lv : List (Nat × Value)} (cx : Cx p s m args meth c cc nL own Ts ret' G A) (hAO : va_AO RX1 s) (hC : kN l G y wl rm mc ms b e0 po wf) (hT : GoodIn Ts wl) (hw : wl = Cond.code y bytes mL none :: wl') (hrc : rm.cells = mc) (hrs : rm.slots = ms)
    (hlk : Cond.methodLink own index y ∈ Ts) (hin : Cond.initialized y.cls ∈ Ts) (him : Cond.instanceMethod y ∈ Ts) (hy1 : y.name = "<init>") (hd : y.cls ≠ "java/lang/invoke/MethodHandle" ∧ y.cls ≠ "java/lang/invoke/VarHandle" ∧ (parseMethodDescriptor y.desc).map (fun d => d.parameters.length) = some 0) (hR : rm.frames + 1 ≤ R.frames ∧ 8 + (mL + 11) + rm.locals ≤ R.locals)
    (hP : va_P G.1 vwCl (ws ++ [(b, e0)]) H) (hD : va_D A (ws ++ [(b, e0)])) (hS : va_S A s.heap H locs) (hsize : lv_has ls nL lv) (hroom : (rest.map fun v => v.category).sum ≤ 8) (hdg : decode cc pc = .ok (.invokespecial index, 3)) (hf : cells + mc ≤ R.cells ∧ slots + ms ≤ R.slots)
    (kk : ∀ (u : U) (H1 : Heap) (locs1 : List Loc), po u → va_P G.1 vwCl (ws ++ wf u) H1 → va_D A (ws ++ wf u) → va_S A s.heap H1 locs1 → W p l e R s m args below meth c H1 locs1 (cells + mc) (slots + ms) Q (F0 m (pc + 3) ls rest)) : W p l e R s m args below meth c H locs cells slots Q (F0 m pc ls (.ref b :: rest)) := by
  obtain ⟨hx, hb, hml, hown, hts, hr, hlocks, hK, hA⟩ := cx
  have hCc : [ws.length].map (fun i => (ws ++ [(b, e0)])[i]?) = [(b, e0)].map some := by simp
  have hPc := k_pick hP hCc
  have hDc := hD.sub [ws.length] rfl hCc
  have hFc := k_free hD hS hA hCc
  refine va_callv (va_runI (As := []) (rest := rest) ⟨hx, hb, hml, hown, hts⟩ (hC H.size) (cwI 0 hts hT hw hrc hrs (hts _ hin) (hts _ hlk) (hts _ him) hy1 hd hR) ⟨fun a U g mk q => by obtain ⟨q0, q1, qP, qK, qD, qA⟩ := q; exact ⟨q0, q1, qP, gK.warm (s := U) (U := U.calling g mk a) (State.WarmedH.refl (U : State)) qK, qD, va_AO.moved (u := U) (U := U.calling g mk a) (Vm.Alike.refl U.vm) qA⟩, fun U hU hW => ⟨rfl, by rw [hU], by rw [hU]; exact hPc, gK.warm hW hK, hDc.weaken (fun _ _ _ _ => trivial), va_AO.moved hW.alike hAO⟩⟩ rfl rfl hsize.1 rfl (lv_room hroom) hdg hf) hS (fun q _ h => hFc q h) hFc (fun u t H1 locs1 ht hvm hpo hB hz hk hS1 => ?_)
  obtain ⟨hP1, hD1⟩ := hB
  rw [ht] at hP1
  obtain ⟨h1, h2⟩ := k_joinL hP hD hk hFc hP1 hD1
  exact kk u H1 locs1 hpo h1 h2 hS1
end KM
theorem l_map {α : Type} (L : List α) (d : α) : L = (List.range L.length).map (fun k => L.getD k d) := by
  refine List.ext_getElem (by rw [List.length_map, List.length_range]) (fun i h1 h2 => ?_)
  rw [List.getElem_map, List.getElem_range, List.getD_eq_getElem?_getD, List.getElem?_eq_getElem h1]
  rfl
def Q16 (L : List qd) : Nat → qd := fun k => L.getD k (0, 0, 0, 0)
theorem pool_pw (G : gG) {L : List qd} (hL : L.length = 16) : pool0 G L = pw G (Q16 L) (fun _ => (iSt, iOh, z0, z0)) (List.range 16) := by
  have h := l_map L (0, 0, 0, 0)
  rw [hL] at h
  unfold pool0 pw
  conv => lhs; rw [h]
  rw [List.flatMap_map]
  rfl
theorem pq_16 {L1 L2 : List qd} (h1 : L1.length = 14) (h2 : L2.length = 2) : PQ (Q16 (L1 ++ L2)) (pgL L1) (pgL L2) := by
  refine ⟨fun k hk => ?_, fun k hk => ?_⟩
  · unfold pgL Q16
    rw [List.getD_eq_getElem?_getD, List.getElem?_append_left (by omega), List.getElem?_eq_getElem (by omega)]
    rfl
  · unfold pgL Q16
    rw [List.getD_eq_getElem?_getD, List.getElem?_append_right (by omega), show 14 + k - L1.length = k by omega, List.getElem?_eq_getElem (by omega)]
    rfl
theorem sr_0 : SR iSt iOh z0 z0 iNow := by
  have e13 : (iSt 13).toInt = 1 := by decide
  have e9 : (iNow 9).toInt = 1 := by decide
  have z : (z0 1).toInt = 0 := by decide
  refine ⟨fun j hj => ?_, ⟨by decide, by decide, by decide, by decide, by decide, by decide⟩, fun i hi => ?_, ⟨⟨by decide, by decide⟩, fun j w hj hw => ?_⟩, ⟨⟨by decide, by decide⟩, ⟨by decide, by decide⟩, fun i hi => ?_, ⟨by decide, by decide⟩, ⟨by decide, by decide⟩⟩, ⟨by decide, by decide⟩, ⟨by decide, by decide⟩, ⟨by decide, by decide⟩, ⟨by decide, by decide⟩, Or.inl (by decide)⟩
  · match j, hj with
    | 0, _ => decide
    | 1, _ => decide
    | 2, _ => decide
    | 3, _ => decide
    | 4, _ => decide
    | 5, _ => decide
    | 6, _ => decide
    | 7, _ => decide
    | 8, _ => decide
  · have : i = 0 := by omega
    subst this
    decide
  · omega
  · have : i = 0 := by omega
    subst this
    exact ⟨by decide, by decide⟩
theorem inv_0 : INV z0 z0 z0 iSt iOh z0 z0 z0 (fun _ => (iSt, iOh, z0, z0)) z0 z0 iNow z0 z0 z0 := by
  refine ⟨⟨rfl, ⟨by decide, by decide⟩, fun j _ => rfl, fun j => ⟨(show 0 ≤ (0 : Int32).toInt by decide), (show (0 : Int32).toInt ≤ 255 by decide)⟩⟩, sr_0, dr_0 rfl rfl rfl, fun k => Or.inl (show iSt 9 = 0 by decide), fun s' hs => ⟨rfl, Or.inl rfl, fun q => absurd rfl q⟩⟩
