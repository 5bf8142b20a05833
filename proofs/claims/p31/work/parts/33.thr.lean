/-! methods that throw: what they ask, what they leave -/
def eW : List Cond := [.castable "java/lang/IllegalArgumentException" "java/lang/IllegalArgumentException", .castable "java/lang/IllegalStateException" "java/lang/IllegalStateException", .castable "java/lang/IndexOutOfBoundsException" "java/lang/IndexOutOfBoundsException", .declares (Bundle.initS "java/lang/RuntimeException"), .declares (Bundle.initS "java/lang/Exception"), .declares (Bundle.initS Bundle.tN)]
def eS : List (Nat × String) := [(43, "c is not 0 to 255"), (54, "the text is full"), (65, "the text has an error"), (77, "what is not 0 to 15"), (85, "j is negative or what is not 0 to 3"), (95, "what is not 0 to 4"), (116, "the galvanometer sticks"), (128, "m is not 1 to 200"), (138, "what or v is out of range"), (150, "no such unknown resistor"), (156, "ohms is not 1 to 9999"), (158, "there are 6 unknown resistors"), (172, "no state is remembered"), (185, "limit is not 0 to 2"), (217, "presses or waits is out of range"), (234, "offset is not -50 to 300"), (236, "what is not 0 to 3"), (241, "n is not 1 to 3"), (247, "script is negative or too long"), (254, "m is not 1 to 99"), (263, "no such save slot"), (268, "nothing has been saved in this slot")]
def eX (k : Int32) : Option String := if k = 1 then some "java/lang/IllegalArgumentException" else if k = 2 then some "java/lang/IllegalStateException" else if k = 3 then some "java/lang/IndexOutOfBoundsException" else none
def eOk : Cond → Bool
  | .castable _ _ => true
  | .declares _ => true
  | _ => false
theorem eOk_warm {w : Cond} (h : eOk w = true) {s U : State} (hW : s.WarmedH U.vm) (hz : va_Nw w s) : va_Nw w U := by
  cases w <;> first | (exact va_Nw.warmC hW hz) | (exact va_Nw.warmD hW hz) | (exact absurd h (by simp [eOk]))
theorem eW_ok : ∀ w ∈ eW, eOk w = true := by decide +kernel
def eK (U : State) : Prop := (∀ w ∈ eW, va_Nw w U) ∧ ∀ q ∈ eS, ∃ sa, vk_R RX3 q.1 q.2 sa U
theorem eK.warm {s U : State} (hW : s.WarmedH U.vm) (h : eK s) : eK U := ⟨fun w hw => eOk_warm (eW_ok w hw) hW (h.1 w hw), fun q hq => (h.2 q hq).elim fun sa hsa => ⟨sa, vk_R.warm hW hsa⟩⟩
def eZ (A : Nat → Prop) (U : State) (H : Heap) : Prop := vx_Zq Bundle.tN "UNASSIGNED_STACK" Bundle.steD A U H ∧ vx_Zq Bundle.tN "SUPPRESSED_SENTINEL" Bundle.listD A U H
abbrev mX (G : gG) (av : List Value) (ws : va_W) (sz : Nat) : Array Value → State → Prop := va_Pc av (fun U => U.heap.size = sz ∧ va_P G.1 vwCl ws U.heap ∧ gK G U ∧ va_D (fun _ => True) ws ∧ eK U ∧ eZ (va_A ws sz) U U.heap)
def kX (l : Launch) (G : gG) (y : MethodName) (wl : List Cond) (rm : Room) (av : List Value) (ws : va_W) (Qc : (Nat → Prop) → Array Value → State → Outcome → State → Prop) (XC : (Nat → Prop) → String → State → State → Prop) : Prop :=
  ∀ sz, vx_Met l y wl rm (mX G av ws sz) (Qc (va_A ws sz)) (XC (va_A ws sz)) 1 6 (va_A ws sz)
abbrev qX (G : gG) (t r : Int32) (w1 : va_W) (A : Nat → Prop) : Array Value → State → Outcome → State → Prop := va_Qi (fun r' (_ : Unit) => t = 0 ∧ r' = r) (fun _ t' => va_P G.1 vwCl w1 t'.heap) A
abbrev xX (G : gG) (t : Int32) (w0 : va_W) (A : Nat → Prop) : String → State → State → Prop := vx_X (fun (_ : Unit) => True) (fun E _ t' => eX t = some E ∧ va_P G.1 vwCl w0 t'.heap) A
def Ct (l : Launch) (s : State) (c : Code) (A : Nat → Prop) : Prop := l.stackTraces = false ∧ (∀ x ∈ c.exceptionTable.toList, False) ∧ eK s ∧ eZ A s s.heap
theorem k_bodyX {l : Launch} {G : gG} {y : MethodName} {wl wl' : List Cond} {rm : Room} {av : List Value} {ws : va_W} {Qc : (Nat → Prop) → Array Value → State → Outcome → State → Prop} {XC : (Nat → Prop) → String → State → State → Prop} {cc : ByteArray} {nL : Nat} {ret : Option FieldType} (hlt : l.stackTraces = false) (hy : plainName y.cls = true) (hw : wl = Cond.code y cc nL ret :: wl') (hml : (lg_sl av).length ≤ nL)
    (body : ∀ p e s m args below meth c A, Cx p s m args meth c cc nL y.cls wl ret G A → Ct l s c A → va_P G.1 vwCl ws s.heap → va_D A ws → va_S A s.heap s.heap [] → ∀ ls, lv_has ls nL (lv_args 0 av) →
      W p l e rm s m args below meth c s.heap [] 0 0 (vx_MQ below (Qc A) (XC A) args s 1 6 A) (F0 m 0 ls [])) : kX l G y wl rm av ws Qc XC := by
  intro sz
  refine vx_ofW (cc := cc) (maxL := nL) (ret := ret) hy hw ?_
  intro p e s m args below meth c s₁ B hml' hex hv
  obtain ⟨rfl, hsz, hP, hK, hD0, hE, hZ⟩ := hv
  subst hsz
  have hts := atoms_spec (ws := wl) B.pre
  have hown : s.vm.findClass y.cls = some m.cls := findClass_of_methodNamed B.named
  have hl := lv_entry av (n := nL) hml
  rw [lg_entry_eq]
  exact body p e s m _ below meth c (va_A ws s.heap.size) ⟨B.exec, B.bytes, hml', hown, hts, B.returns, B.notSynchronized, hK, fun q h => Or.inr h⟩ ⟨hlt, hex, hE, hZ⟩ hP (hD0.self (sz := s.heap.size)) va_S.rf _ hl
theorem mX_blind {G : gG} {av : List Value} {ws : va_W} {sz : Nat} : FrameBlind (mX G av ws sz) := fun a U g mk q => by
  obtain ⟨q0, q1, qP, qK, qD, qE, qZ⟩ := q
  exact ⟨q0, q1, qP, gK.warm (s := U) (U := U.calling g mk a) (State.WarmedH.refl (U : State)) qK, qD, eK.warm (s := U) (U := U.calling g mk a) (State.WarmedH.refl (U : State)) qE, ⟨vx_Zq.moved (u := U) (U := U.calling g mk a) (Vm.Alike.refl U.vm) qZ.1, vx_Zq.moved (u := U) (U := U.calling g mk a) (Vm.Alike.refl U.vm) qZ.2⟩⟩
theorem mu_leN {N i : Int32} (hN : N.toInt < 2147483647) (h : ¬ N < i) : ((N : Int32).toInt + 1 - (i + 1 : Int32).toInt).toNat < ((N : Int32).toInt + 1 - (i : Int32).toInt).toNat := by
  rw [Int32.lt_iff_toInt_lt] at h
  have e1 : (1 : Int32).toInt = 1 := by decide
  have hb := i.le_toInt
  have e := toI_add (a := i) (b := 1) (by omega) (by omega)
  omega
theorem out_i {v lo hi : Int32} (h : P_X3_outside v lo hi = 0) : lo.toInt ≤ v.toInt ∧ v.toInt ≤ hi.toInt := by
  unfold P_X3_outside at h
  by_cases c1 : v < lo
  · rw [if_pos c1] at h; exact absurd h (by decide)
  · rw [if_neg c1] at h
    by_cases c2 : v ≤ hi
    · rw [Int32.lt_iff_toInt_lt] at c1
      rw [Int32.le_iff_toInt_le] at c2
      omega
    · rw [if_neg c2] at h; exact absurd h (by decide)
theorem ix_o2 {x : Int32} (h : P_X3_outside x 0 1 = 0) : vp_in x 2 := by
  have h1 := out_i h
  have e0 : (0 : Int32).toInt = 0 := by decide
  have e1 : (1 : Int32).toInt = 1 := by decide
  exact ix_of rfl (by omega) (by omega)
theorem nar_c {y : Int32} (_ : P_X3_outside y 0 255 = 0) : vp_nar .char (((y).toUInt32 % 65536).toInt32) = ((y).toUInt32 % 65536).toInt32 := by
  show (((((y).toUInt32 % 65536).toInt32).toUInt32 % 65536).toInt32) = _
  rw [UInt32.toUInt32_toInt32]
  have h : (y.toUInt32 % 65536) % 65536 = y.toUInt32 % 65536 := by
    apply UInt32.toNat_inj.mp
    simp only [UInt32.toNat_mod]
    exact Nat.mod_mod _ _
  rw [h]
theorem e1_45 : ∀ w ∈ (vx_atS RX3 45 "java/lang/IllegalArgumentException" ["java/lang/RuntimeException", "java/lang/Exception"]).filter (fun w => !goodWord w), w ∈ eW := by decide +kernel
theorem e1_56 : ∀ w ∈ (vx_atS RX3 56 "java/lang/IllegalStateException" ["java/lang/RuntimeException", "java/lang/Exception"]).filter (fun w => !goodWord w), w ∈ eW := by decide +kernel
theorem e1_152 : ∀ w ∈ (vx_atS RX3 152 "java/lang/IndexOutOfBoundsException" ["java/lang/RuntimeException", "java/lang/Exception"]).filter (fun w => !goodWord w), w ∈ eW := by decide +kernel
theorem e2_41_45 : ∀ w ∈ Cond.classLink RX3 41 "java/lang/IllegalArgumentException" :: Cond.initialized "java/lang/IllegalArgumentException" :: vx_atS RX3 45 "java/lang/IllegalArgumentException" ["java/lang/RuntimeException", "java/lang/Exception"], vx_ot w = true := by decide +kernel
theorem e2_52_56 : ∀ w ∈ Cond.classLink RX3 52 "java/lang/IllegalStateException" :: Cond.initialized "java/lang/IllegalStateException" :: vx_atS RX3 56 "java/lang/IllegalStateException" ["java/lang/RuntimeException", "java/lang/Exception"], vx_ot w = true := by decide +kernel
theorem e2_148_152 : ∀ w ∈ Cond.classLink RX3 148 "java/lang/IndexOutOfBoundsException" :: Cond.initialized "java/lang/IndexOutOfBoundsException" :: vx_atS RX3 152 "java/lang/IndexOutOfBoundsException" ["java/lang/RuntimeException", "java/lang/Exception"], vx_ot w = true := by decide +kernel
section KX
variable {p : Program} {l : Launch} {e : Env} {R : Room} {s : State} {m : MethodId} {args : Array Value} {below : List Frame} {meth : Method} {c : Code} {H : Heap} {locs : List Loc} {Q : State → Prop}
variable {cc : ByteArray} {nL : Nat} {own : String} {Ts : List Cond} {ret : Option FieldType} {G : gG} {A : Nat → Prop} {pc : Nat} {ls : Array Slot}
theorem k_iretX {v t : Int32} {w1 : va_W} {XC : String → State → State → Prop} (cx : Cx p s m args meth c cc nL own Ts (some .int) G A) (h0 : t = 0) (hP : va_P G.1 vwCl w1 H) (hS : va_S A s.heap H locs) (hdg : decode cc pc = .ok (.ireturn, 1)) :
    W p l e R s m args below meth c H locs 0 0 (vx_MQ below (qX G t v w1 A) XC args s 1 6 A) (F0 m pc ls [.int v]) := by
  obtain ⟨hx, hb, hml, hown, hts, hr, hlocks, hK, hA⟩ := cx
  refine vx_ret ?_
  refine W.widen (k := 1) (n := 6) (Nat.zero_le _) (Nat.zero_le _) ?_
  exact W.iret (v := v) hx hb hr (fun t ht hW => ⟨⟨v, (), rfl, ⟨h0, rfl⟩, by show va_P G.1 vwCl w1 t.heap; rw [ht]; exact hP⟩, hS.F ht⟩) hS.2.2 hdg
theorem k_xc {t : Int32} {w0 : va_W} {cls : String} (heX : eX t = some cls) (hP : va_P G.1 vwCl w0 H) (hS : va_S A s.heap H locs) : ∀ t' : State, s.vm.Alike t'.vm → H.size ≤ t'.heap.size → (∀ q : Nat, q < H.size → t'.heap[q]? = H[q]?) → xX G t w0 A cls s t' := fun t' hvm hsz hk =>
  ⟨(), trivial, ⟨heX, fun k q h => (hP k q h).kept (hk q.1 ((hP k q h).lt))⟩, ⟨Nat.le_trans hS.1 hsz, fun q h1 h2 => (hk q (Nat.lt_of_lt_of_le h1 hS.1)).trans (hS.2.1 q h1 h2)⟩⟩
theorem k_thrS {t r : Int32} {ws w0 : va_W} {cls tx : String} {ik is ic : Nat} {lv : List (Nat × Value)} (cx : Cx p s m args meth c cc nL RX3 Ts ret G A) (ct : Ct l s c A) (hf : Bundle.fit cls = true) (hk : Cond.classLink RX3 ik cls ∈ Ts ∧ Cond.initialized cls ∈ Ts) (htx : (is, tx) ∈ eS)
    (h1 : ∀ w ∈ (vx_atS RX3 ic cls ["java/lang/RuntimeException", "java/lang/Exception"]).filter goodWord, w ∈ Ts) (h2 : ∀ w ∈ (vx_atS RX3 ic cls ["java/lang/RuntimeException", "java/lang/Exception"]).filter (fun w => !goodWord w), w ∈ eW) (h3 : ∀ w ∈ Cond.classLink RX3 ik cls :: Cond.initialized cls :: vx_atS RX3 ic cls ["java/lang/RuntimeException", "java/lang/Exception"], vx_ot w = true)
    (heX : eX t = some cls) (hP : va_P G.1 vwCl w0 H) (hS : va_S A s.heap H locs) (hl : lv_has ls nL lv) (hR : 6 ≤ R.frames ∧ 82 ≤ R.locals ∧ 1 ≤ R.cells ∧ 6 ≤ R.slots)
    (d0 : decode cc pc = .ok (.new ik, 3)) (d3 : decode cc (pc + 3) = .ok (.dup, 1)) (d4 : decode cc (pc + 4) = .ok (.ldc is, 2)) (d6 : decode cc (pc + 6) = .ok (.invokespecial ic, 3)) (d9 : decode cc (pc + 9) = .ok (.athrow, 1)) :
    W p l e R s m args below meth c H locs 0 0 (vx_MQ below (qX G t r ws A) (xX G t w0 A) args s 1 6 A) (F0 m pc ls []) := by
  obtain ⟨hx, hb, hml, hown, hts, hr, hlocks, hK, hA⟩ := cx
  obtain ⟨hlt, hex, hE, hZ⟩ := ct
  obtain ⟨sa, hsa⟩ := hE.2 _ htx
  exact vx_throwS (rest := []) hx hb hlt hown hf (by decide +kernel) (hts _ hk.1) (hts _ hk.2) hsa (vx_hat (fun w hw => hts w (h1 w hw)) h2 (fun w hw => va_Nw.use (by revert w; decide +kernel) (hE.1 w hw))) h3 hZ.1 hZ.2 hS (hl.1.trans hml.symm) d0 d3 d4 d6 d9 (fun x hx => (hex x hx).elim) hR.1 (by show 0 + (13 * (2 + 1) + 43) ≤ _; omega) (by omega) (by omega) hlocks (k_xc heX hP hS) hS.2.2 (Nat.le_refl _) (Nat.le_refl _)
theorem k_thrW {t r : Int32} {ws w0 : va_W} {cls tx : String} {ik is ic : Nat} {lv : List (Nat × Value)} (cx : Cx p s m args meth c cc nL RX3 Ts ret G A) (ct : Ct l s c A) (hf : Bundle.fit cls = true) (hk : Cond.classLink RX3 ik cls ∈ Ts ∧ Cond.initialized cls ∈ Ts) (htx : (is, tx) ∈ eS)
    (h1 : ∀ w ∈ (vx_atS RX3 ic cls ["java/lang/RuntimeException", "java/lang/Exception"]).filter goodWord, w ∈ Ts) (h2 : ∀ w ∈ (vx_atS RX3 ic cls ["java/lang/RuntimeException", "java/lang/Exception"]).filter (fun w => !goodWord w), w ∈ eW) (h3 : ∀ w ∈ Cond.classLink RX3 ik cls :: Cond.initialized cls :: vx_atS RX3 ic cls ["java/lang/RuntimeException", "java/lang/Exception"], vx_ot w = true)
    (heX : eX t = some cls) (hP : va_P G.1 vwCl w0 H) (hS : va_S A s.heap H locs) (hl : lv_has ls nL lv) (hR : 6 ≤ R.frames ∧ 82 ≤ R.locals ∧ 1 ≤ R.cells ∧ 6 ≤ R.slots)
    (d0 : decode cc pc = .ok (.new ik, 3)) (d3 : decode cc (pc + 3) = .ok (.dup, 1)) (d4 : decode cc (pc + 4) = .ok (.ldc_w is, 3)) (d7 : decode cc (pc + 7) = .ok (.invokespecial ic, 3)) (d10 : decode cc (pc + 10) = .ok (.athrow, 1)) :
    W p l e R s m args below meth c H locs 0 0 (vx_MQ below (qX G t r ws A) (xX G t w0 A) args s 1 6 A) (F0 m pc ls []) := by
  obtain ⟨hx, hb, hml, hown, hts, hr, hlocks, hK, hA⟩ := cx
  obtain ⟨hlt, hex, hE, hZ⟩ := ct
  obtain ⟨sa, hsa⟩ := hE.2 _ htx
  exact vx_throwSW (rest := []) hx hb hlt hown hf (by decide +kernel) (hts _ hk.1) (hts _ hk.2) hsa (vx_hat (fun w hw => hts w (h1 w hw)) h2 (fun w hw => va_Nw.use (by revert w; decide +kernel) (hE.1 w hw))) h3 hZ.1 hZ.2 hS (hl.1.trans hml.symm) d0 d3 d4 d7 d10 (fun x hx => (hex x hx).elim) hR.1 (by show 0 + (13 * (2 + 1) + 43) ≤ _; omega) (by omega) (by omega) hlocks (k_xc heX hP hS) hS.2.2 (Nat.le_refl _) (Nat.le_refl _)
end KX
