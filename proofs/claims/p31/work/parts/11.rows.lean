/-! rows: fields, arrays, over Cx -/
section KR2
variable {p : Program} {l : Launch} {e : Env} {R : Room} {s : State} {m : MethodId} {args : Array Value} {below : List Frame} {meth : Method} {c : Code} {H : Heap} {locs : List Loc} {cells slots : Nat} {Q : State → Prop}
variable {cc : ByteArray} {nL : Nat} {own : String} {Ts : List Cond} {ret : Option FieldType} {G : gG} {A : Nat → Prop} {pc : Nat} {ls : Array Slot} {ws ws' : va_W} {rest : List Value} {b : Nat} {f : Nat → Int32} {n j : Nat} {i : Int32}
theorem k_get {T : u_T} {C : String} {N ci index : Nat} {fs : List Value} (cx : Cx p s m args meth c cc nL own Ts ret G A) (hin : ∀ w ∈ u_ws C T N, w ∈ Ts) (hP : va_P G.1 vwCl ws H) (q0 : Nat) (he : ws[q0]? = some (b, .inr (ci, fs))) (hc : vwCl[ci]? = some (C, T, N)) (k : Nat) (hk : k < N) {v : Value} (hlink : Cond.fieldLink own index (T k).1 (T k).2.1 (T k).2.2.1 ∈ Ts) (hv : fs[k]? = some v) (hdg : decode cc pc = .ok (.getfield index, 3))
    (kk : W p l e R s m args below meth c H locs cells slots Q (F0 m (pc + 3) ls (v :: rest))) : W p l e R s m args below meth c H locs cells slots Q (F0 m pc ls (.ref b :: rest)) := by
  obtain ⟨hx, hb, hml, hown, hts, hr, hlocks, hK, hA⟩ := cx
  exact va_get hx hb hts hin hown hK.1 hP q0 he hc k hk (hts _ hlink) (fun _ h => h) hv hdg kk
theorem k_getN {T : u_T} {C host : String} {N ci index : Nat} {fs : List Value} (cx : Cx p s m args meth c cc nL own Ts ret G A) (hin : ∀ w ∈ u_ws C T N, w ∈ Ts) (hP : va_P G.1 vwCl ws H) (q0 : Nat) (he : ws[q0]? = some (b, .inr (ci, fs))) (hc : vwCl[ci]? = some (C, T, N)) (k : Nat) (hk : k < N) {v : Value} (hlink : Cond.fieldLinkNest own index (T k).1 (T k).2.1 (T k).2.2.1 host ∈ gN) (hv : fs[k]? = some v) (hdg : decode cc pc = .ok (.getfield index, 3))
    (kk : W p l e R s m args below meth c H locs cells slots Q (F0 m (pc + 3) ls (v :: rest))) : W p l e R s m args below meth c H locs cells slots Q (F0 m pc ls (.ref b :: rest)) := by
  obtain ⟨hx, hb, hml, hown, hts, hr, hlocks, hK, hA⟩ := cx
  exact va_getN hx hb hts hin hown hK.1 hP q0 he hc k hk ((hK.2 _ hlink).use rfl) (fun _ h => h) hv hdg kk
theorem k_put {T : u_T} {C : String} {N ci index : Nat} {fs : List Value} {ty0 : Nat → FieldType} {ty : FieldType} {v : Value} (cx : Cx p s m args meth c cc nL own Ts ret G A) (hin : ∀ w ∈ u_ws C T N, w ∈ Ts) (hty : ∀ k, k < N → parseFieldDescriptor (T k).2.2.1 = some (ty0 k)) (hnm : ∀ a, a < N → ∀ b, b < N → a ≠ b → (T a).2.1 ≠ (T b).2.1) (hP : va_P G.1 vwCl ws H) (hD : va_D A ws) (hS : va_S A s.heap H locs) (q0 : Nat) (he : ws[q0]? = some (b, .inr (ci, fs))) (hc : vwCl[ci]? = some (C, T, N)) (k : Nat) (hk : k < N)
    (hlink : Cond.fieldLink own index (T k).1 (T k).2.1 (T k).2.2.1 ∈ Ts) (hfin : (T k).2.2.2 = false) (hd : ty0 k = ty) (hn : narrow ty v = v) (hfit : fits ty v = true) (hl : k < fs.length) (hw : ws.set q0 (b, .inr (ci, fs.set k v)) = ws') (hdg : decode cc pc = .ok (.putfield index, 3))
    (kk : ∀ (H1 : Heap) (locs1 : List Loc), va_P G.1 vwCl ws' H1 → va_D A ws' → va_S A s.heap H1 locs1 → W p l e R s m args below meth c H1 locs1 cells slots Q (F0 m (pc + 3) ls rest)) : W p l e R s m args below meth c H locs cells slots Q (F0 m pc ls (v :: .ref b :: rest)) := by
  obtain ⟨hx, hb, hml, hown, hts, hr, hlocks, hK, hA⟩ := cx
  subst hw
  exact va_put hx hb hts hin ty0 hty hnm hown hK.1 hP hD hS q0 he hc k hk (hts _ hlink) (fun _ h => h) hfin (hd ▸ hty k hk) hn hfit hl hdg kk
theorem k_putN {T : u_T} {C host : String} {N ci index : Nat} {fs : List Value} {ty0 : Nat → FieldType} {ty : FieldType} {v : Value} (cx : Cx p s m args meth c cc nL own Ts ret G A) (hin : ∀ w ∈ u_ws C T N, w ∈ Ts) (hty : ∀ k, k < N → parseFieldDescriptor (T k).2.2.1 = some (ty0 k)) (hnm : ∀ a, a < N → ∀ b, b < N → a ≠ b → (T a).2.1 ≠ (T b).2.1) (hP : va_P G.1 vwCl ws H) (hD : va_D A ws) (hS : va_S A s.heap H locs) (q0 : Nat) (he : ws[q0]? = some (b, .inr (ci, fs))) (hc : vwCl[ci]? = some (C, T, N)) (k : Nat) (hk : k < N)
    (hlink : Cond.fieldLinkNest own index (T k).1 (T k).2.1 (T k).2.2.1 host ∈ gN) (hfin : (T k).2.2.2 = false) (hd : ty0 k = ty) (hn : narrow ty v = v) (hfit : fits ty v = true) (hl : k < fs.length) (hw : ws.set q0 (b, .inr (ci, fs.set k v)) = ws') (hdg : decode cc pc = .ok (.putfield index, 3))
    (kk : ∀ (H1 : Heap) (locs1 : List Loc), va_P G.1 vwCl ws' H1 → va_D A ws' → va_S A s.heap H1 locs1 → W p l e R s m args below meth c H1 locs1 cells slots Q (F0 m (pc + 3) ls rest)) : W p l e R s m args below meth c H locs cells slots Q (F0 m pc ls (v :: .ref b :: rest)) := by
  obtain ⟨hx, hb, hml, hown, hts, hr, hlocks, hK, hA⟩ := cx
  subst hw
  exact va_putN hx hb hts hin ty0 hty hnm hown hK.1 hP hD hS q0 he hc k hk ((hK.2 _ hlink).use rfl) (fun _ h => h) hfin (hd ▸ hty k hk) hn hfit hl hdg kk
theorem k_iald (cx : Cx p s m args meth c cc nL own Ts ret G A) (hP : va_P G.1 vwCl ws H) (q0 : Nat) (he : ws[q0]? = some (b, .inl (G.2.1, n, .inl f))) (hj : i.toNatClampNeg = j) (hi : vp_in i n) (hdg : decode cc pc = .ok (.iaload, 1))
    (kk : W p l e R s m args below meth c H locs cells slots Q (F0 m (pc + 1) ls (.int (f j) :: rest))) : W p l e R s m args below meth c H locs cells slots Q (F0 m pc ls (.int i :: .ref b :: rest)) := by
  obtain ⟨hx, hb, hml, hown, hts, hr, hlocks, hK, hA⟩ := cx
  subst hj
  exact va_iald hx hb hK.1 hP q0 0 he rfl hi hdg kk
theorem k_cald (cx : Cx p s m args meth c cc nL own Ts ret G A) (hP : va_P G.1 vwCl ws H) (q0 : Nat) (he : ws[q0]? = some (b, .inl (G.2.2.1, n, .inl f))) (hj : i.toNatClampNeg = j) (hi : vp_in i n) (hdg : decode cc pc = .ok (.caload, 1))
    (kk : W p l e R s m args below meth c H locs cells slots Q (F0 m (pc + 1) ls (.int (f j) :: rest))) : W p l e R s m args below meth c H locs cells slots Q (F0 m pc ls (.int i :: .ref b :: rest)) := by
  obtain ⟨hx, hb, hml, hown, hts, hr, hlocks, hK, hA⟩ := cx
  subst hj
  exact va_cald hx hb hK.1 hP q0 1 he rfl hi hdg kk
theorem k_zald (cx : Cx p s m args meth c cc nL own Ts ret G A) (hP : va_P G.1 vwCl ws H) (q0 : Nat) (he : ws[q0]? = some (b, .inl (G.2.2.2.1, n, .inl f))) (hj : i.toNatClampNeg = j) (hi : vp_in i n) (hdg : decode cc pc = .ok (.baload, 1))
    (kk : W p l e R s m args below meth c H locs cells slots Q (F0 m (pc + 1) ls (.int (f j) :: rest))) : W p l e R s m args below meth c H locs cells slots Q (F0 m pc ls (.int i :: .ref b :: rest)) := by
  obtain ⟨hx, hb, hml, hown, hts, hr, hlocks, hK, hA⟩ := cx
  subst hj
  exact va_zald hx hb hK.1 hP q0 2 he rfl hi hdg kk
theorem k_aald {g : Nat → Option Nat} (cx : Cx p s m args meth c cc nL own Ts ret G A) (hP : va_P G.1 vwCl ws H) (q0 : Nat) (he : ws[q0]? = some (b, .inl (G.2.2.2.2, n, .inr (.inr (.inr (.inr g)))))) (hj : i.toNatClampNeg = j) (hi : vp_in i n) (hdg : decode cc pc = .ok (.aaload, 1))
    (kk : W p l e R s m args below meth c H locs cells slots Q (F0 m (pc + 1) ls (va_rf (g j) :: rest))) : W p l e R s m args below meth c H locs cells slots Q (F0 m pc ls (.int i :: .ref b :: rest)) := by
  obtain ⟨hx, hb, hml, hown, hts, hr, hlocks, hK, hA⟩ := cx
  subst hj
  exact va_aldq hx hb hK.1 hP q0 3 he rfl hi hdg kk
theorem k_iast {x : Int32} (cx : Cx p s m args meth c cc nL own Ts ret G A) (hP : va_P G.1 vwCl ws H) (hD : va_D A ws) (hS : va_S A s.heap H locs) (q0 : Nat) (he : ws[q0]? = some (b, .inl (G.2.1, n, .inl f))) (hj : i.toNatClampNeg = j) (hi : vp_in i n) (hw : ws.set q0 (b, .inl (G.2.1, n, .inl (upd f j x))) = ws') (hdg : decode cc pc = .ok (.iastore, 1))
    (kk : ∀ (H1 : Heap) (locs1 : List Loc), va_P G.1 vwCl ws' H1 → va_D A ws' → va_S A s.heap H1 locs1 → W p l e R s m args below meth c H1 locs1 cells slots Q (F0 m (pc + 1) ls rest)) : W p l e R s m args below meth c H locs cells slots Q (F0 m pc ls (.int x :: .int i :: .ref b :: rest)) := by
  obtain ⟨hx, hb, hml, hown, hts, hr, hlocks, hK, hA⟩ := cx
  subst hj
  subst hw
  exact va_iast hx hb hK.1 hP hD hS q0 0 he rfl hi hdg kk
theorem k_cast {x z : Int32} (cx : Cx p s m args meth c cc nL own Ts ret G A) (hP : va_P G.1 vwCl ws H) (hD : va_D A ws) (hS : va_S A s.heap H locs) (q0 : Nat) (he : ws[q0]? = some (b, .inl (G.2.2.1, n, .inl f))) (hj : i.toNatClampNeg = j) (hi : vp_in i n) (hz : vp_nar .char x = z) (hw : ws.set q0 (b, .inl (G.2.2.1, n, .inl (upd f j z))) = ws') (hdg : decode cc pc = .ok (.castore, 1))
    (kk : ∀ (H1 : Heap) (locs1 : List Loc), va_P G.1 vwCl ws' H1 → va_D A ws' → va_S A s.heap H1 locs1 → W p l e R s m args below meth c H1 locs1 cells slots Q (F0 m (pc + 1) ls rest)) : W p l e R s m args below meth c H locs cells slots Q (F0 m pc ls (.int x :: .int i :: .ref b :: rest)) := by
  obtain ⟨hx, hb, hml, hown, hts, hr, hlocks, hK, hA⟩ := cx
  subst hj
  subst hz
  subst hw
  exact va_cast hx hb hK.1 hP hD hS q0 1 he rfl hi hdg kk
theorem k_zast {x z : Int32} (cx : Cx p s m args meth c cc nL own Ts ret G A) (hP : va_P G.1 vwCl ws H) (hD : va_D A ws) (hS : va_S A s.heap H locs) (q0 : Nat) (he : ws[q0]? = some (b, .inl (G.2.2.2.1, n, .inl f))) (hj : i.toNatClampNeg = j) (hi : vp_in i n) (hz : vp_nar .boolean x = z) (hw : ws.set q0 (b, .inl (G.2.2.2.1, n, .inl (upd f j z))) = ws') (hdg : decode cc pc = .ok (.bastore, 1))
    (kk : ∀ (H1 : Heap) (locs1 : List Loc), va_P G.1 vwCl ws' H1 → va_D A ws' → va_S A s.heap H1 locs1 → W p l e R s m args below meth c H1 locs1 cells slots Q (F0 m (pc + 1) ls rest)) : W p l e R s m args below meth c H locs cells slots Q (F0 m pc ls (.int x :: .int i :: .ref b :: rest)) := by
  obtain ⟨hx, hb, hml, hown, hts, hr, hlocks, hK, hA⟩ := cx
  subst hj
  subst hz
  subst hw
  exact va_zast hx hb hK.1 hP hD hS q0 2 he rfl hi hdg kk
theorem k_alenI {v : Int32} {t0 : Nat} {cA : ClassId} {x : vp_A} {ty : FieldType} (cx : Cx p s m args meth c cc nL own Ts ret G A) (hP : va_P G.1 vwCl ws H) (q0 : Nat) (he : ws[q0]? = some (b, .inl (cA, x))) (ht : (gT G)[t0]? = some (cA, ty)) (hv : Int32.ofNat x.1 = v) (hdg : decode cc pc = .ok (.arraylength, 1))
    (kk : W p l e R s m args below meth c H locs cells slots Q (F0 m (pc + 1) ls (.int v :: rest))) : W p l e R s m args below meth c H locs cells slots Q (F0 m pc ls (.ref b :: rest)) := by
  obtain ⟨hx, hb, hml, hown, hts, hr, hlocks, hK, hA⟩ := cx
  exact va_alen hx hb hK.1 hP q0 t0 he ht hv hdg kk
theorem k_max {index : Nat} {x y : Int32} {lv : List (Nat × Value)} (cx : Cx p s m args meth c cc nL own Ts ret G A) (hl : lv_has ls nL lv) (h1 : Cond.methodLink own index Lib.Math.max.name ∈ Ts) (h2 : Cond.static Lib.Math.max.name ∈ Ts) (h3 : Cond.initialized "java/lang/Math" ∈ Ts) (h4 : Cond.code Lib.Math.max.name Lib.Math.max.code 2 (some .int) ∈ Ts)
    (hR : 1 ≤ R.frames ∧ (rest.map fun v => v.category).sum + 13 ≤ R.locals ∧ cells ≤ R.cells ∧ slots ≤ R.slots) (hdg : decode cc pc = .ok (.invokestatic index, 3)) (kk : W p l e R s m args below meth c H locs cells slots Q (F0 m (pc + 3) ls (.int (if x < y then y else x) :: rest))) : W p l e R s m args below meth c H locs cells slots Q (F0 m pc ls (.int y :: .int x :: rest)) := by
  obtain ⟨hx, hb, hml, hown, hts, hr, hlocks, hK, hA⟩ := cx
  exact va_mmax hx hb (hml.trans hl.1.symm) hown (hts _ h1) (hts _ h2) (hts _ h3) (hts _ h4) hR.1 hR.2.1 hR.2.2.1 hR.2.2.2 hdg kk
theorem k_min {index : Nat} {x y : Int32} {lv : List (Nat × Value)} (cx : Cx p s m args meth c cc nL own Ts ret G A) (hl : lv_has ls nL lv) (h1 : Cond.methodLink own index Lib.Math.min.name ∈ Ts) (h2 : Cond.static Lib.Math.min.name ∈ Ts) (h3 : Cond.initialized "java/lang/Math" ∈ Ts) (h4 : Cond.code Lib.Math.min.name Lib.Math.min.code 2 (some .int) ∈ Ts)
    (hR : 1 ≤ R.frames ∧ (rest.map fun v => v.category).sum + 13 ≤ R.locals ∧ cells ≤ R.cells ∧ slots ≤ R.slots) (hdg : decode cc pc = .ok (.invokestatic index, 3)) (kk : W p l e R s m args below meth c H locs cells slots Q (F0 m (pc + 3) ls (.int (if y < x then y else x) :: rest))) : W p l e R s m args below meth c H locs cells slots Q (F0 m pc ls (.int y :: .int x :: rest)) := by
  obtain ⟨hx, hb, hml, hown, hts, hr, hlocks, hK, hA⟩ := cx
  exact va_mmin hx hb (hml.trans hl.1.symm) hown (hts _ h1) (hts _ h2) (hts _ h3) (hts _ h4) hR.1 hR.2.1 hR.2.2.1 hR.2.2.2 hdg kk
theorem k_abs {index : Nat} {x : Int32} {lv : List (Nat × Value)} (cx : Cx p s m args meth c cc nL own Ts ret G A) (hl : lv_has ls nL lv) (h1 : Cond.methodLink own index Lib.Math.abs.name ∈ Ts) (h2 : Cond.static Lib.Math.abs.name ∈ Ts) (h3 : Cond.initialized "java/lang/Math" ∈ Ts) (h4 : Cond.code Lib.Math.abs.name Lib.Math.abs.code 1 (some .int) ∈ Ts)
    (hR : 1 ≤ R.frames ∧ (rest.map fun v => v.category).sum + 13 ≤ R.locals ∧ cells ≤ R.cells ∧ slots ≤ R.slots) (hdg : decode cc pc = .ok (.invokestatic index, 3)) (kk : W p l e R s m args below meth c H locs cells slots Q (F0 m (pc + 3) ls (.int (if 0 ≤ x then x else 0 - x) :: rest))) : W p l e R s m args below meth c H locs cells slots Q (F0 m pc ls (.int x :: rest)) := by
  obtain ⟨hx, hb, hml, hown, hts, hr, hlocks, hK, hA⟩ := cx
  exact va_mabs hx hb (hml.trans hl.1.symm) hown (hts _ h1) (hts _ h2) (hts _ h3) (hts _ h4) hR.1 hR.2.1 hR.2.2.1 hR.2.2.2 hdg kk
theorem k_ldc2 {index : Nat} {v : Int64} (cx : Cx p s m args meth c cc nL own Ts ret G A) (h1 : Cond.constantLong own index v ∈ Ts) (hdg : decode cc pc = .ok (.ldc2_w index, 3)) (kk : W p l e R s m args below meth c H locs cells slots Q (F0 m (pc + 3) ls (.long v :: rest))) : W p l e R s m args below meth c H locs cells slots Q (F0 m pc ls rest) := by
  obtain ⟨hx, hb, hml, hown, hts, hr, hlocks, hK, hA⟩ := cx
  exact lv_ldc2 hx hb hown (hts _ h1) hdg kk
end KR2
-- switches
theorem sw_lo {x k : Int32} {lo : Int} (h : x = k) (hk : ¬ k.toInt < lo) : ¬ x.toInt < lo := by rw [h]; exact hk
theorem sw_hi {x k : Int32} {hi : Int} (h : x = k) (hk : ¬ hi < k.toInt) : ¬ hi < x.toInt := by rw [h]; exact hk
theorem sw_at {x k : Int32} {lo : Int} {offs : Array Int} {o : Option Int} (h : x = k) (hk : offs[(k.toInt - lo).toNat]? = o) : offs[(x.toInt - lo).toNat]? = o := by rw [h]; exact hk
theorem fa_le0 (a b : Int32) : a ≤ b ↔ a.toInt ≤ b.toInt := Int32.le_iff_toInt_le
theorem mu_up {N i : Int32} (h : ¬ N ≤ i) : (N.toInt - (i + 1).toInt).toNat < (N.toInt - i.toInt).toNat := by
  have h1 : i.toInt < N.toInt := by
    rw [fa_le0] at h
    omega
  have hb1 := N.toInt_lt
  have hb2 := i.le_toInt
  have h2 : (i + 1).toInt = i.toInt + 1 := by
    rw [Int32.toInt_add]
    have : (1 : Int32).toInt = 1 := by decide
    rw [this]
    apply Int.bmod_eq_of_le <;> omega
  omega
