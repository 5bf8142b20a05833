/-! the nest words -/
abbrev vwCl : List vw_C := [(RX0, TX0, 3), (RX1, TX1, 16), (RX2, TX2, 2), (RX3, TX3, 8)]
def gN : List Cond := [.methodLinkNest RX3 9 yX2_init RX3, .methodLinkNest RX3 18 yX1_init RX3, .methodLinkNest RX1 36 yX0_init RX3, .methodLinkNest RX3 61 yX2_firstError RX3, .methodLinkNest RX3 181 yX1_copyFrom RX3, .methodLinkNest RX1 70 yX0_copyFrom RX3, .methodLinkNest RX3 163 yX1_loosen RX3, .methodLinkNest RX3 100 yX1_difference RX3, .methodLinkNest RX1 100 yX3_power RX3, .methodLinkNest RX3 103 yX1_denominator RX3, .methodLinkNest RX3 109 yX1_offset RX3, .methodLinkNest RX3 210 yX1_deflection RX3, .methodLinkNest RX3 57 yX2_put RX3, .methodLinkNest RX3 67 yX1_take RX3, .methodLinkNest RX1 74 yX2_digits RX3, .methodLinkNest RX1 80 yX2_letter RX3, .methodLinkNest RX1 84 yX2_unknowns RX3, .methodLinkNest RX1 87 yX2_unknownAt RX3, .methodLinkNest RX1 91 yX0_wipe RX3, .methodLinkNest RX3 79 yX1_number RX3, .methodLinkNest RX3 91 yX0_cell RX3, .methodLinkNest RX3 121 yX1_pressKey RX3, .methodLinkNest RX1 129 yX0_write RX3, .methodLinkNest RX3 125 yX1_pressBothWays RX3, .methodLinkNest RX3 130 yX1_waitTicks RX3, .methodLinkNest RX3 134 yX1_mayBe RX3, .methodLinkNest RX3 140 yX1_change RX3, .methodLinkNest RX3 144 yX1_hasUnknown RX3, .methodLinkNest RX3 160 yX1_putUnknown RX3, .methodLinkNest RX3 166 yX1_balanceBox RX3, .methodLinkNest RX3 199 yX1_ohmsOf RX3, .methodLinkNest RX3 225 yX1_warmed RX3, .methodLinkNest RX3 228 yX1_cooled RX3, .methodLinkNest RX3 231 yX1_offsetAt RX3, .fieldLinkNest RX3 48 "MirrorBridge$Text" "length" "I" RX3, .fieldLinkNest RX1 97 "MirrorBridge$Ledger" "size" "I" RX3, .fieldLinkNest RX3 283 "MirrorBridge$Ledger" "size" "I" RX3, .fieldLinkNest RX3 187 "MirrorBridge$State" "p" "I" RX3, .fieldLinkNest RX3 193 "MirrorBridge$State" "q" "I" RX3, .fieldLinkNest RX3 97 "MirrorBridge$State" "r" "I" RX3, .fieldLinkNest RX3 222 "MirrorBridge$State" "e" "I" RX3, .fieldLinkNest RX3 286 "MirrorBridge$State" "shunt" "I" RX3, .fieldLinkNest RX3 219 "MirrorBridge$State" "warmth" "I" RX3, .fieldLinkNest RX3 265 "MirrorBridge$State" "clock" "I" RX3, .fieldLinkNest RX3 112 "MirrorBridge$State" "sticks" "Z" RX3, .fieldLinkNest RX3 238 "MirrorBridge$State" "presses" "I" RX3, .fieldLinkNest RX3 74 "MirrorBridge$State" "unknowns" "I" RX3, .fieldLinkNest RX3 153 "MirrorBridge$State" "chosen" "I" RX3, .fieldLinkNest RX3 87 "MirrorBridge$State" "ledger" "LMirrorBridge$Ledger;" RX3]
theorem nn_X3_9 : Cond.methodLinkNest RX3 9 yX2_init RX3 ∈ gN := List.mem_of_getElem? (i := 0) rfl
theorem nn_X3_18 : Cond.methodLinkNest RX3 18 yX1_init RX3 ∈ gN := List.mem_of_getElem? (i := 1) rfl
theorem nn_X1_36 : Cond.methodLinkNest RX1 36 yX0_init RX3 ∈ gN := List.mem_of_getElem? (i := 2) rfl
theorem nn_X3_61 : Cond.methodLinkNest RX3 61 yX2_firstError RX3 ∈ gN := List.mem_of_getElem? (i := 3) rfl
theorem nn_X3_181 : Cond.methodLinkNest RX3 181 yX1_copyFrom RX3 ∈ gN := List.mem_of_getElem? (i := 4) rfl
theorem nn_X1_70 : Cond.methodLinkNest RX1 70 yX0_copyFrom RX3 ∈ gN := List.mem_of_getElem? (i := 5) rfl
theorem nn_X3_163 : Cond.methodLinkNest RX3 163 yX1_loosen RX3 ∈ gN := List.mem_of_getElem? (i := 6) rfl
theorem nn_X3_100 : Cond.methodLinkNest RX3 100 yX1_difference RX3 ∈ gN := List.mem_of_getElem? (i := 7) rfl
theorem nn_X1_100 : Cond.methodLinkNest RX1 100 yX3_power RX3 ∈ gN := List.mem_of_getElem? (i := 8) rfl
theorem nn_X3_103 : Cond.methodLinkNest RX3 103 yX1_denominator RX3 ∈ gN := List.mem_of_getElem? (i := 9) rfl
theorem nn_X3_109 : Cond.methodLinkNest RX3 109 yX1_offset RX3 ∈ gN := List.mem_of_getElem? (i := 10) rfl
theorem nn_X3_210 : Cond.methodLinkNest RX3 210 yX1_deflection RX3 ∈ gN := List.mem_of_getElem? (i := 11) rfl
theorem nn_X3_57 : Cond.methodLinkNest RX3 57 yX2_put RX3 ∈ gN := List.mem_of_getElem? (i := 12) rfl
theorem nn_X3_67 : Cond.methodLinkNest RX3 67 yX1_take RX3 ∈ gN := List.mem_of_getElem? (i := 13) rfl
theorem nn_X1_74 : Cond.methodLinkNest RX1 74 yX2_digits RX3 ∈ gN := List.mem_of_getElem? (i := 14) rfl
theorem nn_X1_80 : Cond.methodLinkNest RX1 80 yX2_letter RX3 ∈ gN := List.mem_of_getElem? (i := 15) rfl
theorem nn_X1_84 : Cond.methodLinkNest RX1 84 yX2_unknowns RX3 ∈ gN := List.mem_of_getElem? (i := 16) rfl
theorem nn_X1_87 : Cond.methodLinkNest RX1 87 yX2_unknownAt RX3 ∈ gN := List.mem_of_getElem? (i := 17) rfl
theorem nn_X1_91 : Cond.methodLinkNest RX1 91 yX0_wipe RX3 ∈ gN := List.mem_of_getElem? (i := 18) rfl
theorem nn_X3_79 : Cond.methodLinkNest RX3 79 yX1_number RX3 ∈ gN := List.mem_of_getElem? (i := 19) rfl
theorem nn_X3_91 : Cond.methodLinkNest RX3 91 yX0_cell RX3 ∈ gN := List.mem_of_getElem? (i := 20) rfl
theorem nn_X3_121 : Cond.methodLinkNest RX3 121 yX1_pressKey RX3 ∈ gN := List.mem_of_getElem? (i := 21) rfl
theorem nn_X1_129 : Cond.methodLinkNest RX1 129 yX0_write RX3 ∈ gN := List.mem_of_getElem? (i := 22) rfl
theorem nn_X3_125 : Cond.methodLinkNest RX3 125 yX1_pressBothWays RX3 ∈ gN := List.mem_of_getElem? (i := 23) rfl
theorem nn_X3_130 : Cond.methodLinkNest RX3 130 yX1_waitTicks RX3 ∈ gN := List.mem_of_getElem? (i := 24) rfl
theorem nn_X3_134 : Cond.methodLinkNest RX3 134 yX1_mayBe RX3 ∈ gN := List.mem_of_getElem? (i := 25) rfl
theorem nn_X3_140 : Cond.methodLinkNest RX3 140 yX1_change RX3 ∈ gN := List.mem_of_getElem? (i := 26) rfl
theorem nn_X3_144 : Cond.methodLinkNest RX3 144 yX1_hasUnknown RX3 ∈ gN := List.mem_of_getElem? (i := 27) rfl
theorem nn_X3_160 : Cond.methodLinkNest RX3 160 yX1_putUnknown RX3 ∈ gN := List.mem_of_getElem? (i := 28) rfl
theorem nn_X3_166 : Cond.methodLinkNest RX3 166 yX1_balanceBox RX3 ∈ gN := List.mem_of_getElem? (i := 29) rfl
theorem nn_X3_199 : Cond.methodLinkNest RX3 199 yX1_ohmsOf RX3 ∈ gN := List.mem_of_getElem? (i := 30) rfl
theorem nn_X3_225 : Cond.methodLinkNest RX3 225 yX1_warmed RX3 ∈ gN := List.mem_of_getElem? (i := 31) rfl
theorem nn_X3_228 : Cond.methodLinkNest RX3 228 yX1_cooled RX3 ∈ gN := List.mem_of_getElem? (i := 32) rfl
theorem nn_X3_231 : Cond.methodLinkNest RX3 231 yX1_offsetAt RX3 ∈ gN := List.mem_of_getElem? (i := 33) rfl
theorem nn_X3_48 : Cond.fieldLinkNest RX3 48 "MirrorBridge$Text" "length" "I" RX3 ∈ gN := List.mem_of_getElem? (i := 34) rfl
theorem nn_X1_97 : Cond.fieldLinkNest RX1 97 "MirrorBridge$Ledger" "size" "I" RX3 ∈ gN := List.mem_of_getElem? (i := 35) rfl
theorem nn_X3_283 : Cond.fieldLinkNest RX3 283 "MirrorBridge$Ledger" "size" "I" RX3 ∈ gN := List.mem_of_getElem? (i := 36) rfl
theorem nn_X3_187 : Cond.fieldLinkNest RX3 187 "MirrorBridge$State" "p" "I" RX3 ∈ gN := List.mem_of_getElem? (i := 37) rfl
theorem nn_X3_193 : Cond.fieldLinkNest RX3 193 "MirrorBridge$State" "q" "I" RX3 ∈ gN := List.mem_of_getElem? (i := 38) rfl
theorem nn_X3_97 : Cond.fieldLinkNest RX3 97 "MirrorBridge$State" "r" "I" RX3 ∈ gN := List.mem_of_getElem? (i := 39) rfl
theorem nn_X3_222 : Cond.fieldLinkNest RX3 222 "MirrorBridge$State" "e" "I" RX3 ∈ gN := List.mem_of_getElem? (i := 40) rfl
theorem nn_X3_286 : Cond.fieldLinkNest RX3 286 "MirrorBridge$State" "shunt" "I" RX3 ∈ gN := List.mem_of_getElem? (i := 41) rfl
theorem nn_X3_219 : Cond.fieldLinkNest RX3 219 "MirrorBridge$State" "warmth" "I" RX3 ∈ gN := List.mem_of_getElem? (i := 42) rfl
theorem nn_X3_265 : Cond.fieldLinkNest RX3 265 "MirrorBridge$State" "clock" "I" RX3 ∈ gN := List.mem_of_getElem? (i := 43) rfl
theorem nn_X3_112 : Cond.fieldLinkNest RX3 112 "MirrorBridge$State" "sticks" "Z" RX3 ∈ gN := List.mem_of_getElem? (i := 44) rfl
theorem nn_X3_238 : Cond.fieldLinkNest RX3 238 "MirrorBridge$State" "presses" "I" RX3 ∈ gN := List.mem_of_getElem? (i := 45) rfl
theorem nn_X3_74 : Cond.fieldLinkNest RX3 74 "MirrorBridge$State" "unknowns" "I" RX3 ∈ gN := List.mem_of_getElem? (i := 46) rfl
theorem nn_X3_153 : Cond.fieldLinkNest RX3 153 "MirrorBridge$State" "chosen" "I" RX3 ∈ gN := List.mem_of_getElem? (i := 47) rfl
theorem nn_X3_87 : Cond.fieldLinkNest RX3 87 "MirrorBridge$State" "ledger" "LMirrorBridge$Ledger;" RX3 ∈ gN := List.mem_of_getElem? (i := 48) rfl
/-! worlds: a cell a function; calls that put the callee's cells back to their places -/
def gOk : Cond → Bool
  | .fieldLinkNest _ _ _ _ _ _ => true
  | .methodLinkNest _ _ _ _ => true
  | _ => false
theorem gOk_warm {w : Cond} (h : gOk w = true) {s U : State} (hW : s.WarmedH U.vm) (hz : va_Nw w s) : va_Nw w U := by
  cases w <;> first | (exact va_Nw.warmF hW hz) | (exact va_Nw.warmM hW hz) | (exact absurd h (by simp [gOk]))
abbrev gG : Type := va_G × (ClassId × ClassId × ClassId × ClassId)
def gT (G : gG) : List (ClassId × FieldType) := [(G.2.1, .int), (G.2.2.1, .char), (G.2.2.2.1, .boolean), (G.2.2.2.2, .object RX1)]
def gK (G : gG) (U : State) : Prop := va_K G.1 vwCl (gT G) U ∧ ∀ w ∈ gN, va_Nw w U
theorem gN_ok : ∀ w ∈ gN, gOk w = true := by decide +kernel
theorem gK.warm {G : gG} {s U : State} (hW : s.WarmedH U.vm) (h : gK G s) : gK G U := ⟨va_K.moved hW.alike h.1, fun w hw => gOk_warm (gN_ok w hw) hW (h.2 w hw)⟩
-- cells
def oLed (a k : Nat) (f : Nat → Int32) : Nat × va_E := (a, .inr (0, [.ref k, .int (f 1), .int (f 2)]))
def oSt (a o g : Nat) (f : Nat → Int32) : Nat × va_E := (a, .inr (1, [.int (f 0), .int (f 1), .int (f 2), .int (f 3), .int (f 4), .int (f 5), .int (f 6), .int (f 7), .int (f 8), .int (f 9), .int (f 10), .int (f 11), .ref o, .int (f 13), .int (f 14), .ref g]))
def oTx (a k : Nat) (f : Nat → Int32) : Nat × va_E := (a, .inr (2, [.ref k, .int (f 1)]))
def oBr (a tx st tr pa sl fi : Nat) (f : Nat → Int32) : Nat × va_E := (a, .inr (3, [.ref tx, .ref st, .ref tr, .ref pa, .int (f 4), .int (f 5), .ref sl, .ref fi]))
def aI (G : gG) (a n : Nat) (f : Nat → Int32) : Nat × va_E := (a, .inl (G.2.1, n, .inl f))
def aC (G : gG) (a n : Nat) (f : Nat → Int32) : Nat × va_E := (a, .inl (G.2.2.1, n, .inl f))
def aZ (G : gG) (a n : Nat) (f : Nat → Int32) : Nat × va_E := (a, .inl (G.2.2.2.1, n, .inl f))
def aS (G : gG) (a n : Nat) (f : Nat → Option Nat) : Nat × va_E := (a, .inl (G.2.2.2.2, n, .inr (.inr (.inr (.inr f)))))
-- cells put back to their places
def kRep : va_W → List Nat → va_W → va_W
  | ws, i :: is, q :: qs => kRep (ws.set i q) is qs
  | ws, _, _ => ws
theorem kRep_get : ∀ (is : List Nat) (w1 ws : va_W), is.length = w1.length → ∀ (k : Nat) (q : Nat × va_E), (kRep ws is w1)[k]? = some q → (k ∉ is ∧ ws[k]? = some q) ∨ ∃ j : Nat, is[j]? = some k ∧ w1[j]? = some q
  | [], w1, ws, _, k, q, h => by
    cases w1 <;> exact Or.inl ⟨List.not_mem_nil, h⟩
  | i :: is, [], ws, hl, k, q, h => by simp at hl
  | i :: is, q0 :: qs, ws, hl, k, q, h => by
    have hl2 : is.length = qs.length := by simpa using hl
    rcases kRep_get is qs (ws.set i q0) hl2 k q h with ⟨h1, h2⟩ | ⟨j, h1, h2⟩
    · by_cases hk : k = i
      · subst hk
        have hlt : k < ws.length := by
          have := (List.getElem?_eq_some_iff.mp h2).1
          rwa [List.length_set] at this
        rw [List.getElem?_set_self hlt] at h2
        exact Or.inr ⟨0, rfl, by rw [← h2]; rfl⟩
      · rw [List.getElem?_set_ne (Ne.symm hk)] at h2
        refine Or.inl ⟨fun hm => ?_, h2⟩
        rcases List.mem_cons.mp hm with h3 | h3
        · exact hk h3
        · exact h1 h3
    · exact Or.inr ⟨j + 1, h1, h2⟩
theorem k_at {ws wc : va_W} {is : List Nat} (hs : is.map (fun i => ws[i]?) = wc.map some) (k : Nat) (q : Nat × va_E) (hq : wc[k]? = some q) : ∃ i, is[k]? = some i ∧ ws[i]? = some q := by
  have h1 : (is.map (fun i => ws[i]?))[k]? = some (some q) := by rw [hs, List.getElem?_map, hq]; rfl
  rw [List.getElem?_map] at h1
  cases hi : is[k]? with
  | none => rw [hi] at h1; cases h1
  | some i => rw [hi] at h1; exact ⟨i, rfl, Option.some.inj h1⟩
theorem k_pick {D : va_G} {cl : List vw_C} {ws wc : va_W} {H : Heap} (hP : va_P D cl ws H) {is : List Nat} (hs : is.map (fun i => ws[i]?) = wc.map some) : va_P D cl wc H := fun k q hq => by
  obtain ⟨i, -, h⟩ := k_at hs k q hq
  exact hP i q h
theorem k_fst {w1 wc : va_W} (hf : w1.map (·.1) = wc.map (·.1)) {j : Nat} {q : Nat × va_E} (h : w1[j]? = some q) : ∃ q' : Nat × va_E, wc[j]? = some q' ∧ q'.1 = q.1 := by
  have h1 : (wc.map (·.1))[j]? = some q.1 := by rw [← hf, List.getElem?_map, h]; rfl
  rw [List.getElem?_map] at h1
  cases hw : wc[j]? with
  | none => rw [hw] at h1; cases h1
  | some q' => rw [hw] at h1; exact ⟨q', rfl, Option.some.inj h1⟩
theorem k_rep {A : Nat → Prop} {D : va_G} {cl : List vw_C} {ws wc w1 : va_W} {H H1 : Heap} (hP : va_P D cl ws H) (hD : va_D A ws) (is : List Nat) (hC : is.map (fun i => ws[i]?) = wc.map some) (hf : w1.map (·.1) = wc.map (·.1))
    (hk : ∀ q : Nat, q < H.size → ¬ va_A wc H.size q → H1[q]? = H[q]?) (hP1 : va_P D cl w1 H1) : va_P D cl (kRep ws is w1) H1 ∧ va_D A (kRep ws is w1) := by
  have hlen : is.length = w1.length := by
    have h1 := congrArg List.length hC
    have h2 := congrArg List.length hf
    simp only [List.length_map] at h1 h2
    omega
  have key : ∀ (k : Nat) (q : Nat × va_E), (kRep ws is w1)[k]? = some q → ∃ q0 : Nat × va_E, ws[k]? = some q0 ∧ q0.1 = q.1 := by
    intro k q h
    rcases kRep_get is w1 ws hlen k q h with ⟨-, h2⟩ | ⟨j, h1, h2⟩
    · exact ⟨q, h2, rfl⟩
    · obtain ⟨q', h3, h4⟩ := k_fst hf h2
      obtain ⟨i, h5, h6⟩ := k_at hC j q' h3
      cases h1.symm.trans h5
      exact ⟨q', h6, h4⟩
  refine ⟨fun k q h => ?_, fun i j x y hi hj hxy => ?_, fun k q h => ?_⟩
  · rcases kRep_get is w1 ws hlen k q h with ⟨h1, h2⟩ | ⟨j, -, h2⟩
    · have hl := (hP k q h2).lt
      refine (hP k q h2).kept (hk q.1 hl ?_)
      rintro (⟨j, e, h3⟩ | h3)
      · obtain ⟨i, h5, h6⟩ := k_at hC j (q.1, e) h3
        have := hD.1 k i q (q.1, e) h2 h6 rfl
        subst this
        exact h1 (List.mem_of_getElem? h5)
      · omega
    · exact hP1 j q h2
  · obtain ⟨x0, h1, h2⟩ := key i x hi
    obtain ⟨y0, h3, h4⟩ := key j y hj
    exact hD.1 i j x0 y0 h1 h3 (h2.trans (hxy.trans h4.symm))
  · obtain ⟨q0, h1, h2⟩ := key k q h
    rw [← h2]
    exact hD.2 k q0 h1
-- contracts
abbrev mP (G : gG) (av : List Value) (ws : va_W) (sz : Nat) : Array Value → State → Prop := va_Pc av (fun U => U.heap.size = sz ∧ va_P G.1 vwCl ws U.heap ∧ gK G U ∧ va_D (fun _ => True) ws)
theorem mP_blind {G : gG} {av : List Value} {ws : va_W} {sz : Nat} : FrameBlind (mP G av ws sz) := fun a U g mk q => by
  obtain ⟨q0, q1, qP, qK, qD⟩ := q
  exact ⟨q0, q1, qP, gK.warm (s := U) (U := U.calling g mk a) (State.WarmedH.refl (U : State)) qK, qD⟩
abbrev qI (G : gG) (r : Int32) (w1 : va_W) (A : Nat → Prop) : Array Value → State → Outcome → State → Prop := va_Qi (fun r' (_ : Unit) => r' = r) (fun _ t => va_P G.1 vwCl w1 t.heap) A
abbrev qL (G : gG) (r : Int64) (w1 : va_W) (A : Nat → Prop) : Array Value → State → Outcome → State → Prop := va_Ql (fun r' (_ : Unit) => r' = r) (fun _ t => va_P G.1 vwCl w1 t.heap) A
abbrev qV (G : gG) (w1 : va_W) (A : Nat → Prop) : Array Value → State → Outcome → State → Prop := va_Qv (fun (_ : Unit) => True) (fun _ t => va_P G.1 vwCl w1 t.heap) A
abbrev qQ (G : gG) (r : Option Nat) (w1 : va_W) (A : Nat → Prop) : Array Value → State → Outcome → State → Prop := va_Qq (fun r' (_ : Unit) => r' = r) (fun _ t => va_P G.1 vwCl w1 t.heap) A
/-- a method's contract: its words, its room, its arguments, its cells; its end by Qc -/
def kM (l : Launch) (G : gG) (y : MethodName) (wl : List Cond) (rm : Room) (av : List Value) (ws : va_W) (Qc : (Nat → Prop) → Array Value → State → Outcome → State → Prop) : Prop :=
  ∀ sz, Met l y wl rm (mP G av ws sz) (Qc (va_A ws sz)) 0 0 (va_A ws sz)
def Cx (p : Program) (s : State) (m : MethodId) (args : Array Value) (meth : Method) (c : Code) (cc : ByteArray) (nL : Nat) (own : String) (Ts : List Cond) (ret : Option FieldType) (G : gG) (A : Nat → Prop) : Prop :=
  p.tables.exec = Jvm.exec ∧ c.code = cc ∧ c.maxLocals = nL ∧ s.vm.findClass own = some m.cls ∧ (∀ w ∈ Ts, w.before args s = true) ∧ meth.sig.returnType = ret ∧ meth.locks = false ∧ gK G s ∧ (∀ q : Nat, s.heap.size ≤ q → A q)
theorem k_body {l : Launch} {G : gG} {y : MethodName} {wl wl' : List Cond} {rm : Room} {av : List Value} {ws : va_W} {Qc : (Nat → Prop) → Array Value → State → Outcome → State → Prop} {cc : ByteArray} {nL : Nat} {ret : Option FieldType} (hy : plainName y.cls = true) (hw : wl = Cond.code y cc nL ret :: wl') (hml : (lg_sl av).length ≤ nL)
    (body : ∀ p e s m args below meth c A, Cx p s m args meth c cc nL y.cls wl ret G A → va_P G.1 vwCl ws s.heap → va_D A ws → va_S A s.heap s.heap [] → ∀ ls, lv_has ls nL (lv_args 0 av) →
      W p l e rm s m args below meth c s.heap [] 0 0 (MQ below (Qc A) args s 0 0 A) (F0 m 0 ls [])) : kM l G y wl rm av ws Qc := by
  intro sz
  refine Met.ofW (cc := cc) (maxL := nL) (ret := ret) hy hw ?_
  intro p e s m args below meth c s₁ B hml' hv
  obtain ⟨rfl, hsz, hP, hK, hD0⟩ := hv
  subst hsz
  have hts := atoms_spec (ws := wl) B.pre
  have hown : s.vm.findClass y.cls = some m.cls := findClass_of_methodNamed B.named
  have hl := lv_entry av (n := nL) hml
  rw [lg_entry_eq]
  exact body p e s m _ below meth c (va_A ws s.heap.size) ⟨B.exec, B.bytes, hml', hown, hts, B.returns, B.notSynchronized, hK, fun q h => Or.inr h⟩ hP (hD0.self (sz := s.heap.size)) va_S.rf _ hl
section KR
variable {p : Program} {l : Launch} {e : Env} {R : Room} {s : State} {m : MethodId} {args : Array Value} {below : List Frame} {meth : Method} {c : Code} {H : Heap} {locs : List Loc} {cells slots : Nat} {Q : State → Prop}
variable {cc : ByteArray} {nL : Nat} {own : String} {Ts : List Cond} {ret : Option FieldType} {G : gG} {A : Nat → Prop} {pc : Nat} {ls : Array Slot}
theorem k_iret {v : Int32} {w1 : va_W} (cx : Cx p s m args meth c cc nL own Ts (some .int) G A) (hP : va_P G.1 vwCl w1 H) (hS : va_S A s.heap H locs) (hdg : decode cc pc = .ok (.ireturn, 1)) :
    W p l e R s m args below meth c H locs cells slots (MQ below (qI G v w1 A) args s cells slots A) (F0 m pc ls [.int v]) := by
  obtain ⟨hx, hb, hml, hown, hts, hr, hlocks, hK, hA⟩ := cx
  exact W.iret (v := v) hx hb hr (fun t ht hW => ⟨⟨v, (), rfl, rfl, by show va_P G.1 vwCl w1 t.heap; rw [ht]; exact hP⟩, hS.F ht⟩) hS.2.2 hdg
theorem k_zret {v : Int32} {w1 : va_W} {ty : FieldType} (cx : Cx p s m args meth c cc nL own Ts (some ty) G A) (hn : narrow ty (.int v) = .int v) (hP : va_P G.1 vwCl w1 H) (hS : va_S A s.heap H locs) (hdg : decode cc pc = .ok (.ireturn, 1)) :
    W p l e R s m args below meth c H locs cells slots (MQ below (qI G v w1 A) args s cells slots A) (F0 m pc ls [.int v]) := by
  obtain ⟨hx, hb, hml, hown, hts, hr, hlocks, hK, hA⟩ := cx
  exact W.zret (v := v) hx hb hr hn (fun t ht hW => ⟨⟨v, (), rfl, rfl, by show va_P G.1 vwCl w1 t.heap; rw [ht]; exact hP⟩, hS.F ht⟩) hS.2.2 hdg
theorem k_lret {v : Int64} {w1 : va_W} (cx : Cx p s m args meth c cc nL own Ts (some .long) G A) (hP : va_P G.1 vwCl w1 H) (hS : va_S A s.heap H locs) (hdg : decode cc pc = .ok (.lreturn, 1)) :
    W p l e R s m args below meth c H locs cells slots (MQ below (qL G v w1 A) args s cells slots A) (F0 m pc ls [.long v]) := by
  obtain ⟨hx, hb, hml, hown, hts, hr, hlocks, hK, hA⟩ := cx
  exact W.lret (v := v) hx hb hr (fun t ht hW => ⟨⟨v, (), rfl, rfl, by show va_P G.1 vwCl w1 t.heap; rw [ht]; exact hP⟩, hS.F ht⟩) hS.2.2 hdg
theorem k_vret {w1 : va_W} (cx : Cx p s m args meth c cc nL own Ts none G A) (hP : va_P G.1 vwCl w1 H) (hS : va_S A s.heap H locs) (hdg : decode cc pc = .ok (.return_, 1)) :
    W p l e R s m args below meth c H locs cells slots (MQ below (qV G w1 A) args s cells slots A) (F0 m pc ls []) := by
  obtain ⟨hx, hb, hml, hown, hts, hr, hlocks, hK, hA⟩ := cx
  exact W.vret hx hb hr (fun t ht hW => ⟨⟨(), rfl, trivial, by show va_P G.1 vwCl w1 t.heap; rw [ht]; exact hP⟩, hS.F ht⟩) hS.2.2 hdg
variable {y : MethodName} {wl wl' : List Cond} {rm : Room} {bytes : ByteArray} {mL n index : Nat} {ret' : Option FieldType} {Qc : (Nat → Prop) → Array Value → State → Outcome → State → Prop} {ws wc : va_W} {b : Nat} {As rest st : List Value}
theorem kr_V {lv : List (Nat × Value)} {C : String} {ci : Nat} {fs : List Value} {q : vw_C} {wt : va_W} (cx : Cx p s m args meth c cc nL own Ts ret G A) (hC : kM l G y wl rm (.ref b :: As) wc Qc) (hT : GoodIn Ts (wsV own index C y wl)) (hw : wl = Cond.code y bytes mL ret' :: wl') (hrc : rm.cells = 0) (hrs : rm.slots = 0)
    (hd : y.cls = C ∧ y.cls ≠ "java/lang/invoke/MethodHandle" ∧ y.cls ≠ "java/lang/invoke/VarHandle" ∧ (parseMethodDescriptor y.desc).map (fun d => d.parameters.length) = some n) (hR : rm.frames + 1 ≤ R.frames ∧ 8 + (mL + 11) + rm.locals ≤ R.locals)
    (hc : vwCl[ci]? = some q) (hq : q.1 = C) (he : wc = (b, .inr (ci, fs)) :: wt) (hP : va_P G.1 vwCl ws H) (hD : va_D A ws) (is : List Nat) (hn : va_nd is = true) (hCc : is.map (fun i => ws[i]?) = wc.map some)
    (hst : st = As.reverse ++ .ref b :: rest) (hAs : As.length = n) (hsize : lv_has ls nL lv) (hroom : (rest.map fun v => v.category).sum ≤ 8) (hdg : decode cc pc = .ok (.invokevirtual index, 3)) (hf : cells + 0 ≤ R.cells ∧ slots + 0 ≤ R.slots) :
    va_Run p l e R s m args below meth c H locs cells slots 0 0 (F0 m pc ls st) rest (Qc (va_A wc H.size) (Value.ref b :: As).toArray) (va_A wc H.size) := by
  obtain ⟨hx, hb, hml, hown, hts, hr, hlocks, hK, hA⟩ := cx
  have hPc := k_pick hP hCc
  have hDc := hD.sub is hn hCc
  subst hst
  subst hq
  exact va_runV (As := As) (rest := rest) ⟨hx, hb, hml, hown, hts⟩ (hC H.size) (cwV n hts hT hw hrc hrs hd hR) ⟨mP_blind, va_recv hK.1 hPc hc (q0 := 0) (by rw [he]; rfl), fun U hU hW => ⟨rfl, by rw [hU], by rw [hU]; exact hPc, gK.warm hW hK, hDc.weaken (fun _ _ _ _ => trivial)⟩⟩ rfl hAs hsize.1 rfl (lv_room hroom) hdg hf
theorem kr_S {lv : List (Nat × Value)} (cx : Cx p s m args meth c cc nL own Ts ret G A) (hC : kM l G y wl rm As wc Qc) (hT : GoodIn Ts (va_wsS own index y wl)) (hw : wl = Cond.code y bytes mL ret' :: wl') (hrc : rm.cells = 0) (hrs : rm.slots = 0)
    (hd : y.cls ≠ "java/lang/invoke/MethodHandle" ∧ y.cls ≠ "java/lang/invoke/VarHandle" ∧ (parseMethodDescriptor y.desc).map (fun d => d.parameters.length) = some n) (hR : rm.frames + 1 ≤ R.frames ∧ 8 + (mL + 11) + rm.locals ≤ R.locals)
    (hP : va_P G.1 vwCl ws H) (hD : va_D A ws) (is : List Nat) (hn : va_nd is = true) (hCc : is.map (fun i => ws[i]?) = wc.map some)
    (hst : st = As.reverse ++ rest) (hAs : As.length = n) (hsize : lv_has ls nL lv) (hroom : (rest.map fun v => v.category).sum ≤ 8) (hdg : decode cc pc = .ok (.invokestatic index, 3)) (hf : cells + 0 ≤ R.cells ∧ slots + 0 ≤ R.slots) :
    va_Run p l e R s m args below meth c H locs cells slots 0 0 (F0 m pc ls st) rest (Qc (va_A wc H.size) As.toArray) (va_A wc H.size) := by
  obtain ⟨hx, hb, hml, hown, hts, hr, hlocks, hK, hA⟩ := cx
  have hPc := k_pick hP hCc
  have hDc := hD.sub is hn hCc
  subst hst
  exact va_runS (As := As) (rest := rest) ⟨hx, hb, hml, hown, hts⟩ (hC H.size) (va_cwS n hts hT hw hrc hrs hd hR) ⟨mP_blind, fun U hU hW => ⟨rfl, by rw [hU], by rw [hU]; exact hPc, gK.warm hW hK, hDc.weaken (fun _ _ _ _ => trivial)⟩⟩ rfl hAs hsize.1 rfl (lv_room hroom) hdg hf
theorem kr_VN {lv : List (Nat × Value)} {host : String} {ci : Nat} {fs : List Value} {q : vw_C} {wt : va_W} (cx : Cx p s m args meth c cc nL own Ts ret G A) (hC : kM l G y wl rm (.ref b :: As) wc Qc) (hT : GoodIn Ts wl) (hw : wl = Cond.code y bytes mL ret' :: wl') (hrc : rm.cells = 0) (hrs : rm.slots = 0)
    (hlk : Cond.methodLinkNest own index y host ∈ gN) (hin : Cond.initialized y.cls ∈ Ts) (him : Cond.instanceMethod y ∈ Ts) (hse : Cond.selects y.cls y y ∈ Ts)
    (hd : y.cls ≠ "java/lang/invoke/MethodHandle" ∧ y.cls ≠ "java/lang/invoke/VarHandle" ∧ (parseMethodDescriptor y.desc).map (fun d => d.parameters.length) = some n) (hR : rm.frames + 1 ≤ R.frames ∧ 8 + (mL + 11) + rm.locals ≤ R.locals)
    (hc : vwCl[ci]? = some q) (hq : q.1 = y.cls) (he : wc = (b, .inr (ci, fs)) :: wt) (hP : va_P G.1 vwCl ws H) (hD : va_D A ws) (is : List Nat) (hn : va_nd is = true) (hCc : is.map (fun i => ws[i]?) = wc.map some)
    (hst : st = As.reverse ++ .ref b :: rest) (hAs : As.length = n) (hsize : lv_has ls nL lv) (hroom : (rest.map fun v => v.category).sum ≤ 8) (hdg : decode cc pc = .ok (.invokevirtual index, 3)) (hf : cells + 0 ≤ R.cells ∧ slots + 0 ≤ R.slots) :
    va_Run p l e R s m args below meth c H locs cells slots 0 0 (F0 m pc ls st) rest (Qc (va_A wc H.size) (Value.ref b :: As).toArray) (va_A wc H.size) := by
  obtain ⟨hx, hb, hml, hown, hts, hr, hlocks, hK, hA⟩ := cx
  have hPc := k_pick hP hCc
  have hDc := hD.sub is hn hCc
  subst hst
  exact va_runVN (As := As) (rest := rest) (C := y.cls) ⟨hx, hb, hml, hown, hts⟩ (hC H.size) ⟨va_cnB n hts hT hw hrc hrs (hK.2 _ hlk) (hts _ hin) hd hR, hts _ him, hts _ hse⟩ ⟨mP_blind, by rw [← hq]; exact va_recv hK.1 hPc hc (q0 := 0) (by rw [he]; rfl), fun U hU hW => ⟨rfl, by rw [hU], by rw [hU]; exact hPc, gK.warm hW hK, hDc.weaken (fun _ _ _ _ => trivial)⟩⟩ rfl hAs hsize.1 rfl (lv_room hroom) hdg hf
theorem kr_SN {lv : List (Nat × Value)} {host : String} (cx : Cx p s m args meth c cc nL own Ts ret G A) (hC : kM l G y wl rm As wc Qc) (hT : GoodIn Ts wl) (hw : wl = Cond.code y bytes mL ret' :: wl') (hrc : rm.cells = 0) (hrs : rm.slots = 0)
    (hlk : Cond.methodLinkNest own index y host ∈ gN) (hin : Cond.initialized y.cls ∈ Ts) (hsm : Cond.static y ∈ Ts)
    (hd : y.cls ≠ "java/lang/invoke/MethodHandle" ∧ y.cls ≠ "java/lang/invoke/VarHandle" ∧ (parseMethodDescriptor y.desc).map (fun d => d.parameters.length) = some n) (hR : rm.frames + 1 ≤ R.frames ∧ 8 + (mL + 11) + rm.locals ≤ R.locals)
    (hP : va_P G.1 vwCl ws H) (hD : va_D A ws) (is : List Nat) (hn : va_nd is = true) (hCc : is.map (fun i => ws[i]?) = wc.map some)
    (hst : st = As.reverse ++ rest) (hAs : As.length = n) (hsize : lv_has ls nL lv) (hroom : (rest.map fun v => v.category).sum ≤ 8) (hdg : decode cc pc = .ok (.invokestatic index, 3)) (hf : cells + 0 ≤ R.cells ∧ slots + 0 ≤ R.slots) :
    va_Run p l e R s m args below meth c H locs cells slots 0 0 (F0 m pc ls st) rest (Qc (va_A wc H.size) As.toArray) (va_A wc H.size) := by
  obtain ⟨hx, hb, hml, hown, hts, hr, hlocks, hK, hA⟩ := cx
  have hPc := k_pick hP hCc
  have hDc := hD.sub is hn hCc
  subst hst
  exact va_runSN (As := As) (rest := rest) ⟨hx, hb, hml, hown, hts⟩ (hC H.size) ⟨va_cnB n hts hT hw hrc hrs (hK.2 _ hlk) (hts _ hin) hd hR, hts _ hsm, trivial⟩ ⟨mP_blind, fun U hU hW => ⟨rfl, by rw [hU], by rw [hU]; exact hPc, gK.warm hW hK, hDc.weaken (fun _ _ _ _ => trivial)⟩⟩ rfl hAs hsize.1 rfl (lv_room hroom) hdg hf
variable {w1 ws' : va_W} {a : Array Value} {as : List Nat}
theorem k_free {H0 : Heap} (hD : va_D A ws) (hS : va_S A H0 H locs) (hA : ∀ q : Nat, H0.size ≤ q → A q) {is : List Nat} (hCc : is.map (fun i => ws[i]?) = wc.map some) : ∀ q : Nat, va_A wc H.size q → A q := va_free hD hS hA is hCc
theorem k_i {r : Int32} (cx : Cx p s m args meth c cc nL own Ts ret G A) (hP : va_P G.1 vwCl ws H) (hD : va_D A ws) (hS : va_S A s.heap H locs) (is : List Nat) (hCc : is.map (fun i => ws[i]?) = wc.map some)
    (hr : va_Run p l e R s m args below meth c H locs cells slots 0 0 (F0 m pc ls st) rest (qI G r w1 (va_A wc H.size) a) (va_A wc H.size)) (hf : w1.map (·.1) = as ∧ wc.map (·.1) = as) (hw : kRep ws is w1 = ws')
    (kk : ∀ (H1 : Heap) (locs1 : List Loc), va_P G.1 vwCl ws' H1 → va_D A ws' → va_S A s.heap H1 locs1 → W p l e R s m args below meth c H1 locs1 cells slots Q (F0 m (pc + 3) ls (.int r :: rest))) : W p l e R s m args below meth c H locs cells slots Q (F0 m pc ls st) := by
  have hFc := k_free hD hS cx.2.2.2.2.2.2.2.2 hCc
  refine va_calli hr hS (fun q _ h => hFc q h) hFc (fun r' u t H1 locs1 ht hvm hpo hB hz hk hS1 => ?_)
  cases hpo
  rw [ht] at hB
  obtain ⟨h1, h2⟩ := k_rep hP hD is hCc (hf.1.trans hf.2.symm) hk hB
  rw [hw] at h1 h2
  exact kk H1 locs1 h1 h2 hS1
theorem k_l {r : Int64} (cx : Cx p s m args meth c cc nL own Ts ret G A) (hP : va_P G.1 vwCl ws H) (hD : va_D A ws) (hS : va_S A s.heap H locs) (is : List Nat) (hCc : is.map (fun i => ws[i]?) = wc.map some)
    (hr : va_Run p l e R s m args below meth c H locs cells slots 0 0 (F0 m pc ls st) rest (qL G r w1 (va_A wc H.size) a) (va_A wc H.size)) (hf : w1.map (·.1) = as ∧ wc.map (·.1) = as) (hw : kRep ws is w1 = ws')
    (kk : ∀ (H1 : Heap) (locs1 : List Loc), va_P G.1 vwCl ws' H1 → va_D A ws' → va_S A s.heap H1 locs1 → W p l e R s m args below meth c H1 locs1 cells slots Q (F0 m (pc + 3) ls (.long r :: rest))) : W p l e R s m args below meth c H locs cells slots Q (F0 m pc ls st) := by
  have hFc := k_free hD hS cx.2.2.2.2.2.2.2.2 hCc
  refine va_calll hr hS (fun q _ h => hFc q h) hFc (fun r' u t H1 locs1 ht hvm hpo hB hz hk hS1 => ?_)
  cases hpo
  rw [ht] at hB
  obtain ⟨h1, h2⟩ := k_rep hP hD is hCc (hf.1.trans hf.2.symm) hk hB
  rw [hw] at h1 h2
  exact kk H1 locs1 h1 h2 hS1
theorem k_q {r : Option Nat} (cx : Cx p s m args meth c cc nL own Ts ret G A) (hP : va_P G.1 vwCl ws H) (hD : va_D A ws) (hS : va_S A s.heap H locs) (is : List Nat) (hCc : is.map (fun i => ws[i]?) = wc.map some)
    (hr : va_Run p l e R s m args below meth c H locs cells slots 0 0 (F0 m pc ls st) rest (qQ G r w1 (va_A wc H.size) a) (va_A wc H.size)) (hf : w1.map (·.1) = as ∧ wc.map (·.1) = as) (hw : kRep ws is w1 = ws')
    (kk : ∀ (H1 : Heap) (locs1 : List Loc), va_P G.1 vwCl ws' H1 → va_D A ws' → va_S A s.heap H1 locs1 → W p l e R s m args below meth c H1 locs1 cells slots Q (F0 m (pc + 3) ls (va_rf r :: rest))) : W p l e R s m args below meth c H locs cells slots Q (F0 m pc ls st) := by
  have hFc := k_free hD hS cx.2.2.2.2.2.2.2.2 hCc
  refine va_callq hr hS (fun q _ h => hFc q h) hFc (fun r' u t H1 locs1 ht hvm hpo hB hz hk hS1 => ?_)
  cases hpo
  rw [ht] at hB
  obtain ⟨h1, h2⟩ := k_rep hP hD is hCc (hf.1.trans hf.2.symm) hk hB
  rw [hw] at h1 h2
  exact kk H1 locs1 h1 h2 hS1
theorem k_v (cx : Cx p s m args meth c cc nL own Ts ret G A) (hP : va_P G.1 vwCl ws H) (hD : va_D A ws) (hS : va_S A s.heap H locs) (is : List Nat) (hCc : is.map (fun i => ws[i]?) = wc.map some)
    (hr : va_Run p l e R s m args below meth c H locs cells slots 0 0 (F0 m pc ls st) rest (qV G w1 (va_A wc H.size) a) (va_A wc H.size)) (hf : w1.map (·.1) = as ∧ wc.map (·.1) = as) (hw : kRep ws is w1 = ws')
    (kk : ∀ (H1 : Heap) (locs1 : List Loc), va_P G.1 vwCl ws' H1 → va_D A ws' → va_S A s.heap H1 locs1 → W p l e R s m args below meth c H1 locs1 cells slots Q (F0 m (pc + 3) ls rest)) : W p l e R s m args below meth c H locs cells slots Q (F0 m pc ls st) := by
  have hFc := k_free hD hS cx.2.2.2.2.2.2.2.2 hCc
  refine va_callv hr hS (fun q _ h => hFc q h) hFc (fun u t H1 locs1 ht hvm hpo hB hz hk hS1 => ?_)
  rw [ht] at hB
  obtain ⟨h1, h2⟩ := k_rep hP hD is hCc (hf.1.trans hf.2.symm) hk hB
  rw [hw] at h1 h2
  exact kk H1 locs1 h1 h2 hS1
end KR
