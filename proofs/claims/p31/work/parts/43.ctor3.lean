/-! the bridge's constructor: its own cells, and the states in its two rows -/
def fxw (G : gG) (b tx tk : Nat) (qs qt : qd) (pa sl fi : Nat) (bf tf tc f oh lf ce ft oht lft cet : Nat → Int32) (pg sg : Nat → Option Nat) (ff : Nat → Int32) : va_W :=
  [oBr b tx qs.1 qt.1 pa sl fi bf, oTx tx tk tf, aC G tk 60 tc, oSt qs.1 qs.2.1 qs.2.2.1 f, aI G qs.2.1 6 oh, oLed qs.2.2.1 qs.2.2.2 lf, aI G qs.2.2.2 80 ce, oSt qt.1 qt.2.1 qt.2.2.1 ft, aI G qt.2.1 6 oht, oLed qt.2.2.1 qt.2.2.2 lft, aI G qt.2.2.2 80 cet, aS G pa 14 pg, aS G sl 2 sg, aZ G fi 2 ff]
def z0 : Nat → Int32 := fun _ => 0
def pool0 (G : gG) (L : List qd) : va_W := L.flatMap (fun q => bun G q iSt iOh z0 z0)
def pgL (L : List qd) : Nat → Option Nat := fun j => (L[j]?).map (·.1)
abbrev fx0 (G : gG) (b tx tk : Nat) (qs qt : qd) (pa sl fi : Nat) (L1 L2 : List qd) : va_W := fxw G b tx tk qs qt pa sl fi z0 z0 z0 iSt iOh z0 z0 iSt iOh z0 z0 (pgL L1) (pgL L2) z0
theorem pool0_app (G : gG) (L : List qd) (q : qd) : pool0 G L ++ bun G q iSt iOh z0 z0 = pool0 G (L ++ [q]) := by
  unfold pool0
  rw [List.flatMap_append]
  simp
theorem pgL_up (L : List qd) (q : qd) (i : Nat) (h : L.length = i) : va_up (pgL L) i (some q.1) = pgL (L ++ [q]) := by
  funext j
  unfold pgL
  by_cases c : j = i
  · subst c
    rw [va_up_self, List.getElem?_append_right (by omega), h, Nat.sub_self]
    rfl
  · rw [va_up_ne _ _ c]
    by_cases c2 : j < i
    · rw [List.getElem?_append_left (by omega)]
    · rw [List.getElem?_eq_none (by omega), List.getElem?_eq_none (by rw [List.length_append]; simp; omega)]
theorem at_q (fx pl r : va_W) (x : Nat × va_E) : (fx ++ (pl ++ (x :: r)))[fx.length + pl.length]? = some x := by
  rw [List.getElem?_append_right (by omega), Nat.add_sub_cancel_left, List.getElem?_append_right (by omega), Nat.sub_self]
  rfl
theorem hi_X3_init_3 : ∀ w ∈ u_ws RX3 TX3 8, w ∈ wsX3_init := by decide +kernel
theorem hi_X3_init_2 : ∀ w ∈ u_ws RX2 TX2 2, w ∈ wsX3_init := by decide +kernel
theorem hi_X3_init_1 : ∀ w ∈ u_ws RX1 TX1 16, w ∈ wsX3_init := by decide +kernel
abbrev rm_X3_init : Room := { frames := 4, cells := 77, slots := 1970, locals := 80 }
theorem W.eqcs {p : Program} {l : Launch} {e : Env} {R : Room} {s : State} {m : MethodId} {args : Array Value} {below : List Frame} {meth : Method} {c : Code} {H : Heap} {locs : List Loc} {cells slots k n : Nat} {Q : State → Prop} {g : JFrame} (h1 : cells = k) (h2 : slots = n) (kk : W p l e R s m args below meth c H locs k n Q g) : W p l e R s m args below meth c H locs cells slots Q g := by
  subst h1
  subst h2
  exact kk
set_option maxHeartbeats 4000000 in
set_option maxRecDepth 100000 in
theorem b_X3_init_63 {p : Program} {l : Launch} {e : Env} {s : State} {m : MethodId} {args : Array Value} {below : List Frame} {meth : Method} {c : Code} {G : gG} {A : Nat → Prop} {Q : State → Prop} (cx : Cx p s m args meth c cX3_init 2 RX3 wsX3_init none G A) (hAO : va_AO RX1 s) (b tx tk : Nat) (qs qt : qd) (pa sl fi : Nat) (kk : ∀ (L : List qd), L.length = 14 → ∀ (H : Heap) (locs : List Loc), va_P G.1 vwCl (fx0 G b tx tk qs qt pa sl fi L [] ++ pool0 G L) H → va_D A (fx0 G b tx tk qs qt pa sl fi L [] ++ pool0 G L) → va_S A s.heap H locs → ∀ (ls : Array Slot), lv_has ls 2 [(1, .int 14), (0, .ref b)] → W p l e rm_X3_init s m args below meth c H locs (13 + 4 * (0 + 14)) (290 + 105 * (0 + 14)) Q (F0 m 91 ls [])) :
    ∀ (n i : Nat) (L : List qd), L.length = i → i + n = 14 → ∀ (H : Heap) (locs : List Loc), va_P G.1 vwCl (fx0 G b tx tk qs qt pa sl fi L [] ++ pool0 G L) H → va_D A (fx0 G b tx tk qs qt pa sl fi L [] ++ pool0 G L) → va_S A s.heap H locs → ∀ (ls : Array Slot), lv_has ls 2 [(1, .int (nI i)), (0, .ref b)] → W p l e rm_X3_init s m args below meth c H locs (13 + 4 * (0 + i)) (290 + 105 * (0 + i)) Q (F0 m 63 ls []) := by
  obtain ⟨hx, hb, hml, hown, hts, hr, hlocks, hK, hA⟩ := id cx
  intro n
  induction n with
  | zero =>
    intro i L hL hi H locs hP hD hS ls hl
    have hi : i = 14 := by omega
    subst hi
    refine lv_iload_n hx hb dX3_init_63 rfl (lv_at hl 0 rfl) ?_
    refine lv_aload_n hx hb dX3_init_64 rfl (lv_at hl 1 rfl) ?_
    refine k_get (v := .ref pa) (T := TX3) (C := RX3) (N := 8) cx hi_X3_init_3 hP 0 rfl rfl 3 (by decide) (by decide +kernel) rfl dX3_init_65 ?_
    refine k_alenI (v := 14) (t0 := 3) cx hP 11 rfl rfl rfl dX3_init_68 ?_
    refine lv_icmp_ge (tgt := 91) hx hb dX3_init_69 (by decide) (fun c9 => ?_) (fun c9 => ?_)
    · exact kk L hL H locs hP hD hS ls hl
    · exact absurd (nI_le (Nat.le_refl 14) (by omega)) c9
  | succ n ih =>
    intro i L hL hi H locs hP hD hS ls hl
    refine lv_iload_n hx hb dX3_init_63 rfl (lv_at hl 0 rfl) ?_
    refine lv_aload_n hx hb dX3_init_64 rfl (lv_at hl 1 rfl) ?_
    refine k_get (v := .ref pa) (T := TX3) (C := RX3) (N := 8) cx hi_X3_init_3 hP 0 rfl rfl 3 (by decide) (by decide +kernel) rfl dX3_init_65 ?_
    refine k_alenI (v := 14) (t0 := 3) cx hP 11 rfl rfl rfl dX3_init_68 ?_
    refine lv_icmp_ge (tgt := 91) hx hb dX3_init_69 (by decide) (fun c9 => ?_) (fun c9 => ?_)
    · exact absurd ((nI_leI (a := 14) (b := i) (by omega) (by omega)).mp c9) (by omega)
    · have hlt : i < 14 := by omega
      refine lv_aload_n hx hb dX3_init_72 rfl (lv_at hl 1 rfl) ?_
      refine k_get (v := .ref pa) (T := TX3) (C := RX3) (N := 8) cx hi_X3_init_3 hP 0 rfl rfl 3 (by decide) (by decide +kernel) rfl dX3_init_73 ?_
      refine lv_iload_n hx hb dX3_init_76 rfl (lv_at hl 0 rfl) ?_
      refine k_new (ws := fx0 G b tx tk qs qt pa sl fi L [] ++ pool0 G L) (T := TX1) (C := RX1) (N := 16) (ci := 1) (ty := tyX1) (fs := [.int 0, .int 0, .int 0, .int 0, .int 0, .int 0, .int 0, .int 0, .int 0, .int 0, .int 0, .int 0, .null, .int 0, .int 0, .null]) cx hi_X3_init_1 tyX1_ok (by decide +kernel) (by decide +kernel) (by decide +kernel) hP hD hS rfl rfl (by show _ ≤ 77; omega) (by show _ ≤ 1970; omega) dX3_init_77 (fun q H hP hD hS => ?_)
      refine lv_dup hx hb dX3_init_80 rfl ?_
      refine k_initN (mc := 3) (ms := 89) (ws := fx0 G b tx tk qs qt pa sl fi L [] ++ pool0 G L) cx hAO (c_X1_init l G q) gX3_init_X1_init_n18 rfl rfl rfl nn_X3_18 (by decide +kernel) (by decide +kernel) rfl (by decide +kernel) ⟨Nat.le_of_ble_eq_true rfl, Nat.le_of_ble_eq_true rfl⟩ hP hD hS hl (Nat.le_of_ble_eq_true rfl) dX3_init_81 ⟨by show _ ≤ 77; omega, by show _ ≤ 1970; omega⟩ (fun qu H locs _ hP hD hS => ?_)
      have e1 : (fx0 G b tx tk qs qt pa sl fi L [] ++ pool0 G L) ++ bun G (q, qu) iSt iOh (fun _ => 0) (fun _ => 0) = fx0 G b tx tk qs qt pa sl fi L [] ++ (pool0 G L ++ bun G (q, qu) iSt iOh z0 z0) := List.append_assoc _ _ _
      rw [e1] at hP hD
      have e2 : (fx0 G b tx tk qs qt pa sl fi L [] ++ (pool0 G L ++ bun G (q, qu) iSt iOh z0 z0)).set 11 (aS G pa 14 (va_up (pgL L) (nI i).toNatClampNeg (some q))) = fx0 G b tx tk qs qt pa sl fi (L ++ [(q, qu)]) [] ++ pool0 G ((L ++ [(q, qu)])) := by
        rw [show (nI i).toNatClampNeg = i from by show (nI i).toInt.toNat = i; rw [nI_toInt (by omega)]; rfl]
        rw [pgL_up L (q, qu) i hL, pool0_app]
        rfl
      refine k_astq (n := 14) (qk := (fx0 G b tx tk qs qt pa sl fi L []).length + (pool0 G L).length) cx hP hD hS 11 rfl (at_q _ _ _ _) (vp_in_nI hlt (by omega)) e2 dX3_init_84 (fun H locs hP hD hS => ?_)
      refine lv_iinc (v := nI (i + 1)) (lv' := [(1, .int (nI (i + 1))), (0, .ref b)]) hx hb dX3_init_85 hl (k := 0) rfl (by rw [← nI_1]; rfl) (by decide) rfl (fun ls hl => ?_)
      refine lv_goto (tgt := 63) hx hb dX3_init_88 (by decide) ?_
      refine W.eqcs (k := 13 + 4 * (0 + (i + 1))) (n := 290 + 105 * (0 + (i + 1))) (by omega) (by omega) ?_
      exact ih (i + 1) (L ++ [(q, qu)]) (by rw [List.length_append, hL]; rfl) (by omega) H locs hP hD hS ls hl
set_option maxHeartbeats 4000000 in
set_option maxRecDepth 100000 in
theorem b_X3_init_93 {p : Program} {l : Launch} {e : Env} {s : State} {m : MethodId} {args : Array Value} {below : List Frame} {meth : Method} {c : Code} {G : gG} {A : Nat → Prop} {Q : State → Prop} (cx : Cx p s m args meth c cX3_init 2 RX3 wsX3_init none G A) (hAO : va_AO RX1 s) (b tx tk : Nat) (qs qt : qd) (pa sl fi : Nat) (L1 : List qd) (kk : ∀ (L : List qd), L.length = 2 → ∀ (H : Heap) (locs : List Loc), va_P G.1 vwCl (fx0 G b tx tk qs qt pa sl fi L1 L ++ pool0 G (L1 ++ L)) H → va_D A (fx0 G b tx tk qs qt pa sl fi L1 L ++ pool0 G (L1 ++ L)) → va_S A s.heap H locs → ∀ (ls : Array Slot), lv_has ls 2 [(1, .int 2), (0, .ref b)] → W p l e rm_X3_init s m args below meth c H locs (13 + 4 * (14 + 2)) (290 + 105 * (14 + 2)) Q (F0 m 121 ls [])) :
    ∀ (n i : Nat) (L : List qd), L.length = i → i + n = 2 → ∀ (H : Heap) (locs : List Loc), va_P G.1 vwCl (fx0 G b tx tk qs qt pa sl fi L1 L ++ pool0 G (L1 ++ L)) H → va_D A (fx0 G b tx tk qs qt pa sl fi L1 L ++ pool0 G (L1 ++ L)) → va_S A s.heap H locs → ∀ (ls : Array Slot), lv_has ls 2 [(1, .int (nI i)), (0, .ref b)] → W p l e rm_X3_init s m args below meth c H locs (13 + 4 * (14 + i)) (290 + 105 * (14 + i)) Q (F0 m 93 ls []) := by
  obtain ⟨hx, hb, hml, hown, hts, hr, hlocks, hK, hA⟩ := id cx
  intro n
  induction n with
  | zero =>
    intro i L hL hi H locs hP hD hS ls hl
    have hi : i = 2 := by omega
    subst hi
    refine lv_iload_n hx hb dX3_init_93 rfl (lv_at hl 0 rfl) ?_
    refine lv_aload_n hx hb dX3_init_94 rfl (lv_at hl 1 rfl) ?_
    refine k_get (v := .ref sl) (T := TX3) (C := RX3) (N := 8) cx hi_X3_init_3 hP 0 rfl rfl 6 (by decide) (by decide +kernel) rfl dX3_init_95 ?_
    refine k_alenI (v := 2) (t0 := 3) cx hP 12 rfl rfl rfl dX3_init_98 ?_
    refine lv_icmp_ge (tgt := 121) hx hb dX3_init_99 (by decide) (fun c9 => ?_) (fun c9 => ?_)
    · exact kk L hL H locs hP hD hS ls hl
    · exact absurd (nI_le (Nat.le_refl 2) (by omega)) c9
  | succ n ih =>
    intro i L hL hi H locs hP hD hS ls hl
    refine lv_iload_n hx hb dX3_init_93 rfl (lv_at hl 0 rfl) ?_
    refine lv_aload_n hx hb dX3_init_94 rfl (lv_at hl 1 rfl) ?_
    refine k_get (v := .ref sl) (T := TX3) (C := RX3) (N := 8) cx hi_X3_init_3 hP 0 rfl rfl 6 (by decide) (by decide +kernel) rfl dX3_init_95 ?_
    refine k_alenI (v := 2) (t0 := 3) cx hP 12 rfl rfl rfl dX3_init_98 ?_
    refine lv_icmp_ge (tgt := 121) hx hb dX3_init_99 (by decide) (fun c9 => ?_) (fun c9 => ?_)
    · exact absurd ((nI_leI (a := 2) (b := i) (by omega) (by omega)).mp c9) (by omega)
    · have hlt : i < 2 := by omega
      refine lv_aload_n hx hb dX3_init_102 rfl (lv_at hl 1 rfl) ?_
      refine k_get (v := .ref sl) (T := TX3) (C := RX3) (N := 8) cx hi_X3_init_3 hP 0 rfl rfl 6 (by decide) (by decide +kernel) rfl dX3_init_103 ?_
      refine lv_iload_n hx hb dX3_init_106 rfl (lv_at hl 0 rfl) ?_
      refine k_new (ws := fx0 G b tx tk qs qt pa sl fi L1 L ++ pool0 G (L1 ++ L)) (T := TX1) (C := RX1) (N := 16) (ci := 1) (ty := tyX1) (fs := [.int 0, .int 0, .int 0, .int 0, .int 0, .int 0, .int 0, .int 0, .int 0, .int 0, .int 0, .int 0, .null, .int 0, .int 0, .null]) cx hi_X3_init_1 tyX1_ok (by decide +kernel) (by decide +kernel) (by decide +kernel) hP hD hS rfl rfl (by show _ ≤ 77; omega) (by show _ ≤ 1970; omega) dX3_init_107 (fun q H hP hD hS => ?_)
      refine lv_dup hx hb dX3_init_110 rfl ?_
      refine k_initN (mc := 3) (ms := 89) (ws := fx0 G b tx tk qs qt pa sl fi L1 L ++ pool0 G (L1 ++ L)) cx hAO (c_X1_init l G q) gX3_init_X1_init_n18 rfl rfl rfl nn_X3_18 (by decide +kernel) (by decide +kernel) rfl (by decide +kernel) ⟨Nat.le_of_ble_eq_true rfl, Nat.le_of_ble_eq_true rfl⟩ hP hD hS hl (Nat.le_of_ble_eq_true rfl) dX3_init_111 ⟨by show _ ≤ 77; omega, by show _ ≤ 1970; omega⟩ (fun qu H locs _ hP hD hS => ?_)
      have e1 : (fx0 G b tx tk qs qt pa sl fi L1 L ++ pool0 G (L1 ++ L)) ++ bun G (q, qu) iSt iOh (fun _ => 0) (fun _ => 0) = fx0 G b tx tk qs qt pa sl fi L1 L ++ (pool0 G (L1 ++ L) ++ bun G (q, qu) iSt iOh z0 z0) := List.append_assoc _ _ _
      rw [e1] at hP hD
      have e2 : (fx0 G b tx tk qs qt pa sl fi L1 L ++ (pool0 G (L1 ++ L) ++ bun G (q, qu) iSt iOh z0 z0)).set 12 (aS G sl 2 (va_up (pgL L) (nI i).toNatClampNeg (some q))) = fx0 G b tx tk qs qt pa sl fi L1 (L ++ [(q, qu)]) ++ pool0 G (L1 ++ (L ++ [(q, qu)])) := by
        rw [show (nI i).toNatClampNeg = i from by show (nI i).toInt.toNat = i; rw [nI_toInt (by omega)]; rfl]
        rw [pgL_up L (q, qu) i hL, pool0_app, List.append_assoc]
        rfl
      refine k_astq (n := 2) (qk := (fx0 G b tx tk qs qt pa sl fi L1 L).length + (pool0 G (L1 ++ L)).length) cx hP hD hS 12 rfl (at_q _ _ _ _) (vp_in_nI hlt (by omega)) e2 dX3_init_114 (fun H locs hP hD hS => ?_)
      refine lv_iinc (v := nI (i + 1)) (lv' := [(1, .int (nI (i + 1))), (0, .ref b)]) hx hb dX3_init_115 hl (k := 0) rfl (by rw [← nI_1]; rfl) (by decide) rfl (fun ls hl => ?_)
      refine lv_goto (tgt := 93) hx hb dX3_init_118 (by decide) ?_
      refine W.eqcs (k := 13 + 4 * (14 + (i + 1))) (n := 290 + 105 * (14 + (i + 1))) (by omega) (by omega) ?_
      exact ih (i + 1) (L ++ [(q, qu)]) (by rw [List.length_append, hL]; rfl) (by omega) H locs hP hD hS ls hl
abbrev u3 : Type := Nat × Nat × qd × qd × Nat × Nat × Nat × List qd × List qd
set_option maxHeartbeats 4000000 in
set_option maxRecDepth 100000 in
theorem c_X3_init (l : Launch) (G : gG) (b : Nat) : kN l G yX3_init wsX3_init rm_X3_init 77 1970 b (.inr (3, [.null, .null, .null, .null, .int 0, .int 0, .null, .null])) (fun u : u3 => u.2.2.2.2.2.2.2.1.length = 14 ∧ u.2.2.2.2.2.2.2.2.length = 2) (fun u : u3 => fx0 G b u.1 u.2.1 u.2.2.1 u.2.2.2.1 u.2.2.2.2.1 u.2.2.2.2.2.1 u.2.2.2.2.2.2.1 u.2.2.2.2.2.2.2.1 u.2.2.2.2.2.2.2.2 ++ pool0 G (u.2.2.2.2.2.2.2.1 ++ u.2.2.2.2.2.2.2.2)) := by
  refine k_bodyN (cc := cX3_init) (nL := 2) (ret := none) (by decide) rfl rfl (Nat.le_of_ble_eq_true rfl) ?_
  intro p e s m args below meth c A cx hin hAO hP hD hS ls hl
  obtain ⟨hx, hb, hml, hown, hts, hr, hlocks, hK, hA⟩ := id cx
  obtain ⟨H, hH⟩ : ∃ H, H = s.heap := ⟨_, rfl⟩
  obtain ⟨locs, hL⟩ : ∃ locs : List Loc, locs = [] := ⟨_, rfl⟩
  have hS : va_S A s.heap H locs := by rw [hH, hL]; exact hS
  rw [← hH] at hP ⊢
  rw [← hL]
  clear hH hL
  refine lv_aload_n hx hb dX3_init_0 rfl (lv_at hl 0 rfl) ?_
  refine k_obj cx hl (by decide +kernel) (by decide +kernel) (by decide +kernel) ⟨Nat.le_of_ble_eq_true rfl, Nat.le_of_ble_eq_true rfl⟩ dX3_init_1 ?_
  refine lv_aload_n hx hb dX3_init_4 rfl (lv_at hl 0 rfl) ?_
  refine k_new (ws := [(b, .inr (3, [.null, .null, .null, .null, .int 0, .int 0, .null, .null]))]) (T := TX2) (C := RX2) (N := 2) (ci := 2) (ty := tyX2) (fs := [.null, .int 0]) cx hi_X3_init_2 tyX2_ok (by decide +kernel) (by decide +kernel) (by decide +kernel) hP hD hS rfl rfl (Nat.le_of_ble_eq_true rfl) (Nat.le_of_ble_eq_true rfl) dX3_init_5 (fun tx H hP hD hS => ?_)
  refine lv_dup hx hb dX3_init_8 rfl ?_
  refine k_initN (mc := 1) (ms := 60) (ws := [(b, .inr (3, [.null, .null, .null, .null, .int 0, .int 0, .null, .null]))]) cx hAO (c_X2_init l G tx) gX3_init_X2_init_n9 rfl rfl rfl nn_X3_9 (by decide +kernel) (by decide +kernel) rfl (by decide +kernel) ⟨Nat.le_of_ble_eq_true rfl, Nat.le_of_ble_eq_true rfl⟩ hP hD hS hl (Nat.le_of_ble_eq_true rfl) dX3_init_9 ⟨Nat.le_of_ble_eq_true rfl, Nat.le_of_ble_eq_true rfl⟩ (fun tk H locs _ hP hD hS => ?_)
  have hP : va_P G.1 vwCl [(b, .inr (3, [.null, .null, .null, .null, .int 0, .int 0, .null, .null])), oTx tx tk z0, aC G tk 60 z0] H := hP
  have hD : va_D A [(b, .inr (3, [.null, .null, .null, .null, .int 0, .int 0, .null, .null])), oTx tx tk z0, aC G tk 60 z0] := hD
  refine k_putF (ws' := [(b, .inr (3, [.ref tx, .null, .null, .null, .int 0, .int 0, .null, .null])), oTx tx tk z0, aC G tk 60 z0]) (ty := tyX3 0) (T := TX3) (C := RX3) (N := 8) (v := .ref tx) cx hin hi_X3_init_3 tyX3_ok nmX3 hP hD hS 0 rfl rfl 0 (by decide) (by decide +kernel) rfl rfl rfl rfl rfl (Nat.le_of_ble_eq_true rfl) rfl dX3_init_12 (fun H locs hP hD hS => ?_)
  refine lv_aload_n hx hb dX3_init_15 rfl (lv_at hl 0 rfl) ?_
  refine k_new (ws := [(b, .inr (3, [.ref tx, .null, .null, .null, .int 0, .int 0, .null, .null])), oTx tx tk z0, aC G tk 60 z0]) (T := TX1) (C := RX1) (N := 16) (ci := 1) (ty := tyX1) (fs := [.int 0, .int 0, .int 0, .int 0, .int 0, .int 0, .int 0, .int 0, .int 0, .int 0, .int 0, .int 0, .null, .int 0, .int 0, .null]) cx hi_X3_init_1 tyX1_ok (by decide +kernel) (by decide +kernel) (by decide +kernel) hP hD hS rfl rfl (Nat.le_of_ble_eq_true rfl) (Nat.le_of_ble_eq_true rfl) dX3_init_16 (fun h H hP hD hS => ?_)
  refine lv_dup hx hb dX3_init_19 rfl ?_
  refine k_initN (mc := 3) (ms := 89) (ws := [(b, .inr (3, [.ref tx, .null, .null, .null, .int 0, .int 0, .null, .null])), oTx tx tk z0, aC G tk 60 z0]) cx hAO (c_X1_init l G h) gX3_init_X1_init_n18 rfl rfl rfl nn_X3_18 (by decide +kernel) (by decide +kernel) rfl (by decide +kernel) ⟨Nat.le_of_ble_eq_true rfl, Nat.le_of_ble_eq_true rfl⟩ hP hD hS hl (Nat.le_of_ble_eq_true rfl) dX3_init_20 ⟨Nat.le_of_ble_eq_true rfl, Nat.le_of_ble_eq_true rfl⟩ (fun hu H locs _ hP hD hS => ?_)
  have hP : va_P G.1 vwCl [(b, .inr (3, [.ref tx, .null, .null, .null, .int 0, .int 0, .null, .null])), oTx tx tk z0, aC G tk 60 z0, oSt h hu.1 hu.2.1 iSt, aI G hu.1 6 iOh, oLed hu.2.1 hu.2.2 z0, aI G hu.2.2 80 z0] H := hP
  have hD : va_D A [(b, .inr (3, [.ref tx, .null, .null, .null, .int 0, .int 0, .null, .null])), oTx tx tk z0, aC G tk 60 z0, oSt h hu.1 hu.2.1 iSt, aI G hu.1 6 iOh, oLed hu.2.1 hu.2.2 z0, aI G hu.2.2 80 z0] := hD
  refine k_putF (ws' := [(b, .inr (3, [.ref tx, .ref h, .null, .null, .int 0, .int 0, .null, .null])), oTx tx tk z0, aC G tk 60 z0, oSt h hu.1 hu.2.1 iSt, aI G hu.1 6 iOh, oLed hu.2.1 hu.2.2 z0, aI G hu.2.2 80 z0]) (ty := tyX3 1) (T := TX3) (C := RX3) (N := 8) (v := .ref h) cx hin hi_X3_init_3 tyX3_ok nmX3 hP hD hS 0 rfl rfl 1 (by decide) (by decide +kernel) rfl rfl rfl rfl rfl (Nat.le_of_ble_eq_true rfl) rfl dX3_init_23 (fun H locs hP hD hS => ?_)
  refine lv_aload_n hx hb dX3_init_26 rfl (lv_at hl 0 rfl) ?_
  refine k_new (ws := [(b, .inr (3, [.ref tx, .ref h, .null, .null, .int 0, .int 0, .null, .null])), oTx tx tk z0, aC G tk 60 z0, oSt h hu.1 hu.2.1 iSt, aI G hu.1 6 iOh, oLed hu.2.1 hu.2.2 z0, aI G hu.2.2 80 z0]) (T := TX1) (C := RX1) (N := 16) (ci := 1) (ty := tyX1) (fs := [.int 0, .int 0, .int 0, .int 0, .int 0, .int 0, .int 0, .int 0, .int 0, .int 0, .int 0, .int 0, .null, .int 0, .int 0, .null]) cx hi_X3_init_1 tyX1_ok (by decide +kernel) (by decide +kernel) (by decide +kernel) hP hD hS rfl rfl (Nat.le_of_ble_eq_true rfl) (Nat.le_of_ble_eq_true rfl) dX3_init_27 (fun g H hP hD hS => ?_)
  refine lv_dup hx hb dX3_init_30 rfl ?_
  refine k_initN (mc := 3) (ms := 89) (ws := [(b, .inr (3, [.ref tx, .ref h, .null, .null, .int 0, .int 0, .null, .null])), oTx tx tk z0, aC G tk 60 z0, oSt h hu.1 hu.2.1 iSt, aI G hu.1 6 iOh, oLed hu.2.1 hu.2.2 z0, aI G hu.2.2 80 z0]) cx hAO (c_X1_init l G g) gX3_init_X1_init_n18 rfl rfl rfl nn_X3_18 (by decide +kernel) (by decide +kernel) rfl (by decide +kernel) ⟨Nat.le_of_ble_eq_true rfl, Nat.le_of_ble_eq_true rfl⟩ hP hD hS hl (Nat.le_of_ble_eq_true rfl) dX3_init_31 ⟨Nat.le_of_ble_eq_true rfl, Nat.le_of_ble_eq_true rfl⟩ (fun gu H locs _ hP hD hS => ?_)
  have hP : va_P G.1 vwCl [(b, .inr (3, [.ref tx, .ref h, .null, .null, .int 0, .int 0, .null, .null])), oTx tx tk z0, aC G tk 60 z0, oSt h hu.1 hu.2.1 iSt, aI G hu.1 6 iOh, oLed hu.2.1 hu.2.2 z0, aI G hu.2.2 80 z0, oSt g gu.1 gu.2.1 iSt, aI G gu.1 6 iOh, oLed gu.2.1 gu.2.2 z0, aI G gu.2.2 80 z0] H := hP
  have hD : va_D A [(b, .inr (3, [.ref tx, .ref h, .null, .null, .int 0, .int 0, .null, .null])), oTx tx tk z0, aC G tk 60 z0, oSt h hu.1 hu.2.1 iSt, aI G hu.1 6 iOh, oLed hu.2.1 hu.2.2 z0, aI G hu.2.2 80 z0, oSt g gu.1 gu.2.1 iSt, aI G gu.1 6 iOh, oLed gu.2.1 gu.2.2 z0, aI G gu.2.2 80 z0] := hD
  refine k_putF (ws' := [(b, .inr (3, [.ref tx, .ref h, .ref g, .null, .int 0, .int 0, .null, .null])), oTx tx tk z0, aC G tk 60 z0, oSt h hu.1 hu.2.1 iSt, aI G hu.1 6 iOh, oLed hu.2.1 hu.2.2 z0, aI G hu.2.2 80 z0, oSt g gu.1 gu.2.1 iSt, aI G gu.1 6 iOh, oLed gu.2.1 gu.2.2 z0, aI G gu.2.2 80 z0]) (ty := tyX3 2) (T := TX3) (C := RX3) (N := 8) (v := .ref g) cx hin hi_X3_init_3 tyX3_ok nmX3 hP hD hS 0 rfl rfl 2 (by decide) (by decide +kernel) rfl rfl rfl rfl rfl (Nat.le_of_ble_eq_true rfl) rfl dX3_init_34 (fun H locs hP hD hS => ?_)
  refine lv_aload_n hx hb dX3_init_37 rfl (lv_at hl 0 rfl) ?_
  refine lv_bipush (v := 14) hx hb dX3_init_38 (by decide) ?_
  refine k_newq (N := 14) cx hAO (by decide +kernel) hP hD hS (by decide) (by decide) (Nat.le_of_ble_eq_true rfl) (Nat.le_of_ble_eq_true rfl) (Nat.le_of_ble_eq_true rfl) dX3_init_40 (fun pa H hP hD hS => ?_)
  have hP : va_P G.1 vwCl [(b, .inr (3, [.ref tx, .ref h, .ref g, .null, .int 0, .int 0, .null, .null])), oTx tx tk z0, aC G tk 60 z0, oSt h hu.1 hu.2.1 iSt, aI G hu.1 6 iOh, oLed hu.2.1 hu.2.2 z0, aI G hu.2.2 80 z0, oSt g gu.1 gu.2.1 iSt, aI G gu.1 6 iOh, oLed gu.2.1 gu.2.2 z0, aI G gu.2.2 80 z0, aS G pa 14 (pgL [])] H := hP
  have hD : va_D A [(b, .inr (3, [.ref tx, .ref h, .ref g, .null, .int 0, .int 0, .null, .null])), oTx tx tk z0, aC G tk 60 z0, oSt h hu.1 hu.2.1 iSt, aI G hu.1 6 iOh, oLed hu.2.1 hu.2.2 z0, aI G hu.2.2 80 z0, oSt g gu.1 gu.2.1 iSt, aI G gu.1 6 iOh, oLed gu.2.1 gu.2.2 z0, aI G gu.2.2 80 z0, aS G pa 14 (pgL [])] := hD
  refine k_putF (ws' := [(b, .inr (3, [.ref tx, .ref h, .ref g, .ref pa, .int 0, .int 0, .null, .null])), oTx tx tk z0, aC G tk 60 z0, oSt h hu.1 hu.2.1 iSt, aI G hu.1 6 iOh, oLed hu.2.1 hu.2.2 z0, aI G hu.2.2 80 z0, oSt g gu.1 gu.2.1 iSt, aI G gu.1 6 iOh, oLed gu.2.1 gu.2.2 z0, aI G gu.2.2 80 z0, aS G pa 14 (pgL [])]) (ty := tyX3 3) (T := TX3) (C := RX3) (N := 8) (v := .ref pa) cx hin hi_X3_init_3 tyX3_ok nmX3 hP hD hS 0 rfl rfl 3 (by decide) (by decide +kernel) rfl rfl rfl rfl rfl (Nat.le_of_ble_eq_true rfl) rfl dX3_init_43 (fun H locs hP hD hS => ?_)
  refine lv_aload_n hx hb dX3_init_46 rfl (lv_at hl 0 rfl) ?_
  refine lv_iconst (v := 2) hx hb dX3_init_47 (by decide) ?_
  refine k_newq (N := 2) cx hAO (by decide +kernel) hP hD hS (by decide) (by decide) (Nat.le_of_ble_eq_true rfl) (Nat.le_of_ble_eq_true rfl) (Nat.le_of_ble_eq_true rfl) dX3_init_48 (fun sl H hP hD hS => ?_)
  have hP : va_P G.1 vwCl [(b, .inr (3, [.ref tx, .ref h, .ref g, .ref pa, .int 0, .int 0, .null, .null])), oTx tx tk z0, aC G tk 60 z0, oSt h hu.1 hu.2.1 iSt, aI G hu.1 6 iOh, oLed hu.2.1 hu.2.2 z0, aI G hu.2.2 80 z0, oSt g gu.1 gu.2.1 iSt, aI G gu.1 6 iOh, oLed gu.2.1 gu.2.2 z0, aI G gu.2.2 80 z0, aS G pa 14 (pgL []), aS G sl 2 (pgL [])] H := hP
  have hD : va_D A [(b, .inr (3, [.ref tx, .ref h, .ref g, .ref pa, .int 0, .int 0, .null, .null])), oTx tx tk z0, aC G tk 60 z0, oSt h hu.1 hu.2.1 iSt, aI G hu.1 6 iOh, oLed hu.2.1 hu.2.2 z0, aI G hu.2.2 80 z0, oSt g gu.1 gu.2.1 iSt, aI G gu.1 6 iOh, oLed gu.2.1 gu.2.2 z0, aI G gu.2.2 80 z0, aS G pa 14 (pgL []), aS G sl 2 (pgL [])] := hD
  refine k_putF (ws' := [(b, .inr (3, [.ref tx, .ref h, .ref g, .ref pa, .int 0, .int 0, .ref sl, .null])), oTx tx tk z0, aC G tk 60 z0, oSt h hu.1 hu.2.1 iSt, aI G hu.1 6 iOh, oLed hu.2.1 hu.2.2 z0, aI G hu.2.2 80 z0, oSt g gu.1 gu.2.1 iSt, aI G gu.1 6 iOh, oLed gu.2.1 gu.2.2 z0, aI G gu.2.2 80 z0, aS G pa 14 (pgL []), aS G sl 2 (pgL [])]) (ty := tyX3 6) (T := TX3) (C := RX3) (N := 8) (v := .ref sl) cx hin hi_X3_init_3 tyX3_ok nmX3 hP hD hS 0 rfl rfl 6 (by decide) (by decide +kernel) rfl rfl rfl rfl rfl (Nat.le_of_ble_eq_true rfl) rfl dX3_init_51 (fun H locs hP hD hS => ?_)
  refine lv_aload_n hx hb dX3_init_54 rfl (lv_at hl 0 rfl) ?_
  refine lv_iconst (v := 2) hx hb dX3_init_55 (by decide) ?_
  refine k_newaZ (N := 2) cx (by decide +kernel) hP hD hS (by decide) (by decide) (Nat.le_of_ble_eq_true rfl) (Nat.le_of_ble_eq_true rfl) (Nat.le_of_ble_eq_true rfl) dX3_init_56 (fun fi H hP hD hS => ?_)
  have hP : va_P G.1 vwCl [(b, .inr (3, [.ref tx, .ref h, .ref g, .ref pa, .int 0, .int 0, .ref sl, .null])), oTx tx tk z0, aC G tk 60 z0, oSt h hu.1 hu.2.1 iSt, aI G hu.1 6 iOh, oLed hu.2.1 hu.2.2 z0, aI G hu.2.2 80 z0, oSt g gu.1 gu.2.1 iSt, aI G gu.1 6 iOh, oLed gu.2.1 gu.2.2 z0, aI G gu.2.2 80 z0, aS G pa 14 (pgL []), aS G sl 2 (pgL []), aZ G fi 2 z0] H := hP
  have hD : va_D A [(b, .inr (3, [.ref tx, .ref h, .ref g, .ref pa, .int 0, .int 0, .ref sl, .null])), oTx tx tk z0, aC G tk 60 z0, oSt h hu.1 hu.2.1 iSt, aI G hu.1 6 iOh, oLed hu.2.1 hu.2.2 z0, aI G hu.2.2 80 z0, oSt g gu.1 gu.2.1 iSt, aI G gu.1 6 iOh, oLed gu.2.1 gu.2.2 z0, aI G gu.2.2 80 z0, aS G pa 14 (pgL []), aS G sl 2 (pgL []), aZ G fi 2 z0] := hD
  refine k_putF (ws' := [(b, .inr (3, [.ref tx, .ref h, .ref g, .ref pa, .int 0, .int 0, .ref sl, .ref fi])), oTx tx tk z0, aC G tk 60 z0, oSt h hu.1 hu.2.1 iSt, aI G hu.1 6 iOh, oLed hu.2.1 hu.2.2 z0, aI G hu.2.2 80 z0, oSt g gu.1 gu.2.1 iSt, aI G gu.1 6 iOh, oLed gu.2.1 gu.2.2 z0, aI G gu.2.2 80 z0, aS G pa 14 (pgL []), aS G sl 2 (pgL []), aZ G fi 2 z0]) (ty := tyX3 7) (T := TX3) (C := RX3) (N := 8) (v := .ref fi) cx hin hi_X3_init_3 tyX3_ok nmX3 hP hD hS 0 rfl rfl 7 (by decide) (by decide +kernel) rfl rfl rfl rfl rfl (Nat.le_of_ble_eq_true rfl) rfl dX3_init_58 (fun H locs hP hD hS => ?_)
  refine lv_iconst (v := 0) hx hb dX3_init_61 (by decide) ?_
  refine lv_istore_n (lv' := [(1, .int 0), (0, .ref b)]) hx hb dX3_init_62 rfl hl (by decide) rfl (fun ls hl => ?_)
  have hP : va_P G.1 vwCl (fx0 G b tx tk (h, hu) (g, gu) pa sl fi [] [] ++ pool0 G []) H := hP
  have hD : va_D A (fx0 G b tx tk (h, hu) (g, gu) pa sl fi [] [] ++ pool0 G []) := hD
  refine b_X3_init_63 cx hAO b tx tk (h, hu) (g, gu) pa sl fi (fun L1 hL1 H locs hP hD hS ls hl => ?_) 14 0 [] rfl rfl H locs hP hD hS ls hl
  refine lv_iconst (v := 0) hx hb dX3_init_91 (by decide) ?_
  refine lv_istore_n (lv' := [(1, .int 0), (0, .ref b)]) hx hb dX3_init_92 rfl hl (by decide) rfl (fun ls hl => ?_)
  have hP : va_P G.1 vwCl (fx0 G b tx tk (h, hu) (g, gu) pa sl fi L1 [] ++ pool0 G (L1 ++ [])) H := by rw [List.append_nil]; exact hP
  have hD : va_D A (fx0 G b tx tk (h, hu) (g, gu) pa sl fi L1 [] ++ pool0 G (L1 ++ [])) := by rw [List.append_nil]; exact hD
  refine b_X3_init_93 cx hAO b tx tk (h, hu) (g, gu) pa sl fi L1 (fun L2 hL2 H locs hP hD hS ls hl => ?_) 2 0 [] rfl rfl H locs hP hD hS ls hl
  exact k_vretN cx (tx, tk, (h, hu), (g, gu), pa, sl, fi, L1, L2) ⟨hL1, hL2⟩ hP hD hS ⟨Nat.le_of_ble_eq_true rfl, Nat.le_of_ble_eq_true rfl⟩ dX3_init_121
