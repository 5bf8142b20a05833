/-! the law's cases: what they share -/
theorem hm_z {e1 q : Int32} (h : hm e1 q = 0) : q = 0 := by
  unfold hm at h
  by_cases c : q = 0
  · exact c
  · rw [if_neg c] at h
    by_cases c2 : q = e1
    · rw [if_pos c2] at h; exact absurd h (by decide)
    · rw [if_neg c2] at h; exact absurd h (by decide)
theorem slot_k {Q : Nat → qd} {pg sg : Nat → Option Nat} (HQ : PQ Q pg sg) (x : Int32) : ∃ kx : Nat, kx < 16 ∧ (P_X3_outside x 0 1 = 0 → kx = 14 + x.toInt.toNat) ∧ (P_X3_outside x 0 1 = 0 → P_X3_entry 2 sg x = some (Q kx).1) := by
  by_cases c : P_X3_outside x 0 1 = 0
  · have h := out_i c
    have z0 : (0 : Int32).toInt = 0 := by decide
    have z1 : (1 : Int32).toInt = 1 := by decide
    have h2 : x.toInt.toNat < 2 := by omega
    exact ⟨14 + x.toInt.toNat, by omega, fun _ => rfl, fun _ => (ent_i (k := x.toInt.toNat) (by omega) h2 (by decide)).trans (HQ.2 _ h2)⟩
  · exact ⟨0, by decide, fun q => absurd q c, fun q => absurd q c⟩
section LI
variable {bf tf tc f oh lf ce ff : Nat → Int32} {C : Nat → ct4} {mf tt pn dd kk ki : Nat → Int32}
theorem i_clearText (I : INV bf tf tc f oh lf ce ff C mf tt pn dd kk ki) : (P_X3_clearText bf tf).1 = (P_X4_clearText mf).1 ∧ INV bf (P_X3_clearText bf tf).2 tc f oh lf ce ff C (P_X4_clearText mf).2 tt pn dd kk ki := by
  obtain ⟨a, b, c, d⟩ := q_clearText I.1 bf
  exact ⟨a, b, I.2.1, dr_mf I.2.2.1 (c 8 (by decide)), I.2.2.2⟩
theorem i_errorPosition (I : INV bf tf tc f oh lf ce ff C mf tt pn dd kk ki) (pr : Nat → Int32) : P_X3_errorPosition bf tf tc = (P_X4_errorPosition mf pr tt).1 ∧ INV bf tf tc f oh lf ce ff C (P_X4_errorPosition mf pr tt).2.1 tt pn dd kk ki := by
  obtain ⟨a, b⟩ := q_errorPosition I.1 bf pr
  exact ⟨a, inv_mf I (b 2 (by decide)) (b 8 (by decide))⟩
theorem i_enoughShunt (I : INV bf tf tc f oh lf ce ff C mf tt pn dd kk ki) : P_X3_enoughShunt bf f oh = (P_X4_enoughShunt mf pn).1 ∧ INV bf tf tc f oh lf ce ff C (P_X4_enoughShunt mf pn).2 tt pn dd kk ki := by
  rw [q_enoughShunt I.2.1 bf mf]
  exact ⟨rfl, inv_mf I rfl rfl⟩
theorem i_sensitivity (I : INV bf tf tc f oh lf ce ff C mf tt pn dd kk ki) : P_X3_sensitivity bf f oh = (P_X4_sensitivity mf pn).1 ∧ INV bf tf tc f oh lf ce ff C (P_X4_sensitivity mf pn).2 tt pn dd kk ki := by
  rw [q_sensitivity I.2.1 bf mf]
  exact ⟨rfl, inv_mf I rfl rfl⟩
end LI
