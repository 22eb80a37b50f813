/-! ===== normal forms: what Plan and the model's statics answer at small numbers ===== -/
theorem N_isG : ∀ i, i < 28 → pX4_isGangway (nI i) = pX7_isGangway (nI i) := by decide +kernel
theorem N_les : ∀ i, i < 28 → pX4_lesserRoof (nI i) = pX7_lesserOf (nI i) := by decide +kernel
theorem N_gre : ∀ i, i < 28 → pX4_greaterRoof (nI i) = pX7_greaterOf (nI i) := by decide +kernel
theorem N_roofs (u : Nat → Nat → Int32) (w : Nat → Int32) (i : Nat) (h : i < 28) : pX7_bothOf u w (nI i) = pX4_roofsOf (nI i) := by
  unfold pX7_bothOf pX4_roofsOf
  rw [N_les i h, N_gre i h]
theorem N_other : ∀ i, i < 28 → ∀ r, r < 16 → pX4_otherRoof (nI i) (nI r) = pX7_otherOf (nI i) (nI r) := by decide +kernel
theorem N_next : ∀ r, r < 16 → ∀ d, d < 4 → (pX4_nextRoof (nI r) (nI d) = -1 ∧ pX7_nextTo (nI r) (nI d) = -4) ∨ (pX4_nextRoof (nI r) (nI d) = pX7_nextTo (nI r) (nI d) ∧ 0 ≤ pX7_nextTo (nI r) (nI d)) := by decide +kernel
theorem N_smoke0 : ∀ r, r < 16 → ∀ d, d < 4 → ∀ m, m < 4 → pX7_smokeOf (fun _ _ => nI m) (fun _ => 0) (nI r) (nI d) = pX4_roofAndNext (nI r) (nI d) (nI m) := by decide +kernel
theorem N_smoke (u : Nat → Nat → Int32) (w : Nat → Int32) (r d m : Nat) (hr : r < 16) (hd : d < 4) (hm : m < 4) (hu : u 0 2 = nI m) : pX7_smokeOf u w (nI r) (nI d) = pX4_roofAndNext (nI r) (nI d) (nI m) := by
  rw [← N_smoke0 r hr d hd m hm]
  unfold pX7_smokeOf
  rw [hu]
theorem N_isIn (a b : Int32) : pX7_isIn a b = pX6_isIn a b := rfl
