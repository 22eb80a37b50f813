theorem ADV_0 {k : Nat} {w : Nat → Int32} : ADV k w w := ADV_le (ADV_rf w) (Nat.zero_le _)
theorem ADV_s1 {k : Nat} {w X : Nat → Int32} {u : Nat → Nat → Int32} {b : Int32} (h : ADV k w X) : ADV (k + 1) w (pX7_takes u X b).2 := ADV_tr h (takes_adv _ _ _)
theorem ADV_s2 {k : Nat} {w X : Nat → Int32} {u : Nat → Nat → Int32} {b : Int32} (h : ADV k w X) : ADV (k + 2) w (pX7_takesNumber u X b).2.2 := ADV_tr h (takesNumber_adv _ _ _)
theorem ADV_u0 {k : Nat} {w X : Nat → Int32} {v : Int32} (h : ADV k w X) : ADV k w (va_up X 10 v) := h
theorem ADV_u1 {k : Nat} {w X : Nat → Int32} {v : Int32} (h : ADV k w X) : ADV k w (va_up X 11 v) := h
theorem ADV_u2 {k : Nat} {w X : Nat → Int32} {v : Int32} (h : ADV k w X) : ADV k w (va_up X 12 v) := h
theorem takesOrder_adv (u : Nat → Nat → Int32) (w : Nat → Int32) : ADV 8 w (pX7_takesOrder u w).2 := by
  unfold pX7_takesOrder
  repeat' split
  all_goals (repeat (first | with_reducible exact ADV_0 | with_reducible refine ADV_s1 ?_ | with_reducible refine ADV_s2 ?_ | with_reducible refine ADV_u0 ?_ | with_reducible refine ADV_u1 ?_ | with_reducible refine ADV_u2 ?_))
theorem SP_cl {n : Nat} {w : Nat → Int32} (h : SP n w) (hn : n < 2000) : (w 8).toNatClampNeg ≤ n := by
  obtain ⟨sp, h1, h2⟩ := h
  rw [h1, nI_clamp (by omega)]
  exact h2
theorem SP_lt {n : Nat} {w : Nat → Int32} (h : SP n w) (hn : n < 2000) (h6 : (w 7) ≤ 60) (hc : ¬ (w 7) ≤ (w 8)) : SP 59 w := by
  obtain ⟨sp, h1, h2⟩ := h
  rw [h1] at hc
  have a1 := Int32.le_iff_toInt_le.mp h6
  have a2 := Int32.lt_iff_toInt_lt.mp (Int32.not_le.mp hc)
  rw [nI_toInt (by omega)] at a2
  rw [show (60 : Int32).toInt = 60 from rfl] at a1
  exact ⟨sp, h1, by omega⟩
theorem adv_cl {n a : Nat} {w w' : Nat → Int32} (h : SP a w) (hv : ADV n w w') (hb : a + n < 2000) : (w 8).toNatClampNeg ≤ (w' 8).toNatClampNeg := by
  obtain ⟨sp, h1, h2⟩ := h
  obtain ⟨⟨d, a1, a2⟩, -⟩ := hv
  rw [a2, h1, nI_add, nI_clamp (by omega), nI_clamp (by omega)]
  omega
theorem takes_one {u : Nat → Nat → Int32} {w : Nat → Int32} {b : Int32} (h : ¬ ((pX7_takes u w b).2 9) = 0) : (pX7_takes u w b).2 8 = w 8 + 1 := by
  revert h
  unfold pX7_takes
  (repeat' split) <;> intro h
  · exact absurd rfl h
  · exact absurd rfl h
  · rfl
