theorem M_smokeL (uc : Nat → Nat → Int32) (wc : Nat → Int32) (u : Nat → Nat → Int32) (w : Nat → Int32) (d m : Nat) (hd : d < 4) (hm : m < 4) (h9 : wc 9 = u 0 8) (h12 : wc 12 = nI m) (h2 : u 0 2 = nI m) (n : Nat) (hn : n ≤ 16) : pX0_smokeBlown_L4 uc wc (nI d) n = pX7_smokeBy_L4 u w (nI d) n := by
  induction n with
  | zero => rw [pX0_smokeBlown_L4_0, pX7_smokeBy_L4_0]
  | succ n ih =>
    rw [pX0_smokeBlown_L4_s, pX7_smokeBy_L4_s, ih (by omega), h9, h12, N_isIn, N_smoke u w n d m (by omega) hd hm h2]
    by_cases c : pX6_isIn (u 0 8) (nI n) = 0
    · rw [if_pos c, if_pos c, Int32.or_zero]
    · rw [if_neg c, if_neg c]
theorem M_smokeBy (uc : Nat → Nat → Int32) (wc : Nat → Int32) (u : Nat → Nat → Int32) (w : Nat → Int32) (d m : Nat) (hd : d < 4) (hm : m < 4) (h9 : wc 9 = u 0 8) (h12 : wc 12 = nI m) (h2 : u 0 2 = nI m) : pX0_smokeBlown uc wc (nI d) = pX7_smokeBy u w (nI d) := M_smokeL uc wc u w d m hd hm h9 h12 h2 16 (Nat.le_refl _)
