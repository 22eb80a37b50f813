theorem hl12 (u : Nat → Nat → Int32) (w : Nat → Int32) (a b : Int32) : (pX0_hangLine u w a b).2.2 12 = w 12 := by
  unfold pX0_hangLine
  (repeat' split) <;> rfl
theorem tk12 (u : Nat → Nat → Int32) (w : Nat → Int32) (a b : Int32) : (pX0_takeLine u w a b).2.2 12 = w 12 := by
  unfold pX0_takeLine
  (repeat' split) <;> rfl
theorem wo12 (u : Nat → Nat → Int32) (w : Nat → Int32) (a b : Int32) : (pX0_walkOver u w a b).2.2 12 = w 12 := by
  unfold pX0_walkOver
  (repeat' split) <;> rfl
theorem sl12 (u : Nat → Nat → Int32) (w : Nat → Int32) (a b : Int32) : (pX0_soilLine u w a b).2 12 = w 12 := by
  unfold pX0_soilLine
  (repeat' split) <;> rfl
theorem pdL12 (u : Nat → Nat → Int32) (w : Nat → Int32) (n : Nat) : (pX0_passDay_L21 u w n).2 12 = w 12 := by
  induction n with
  | zero => rfl
  | succ n ih =>
    rw [pX0_passDay_L21_s]
    split
    · exact ih
    · exact (sl12 _ _ _ _).trans ih
theorem if12 {c : Prop} [Decidable c] {z : (Nat → Nat → Int32) × (Nat → Int32)} {w : Nat → Int32} {x y y2 : Int32} (h : z.2 12 = w 12) : (if c then (z.1, (va_up (va_up z.2 14 x) 11 y)) else (z.1, (va_up z.2 14 y2))).2 12 = w 12 := by
  split <;> exact h
theorem pd12 (u : Nat → Nat → Int32) (w : Nat → Int32) : (pX0_passDay u w).2 12 = w 12 := by
  have h := pdL12 u w 28
  unfold pX0_passDay
  generalize pX0_passDay_L21 u w 28 = z at h ⊢
  exact if12 h
theorem co12 (rt : Nat → Int32) (sg : Nat → Nat → Int32) (pw rd : Nat → Int32) (u : Nat → Nat → Int32) (w : Nat → Int32) (h : Nat → (Nat → Nat → Int32) × (Nat → Int32)) (r : Nat) (v : Nat → Int32) (tu : Nat → Nat → Int32) (tw : Nat → Int32) (su : Nat → Nat → Int32) (sw : Nat → Int32) (g : Nat → Nat → Int32) : (pX6_carryOutOrder rt sg pw rd u w h r v tu tw su sw g).2.2 12 = w 12 := by
  unfold pX6_carryOutOrder
  split
  · rfl
  · split
    · with_reducible exact hl12 u w _ _
    · split
      · with_reducible exact tk12 u w _ _
      · split
        · split
          · rfl
          · with_reducible exact wo12 u w _ _
        · with_reducible exact pd12 u w
theorem OK6_no {s : Nat → Int32} {x : Int32} (h : s 3 = x) (hx : ¬ (x = 104 ∨ x = 116 ∨ x = 119)) : OK6 s := fun q => absurd (h ▸ q) hx
theorem own_ok {rd : Nat → Int32} {sg : Nat → Nat → Int32} {pw : Nat → Int32} (h : ¬ (pX2_readOwner rd sg pw).1 = 0) : vp_in ((pX2_readOwner rd sg pw).2 4) 4 := by
  revert h
  unfold pX2_readOwner
  split
  · intro h
    exact absurd rfl h
  · rename_i c
    intro _
    exact io_in c
theorem sgn_k (rd : Nat → Int32) (sg : Nat → Nat → Int32) (pw : Nat → Int32) (c : Int32) (k : Nat) (hk : k ≠ 1) : (pX2_readSign rd sg pw c).2 k = rd k := by
  unfold pX2_readSign
  split
  · exact va_up_ne _ _ hk
  · rfl
theorem al1 (x : Int32) : pX2_isAllowed x 1 = pX4_isGangway x := if_neg (by decide)
theorem num_k (rd : Nat → Int32) (sg : Nat → Nat → Int32) (pw : Nat → Int32) (b : Int32) (k : Nat) (hk : k ≠ 1) (hk2 : k ≠ 5) : (pX2_readNumber rd sg pw b).2 k = rd k := by
  unfold pX2_readNumber
  (repeat' split) <;> first | rfl | exact (va_up_ne _ _ hk2).trans (va_up_ne _ _ hk)
theorem num_ok {rd : Nat → Int32} {sg : Nat → Nat → Int32} {pw : Nat → Int32} (h : ¬ (pX2_readNumber rd sg pw 1).1 = 0) : vp_in ((pX2_readNumber rd sg pw 1).2 5) 28 := by
  revert h
  unfold pX2_readNumber
  split
  · intro h
    exact absurd rfl h
  · rename_i c
    rw [al1] at c
    split
    · exact fun _ => ig_in c
    · split
      · exact fun _ => ig_in c
      · split
        · exact fun _ => ig_in c
        · rename_i c2
          rw [al1] at c2
          exact fun _ => ig_in c2
theorem chain_ok {rd : Nat → Int32} {sg : Nat → Nat → Int32} {pw : Nat → Int32} {c : Int32} (h1 : ¬ (pX2_readOwner rd sg pw).1 = 0) (h3 : ¬ (pX2_readNumber (pX2_readSign (pX2_readOwner rd sg pw).2 sg pw c).2 sg pw 1).1 = 0) : OK6 (pX2_readNumber (pX2_readSign (pX2_readOwner rd sg pw).2 sg pw c).2 sg pw 1).2 := fun _ => ⟨by rw [num_k _ _ _ _ 4 (by decide) (by decide), sgn_k _ _ _ _ 4 (by decide)]; exact own_ok h1, num_ok h3⟩
theorem c_no {rd : Nat → Int32} {sg : Nat → Nat → Int32} {pw : Nat → Int32} {b : Int32} (h : rd 3 = 99) : OK6 (pX2_readNumber rd sg pw b).2 := OK6_no ((num_k rd sg pw b 3 (by decide) (by decide)).trans h) (by decide)
theorem ro_ok {rd : Nat → Int32} {sg : Nat → Nat → Int32} {pw : Nat → Int32} : ¬ (pX2_readOrder rd sg pw).1 = 0 → OK6 (pX2_readOrder rd sg pw).2 := by
  unfold pX2_readOrder
  split
  · rename_i c
    intro _
    have c' : (va_up (va_up (va_up rd 2 (rd 1)) 3 (pX3_signAt sg pw (rd 1))) 1 ((rd 1) + (1 : Int32))) 3 = 99 := c
    with_reducible exact c_no c'
  · split
    · rename_i _ c
      intro _
      have c' : (va_up (va_up (va_up rd 2 (rd 1)) 3 (pX3_signAt sg pw (rd 1))) 1 ((rd 1) + (1 : Int32))) 3 = 100 := c
      with_reducible exact OK6_no c' (by decide)
    · split
      · (repeat' split) <;> intro h <;> first | with_reducible exact absurd rfl h | with_reducible exact chain_ok (by assumption) (by assumption)
      · split
        · (repeat' split) <;> intro h <;> first | with_reducible exact absurd rfl h | with_reducible exact chain_ok (by assumption) (by assumption)
        · split
          · (repeat' split) <;> intro h <;> first | with_reducible exact absurd rfl h | with_reducible exact chain_ok (by assumption) (by assumption)
          · intro h
            exact absurd rfl h
theorem OK6_sgn {s : Nat → Int32} {sg : Nat → Nat → Int32} {pw : Nat → Int32} {c : Int32} (h : OK6 s) : OK6 (pX2_readSign s sg pw c).2 := by
  unfold OK6
  rw [sgn_k _ _ _ _ 3 (by decide), sgn_k _ _ _ _ 4 (by decide), sgn_k _ _ _ _ 5 (by decide)]
  exact h
theorem rn_ok {rd : Nat → Int32} {sg : Nat → Nat → Int32} {pw : Nat → Int32} : ¬ (pX2_readNext rd sg pw).1 = 0 → OK6 (pX2_readNext rd sg pw).2 := by
  unfold pX2_readNext
  split
  · intro h
    with_reducible exact OK6_sgn (ro_ok h)
  · intro h
    exact absurd rfl h
