/-! ===== orders in texts: what both readers read (a specification of my own: tx, sNum, sOrd) ===== -/
theorem in_eq (a b c : Int32) : pX7_in a b c = pX6_isWithin a b c := rfl
theorem isG_eq (x : Int32) : pX4_isGangway x = pX7_isGangway x := by
  by_cases h : pX6_isWithin x 0 27 = 0
  · unfold pX4_isGangway pX7_isGangway
    rw [in_eq, if_pos h, if_pos h]
  · obtain ⟨j, hj, rfl⟩ := vp_in_of (wi_in (N := 28) rfl (by decide) h) (by decide)
    exact N_isG j hj
theorem num_eq (b x : Int32) : pX2_isAllowed x b = pX7_isNumber b x := by
  unfold pX2_isAllowed pX7_isNumber
  rw [isG_eq]
  rfl
def tx (f : Nat → Int32) (n : Nat) (e : Int32) (i : Nat) : Int32 := if i < n then f i else e
def sNum (T : Nat → Int32) (b : Int32) (i : Nat) : Bool × Int32 × Nat :=
  if pX7_in (T i - (48 : Int32)) 0 9 = 0 ∨ pX7_isNumber b (T i - (48 : Int32)) = 0 then (false, 0, i)
  else if T i - (48 : Int32) ≤ 0 ∨ pX7_in (T (i + 1)) 48 57 = 0 ∨ pX7_isNumber b ((((10 : Int32) * (T i - (48 : Int32))) + T (i + 1)) - (48 : Int32)) = 0 then (true, T i - (48 : Int32), i + 1)
  else (true, (((10 : Int32) * (T i - (48 : Int32))) + T (i + 1)) - (48 : Int32), i + 2)
def sPair (T : Nat → Int32) (i : Nat) : Bool × Nat × Int32 × Int32 :=
  if pX7_isOwner (T (i + 1) - (48 : Int32)) = 0 then (false, i + 1, 0, 0)
  else if T (i + 2) = 58 then
    if (sNum T 1 (i + 3)).1 = true then (true, (sNum T 1 (i + 3)).2.2, T (i + 1) - (48 : Int32), (sNum T 1 (i + 3)).2.1) else (false, i + 3, 0, 0)
  else (false, i + 2, 0, 0)
def sOrd (T : Nat → Int32) (i : Nat) : Bool × Nat × Int32 × Int32 :=
  if T i = 104 ∨ T i = 116 ∨ T i = 119 then sPair T i
  else if T i = 99 then
    if (sNum T 0 (i + 1)).1 = true then (true, (sNum T 0 (i + 1)).2.2, (sNum T 0 (i + 1)).2.1, 0) else (false, i + 1, 0, 0)
  else if T i = 100 then (true, i + 1, 0, 0)
  else (false, i, 0, 0)
def W5 (w : Nat → Int32) (i : Nat) (f a b c : Int32) : Nat → Int32 := fun k => if k = 8 then nI i else if k = 9 then f else if k = 10 then a else if k = 11 then b else if k = 12 then c else w k
theorem W5_8 (w : Nat → Int32) (i : Nat) (f a b c : Int32) : W5 w i f a b c 8 = nI i := rfl
theorem W5_9 (w : Nat → Int32) (i : Nat) (f a b c : Int32) : W5 w i f a b c 9 = f := rfl
theorem W5_9n (w : Nat → Int32) (i : Nat) (a b c : Int32) : ¬ W5 w i 1 a b c 9 = 0 := by
  rw [W5_9]
  decide
theorem W5_10 (w : Nat → Int32) (i : Nat) (f a b c : Int32) : W5 w i f a b c 10 = a := rfl
theorem W5_11 (w : Nat → Int32) (i : Nat) (f a b c : Int32) : W5 w i f a b c 11 = b := rfl
theorem W5_12 (w : Nat → Int32) (i : Nat) (f a b c : Int32) : W5 w i f a b c 12 = c := rfl
theorem W5_k (w : Nat → Int32) (i : Nat) (f a b c : Int32) {k : Nat} (h : k < 8 ∨ 12 < k) : W5 w i f a b c k = w k := by
  unfold W5
  rw [if_neg (by omega), if_neg (by omega), if_neg (by omega), if_neg (by omega), if_neg (by omega)]
theorem W5_id {w : Nat → Int32} {i : Nat} (h : w 8 = nI i) : w = W5 w i (w 9) (w 10) (w 11) (w 12) := by
  funext k
  unfold W5
  split
  · rename_i e
    rw [e, h]
  · split
    · rename_i e
      rw [e]
    · split
      · rename_i e
        rw [e]
      · split
        · rename_i e
          rw [e]
        · split
          · rename_i e
            rw [e]
          · rfl
theorem W5_ext {w : Nat → Int32} {i : Nat} {f a b c : Int32} {v : Nat → Int32} (h8 : v 8 = nI i) (h9 : v 9 = f) (h10 : v 10 = a) (h11 : v 11 = b) (h12 : v 12 = c) (hk : ∀ k, k < 8 ∨ 12 < k → v k = w k) : v = W5 w i f a b c := by
  funext k
  unfold W5
  split
  · rename_i e
    rw [e, h8]
  · split
    · rename_i e
      rw [e, h9]
    · split
      · rename_i e
        rw [e, h10]
      · split
        · rename_i e
          rw [e, h11]
        · split
          · rename_i e
            rw [e, h12]
          · exact hk k (by omega)
theorem W5_u8 (w : Nat → Int32) (i j : Nat) (f a b c : Int32) : va_up (W5 w i f a b c) 8 (nI j) = W5 w j f a b c := W5_ext rfl rfl rfl rfl rfl (fun k hk => by rw [va_up_ne _ _ (by omega)]; exact W5_k _ _ _ _ _ _ hk)
theorem W5_u9 (w : Nat → Int32) (i : Nat) (f a b c x : Int32) : va_up (W5 w i f a b c) 9 x = W5 w i x a b c := W5_ext rfl rfl rfl rfl rfl (fun k hk => by rw [va_up_ne _ _ (by omega)]; exact W5_k _ _ _ _ _ _ hk)
theorem W5_u10 (w : Nat → Int32) (i : Nat) (f a b c x : Int32) : va_up (W5 w i f a b c) 10 x = W5 w i f x b c := W5_ext rfl rfl rfl rfl rfl (fun k hk => by rw [va_up_ne _ _ (by omega)]; exact W5_k _ _ _ _ _ _ hk)
theorem W5_u11 (w : Nat → Int32) (i : Nat) (f a b c x : Int32) : va_up (W5 w i f a b c) 11 x = W5 w i f a x c := W5_ext rfl rfl rfl rfl rfl (fun k hk => by rw [va_up_ne _ _ (by omega)]; exact W5_k _ _ _ _ _ _ hk)
theorem W5_u12 (w : Nat → Int32) (i : Nat) (f a b c x : Int32) : va_up (W5 w i f a b c) 12 x = W5 w i f a b x := W5_ext rfl rfl rfl rfl rfl (fun k hk => by rw [va_up_ne _ _ (by omega)]; exact W5_k _ _ _ _ _ _ hk)
theorem takes_t (u : Nat → Nat → Int32) (w : Nat → Int32) (i : Nat) (a b c : Int32) {x : Int32} (hx : ¬ x = 0) : pX7_takes u (W5 w i 1 a b c) x = (u, W5 w (i + 1) 1 a b c) := by
  unfold pX7_takes
  rw [if_neg (W5_9n w i a b c), if_neg hx, W5_u9, W5_8, nI_1, W5_u8]
theorem takes_1 (u : Nat → Nat → Int32) (w : Nat → Int32) (i : Nat) (a b c : Int32) : pX7_takes u (W5 w i 1 a b c) 1 = (u, W5 w (i + 1) 1 a b c) := takes_t u w i a b c (by decide)
theorem takes_0 (u : Nat → Nat → Int32) (w : Nat → Int32) (i : Nat) (a b c : Int32) : pX7_takes u (W5 w i 1 a b c) 0 = (u, W5 w i 0 a b c) := by
  unfold pX7_takes
  rw [if_neg (W5_9n w i a b c), if_pos rfl, W5_u9, W5_8, Int32.add_zero, W5_u8]
theorem takes_f (u : Nat → Nat → Int32) (w : Nat → Int32) (i : Nat) (a b c : Int32) (x : Int32) : pX7_takes u (W5 w i 0 a b c) x = (u, W5 w i 0 a b c) := by
  unfold pX7_takes
  rw [if_pos (W5_9 w i 0 a b c), W5_u9, W5_8, Int32.add_zero, W5_u8]
theorem here_W5 (u : Nat → Nat → Int32) {w : Nat → Int32} {n : Nat} (h7 : w 7 = nI n) (hn : n ≤ 60) {i : Nat} (hi : i ≤ 2000) (f a b c : Int32) : pX7_here u (W5 w i f a b c) = tx (u 4) n 0 i := by
  unfold pX7_here tx
  rw [W5_8, W5_k w i f a b c (k := 7) (by omega), h7]
  by_cases h : i < n
  · rw [if_pos h, if_neg (nI_ge h (by omega)), nI_clamp (by omega)]
  · rw [if_neg h, if_pos (nI_le (by omega) (by omega))]
theorem sNum_pos (T : Nat → Int32) (b : Int32) (i : Nat) : i ≤ (sNum T b i).2.2 ∧ (sNum T b i).2.2 ≤ i + 2 := by
  unfold sNum
  (repeat' split) <;> exact ⟨by simp only; omega, by simp only; omega⟩
theorem number_W5 (u : Nat → Nat → Int32) {w : Nat → Int32} {n : Nat} (h7 : w 7 = nI n) (hn : n ≤ 60) {i : Nat} (hi : i ≤ 1000) (a b c x : Int32) : pX7_takesNumber u (W5 w i 1 a b c) x = (if (sNum (tx (u 4) n 0) x i).1 = true then ((sNum (tx (u 4) n 0) x i).2.1, u, W5 w (sNum (tx (u 4) n 0) x i).2.2 1 a b c) else (tx (u 4) n 0 i - (48 : Int32), u, W5 w i 0 a b c)) := by
  unfold pX7_takesNumber
  rw [here_W5 u h7 hn (by omega)]
  by_cases c1 : pX7_in (tx (u 4) n 0 i - (48 : Int32)) 0 9 = 0
  · have e : sNum (tx (u 4) n 0) x i = (false, 0, i) := by unfold sNum; rw [if_pos (Or.inl c1)]
    rw [if_pos c1, takes_0, e]
    dsimp only
    rw [if_pos (W5_9 w i 0 a b c)]
    rfl
  · rw [if_neg c1]
    by_cases c2 : pX7_isNumber x (tx (u 4) n 0 i - (48 : Int32)) = 0
    · have e : sNum (tx (u 4) n 0) x i = (false, 0, i) := by unfold sNum; rw [if_pos (Or.inr c2)]
      rw [if_pos c2, takes_0, e]
      dsimp only
      rw [if_pos (W5_9 w i 0 a b c)]
      rfl
    · rw [if_neg c2, takes_1]
      dsimp only
      rw [if_neg (W5_9n w (i + 1) a b c), here_W5 u h7 hn (by omega)]
      have e0 : ¬ (pX7_in (tx (u 4) n 0 i - (48 : Int32)) 0 9 = 0 ∨ pX7_isNumber x (tx (u 4) n 0 i - (48 : Int32)) = 0) := fun z => z.elim c1 c2
      by_cases c3 : tx (u 4) n 0 i - (48 : Int32) ≤ 0
      · have e : sNum (tx (u 4) n 0) x i = (true, tx (u 4) n 0 i - (48 : Int32), i + 1) := by unfold sNum; rw [if_neg e0, if_pos (Or.inl c3)]
        rw [if_pos c3, e]
        rfl
      · rw [if_neg c3]
        by_cases c4 : pX7_in (tx (u 4) n 0 (i + 1)) 48 57 = 0
        · have e : sNum (tx (u 4) n 0) x i = (true, tx (u 4) n 0 i - (48 : Int32), i + 1) := by unfold sNum; rw [if_neg e0, if_pos (Or.inr (Or.inl c4))]
          rw [if_pos c4, e]
          rfl
        · rw [if_neg c4]
          by_cases c5 : pX7_isNumber x ((((10 : Int32) * (tx (u 4) n 0 i - (48 : Int32))) + tx (u 4) n 0 (i + 1)) - (48 : Int32)) = 0
          · have e : sNum (tx (u 4) n 0) x i = (true, tx (u 4) n 0 i - (48 : Int32), i + 1) := by unfold sNum; rw [if_neg e0, if_pos (Or.inr (Or.inr c5))]
            rw [if_pos c5, e]
            rfl
          · have e : sNum (tx (u 4) n 0) x i = (true, (((10 : Int32) * (tx (u 4) n 0 i - (48 : Int32))) + tx (u 4) n 0 (i + 1)) - (48 : Int32), i + 2) := by unfold sNum; rw [if_neg e0, if_neg (fun z => z.elim c3 (fun z => z.elim c4 c5))]
            rw [if_neg c5, W5_8, nI_1, W5_u8, e]
            rfl
theorem number_f (u : Nat → Nat → Int32) {w : Nat → Int32} {n : Nat} (h7 : w 7 = nI n) (hn : n ≤ 60) {i : Nat} (hi : i ≤ 1000) (a b c x : Int32) : pX7_takesNumber u (W5 w i 0 a b c) x = (tx (u 4) n 0 i - (48 : Int32), u, W5 w i 0 a b c) := by
  unfold pX7_takesNumber
  rw [here_W5 u h7 hn (by omega), takes_f, takes_f]
  dsimp only
  rw [if_pos (W5_9 w i 0 a b c)]
  (repeat' split) <;> rfl
theorem if3 {α : Type} {c1 c2 c3 : Prop} [Decidable c1] [Decidable c2] [Decidable c3] {X Y : α} (h : c1 ∨ c2 ∨ c3) : (if c1 then X else if c2 then X else if c3 then X else Y) = X := by
  (repeat' split) <;> first | rfl | (exfalso; rcases h with h | h | h <;> contradiction)
theorem order_pair (u : Nat → Nat → Int32) {w : Nat → Int32} {n : Nat} (h7 : w 7 = nI n) (hn : n ≤ 60) {i : Nat} (hi : i ≤ 900) (a b c : Int32) (hc : tx (u 4) n 0 i = 104 ∨ tx (u 4) n 0 i = 116 ∨ tx (u 4) n 0 i = 119) :
    ∃ A B, pX7_takesOrder u (W5 w i 1 a b c) = (u, W5 w (sPair (tx (u 4) n 0) i).2.1 (if (sPair (tx (u 4) n 0) i).1 = true then 1 else 0) (tx (u 4) n 0 i) A B) ∧ ((sPair (tx (u 4) n 0) i).1 = true → A = (sPair (tx (u 4) n 0) i).2.2.1 ∧ B = (sPair (tx (u 4) n 0) i).2.2.2) := by
  have hh : ∀ (j : Nat) (f x y z : Int32), j ≤ 2000 → pX7_here u (W5 w j f x y z) = tx (u 4) n 0 j := fun j f x y z hj => here_W5 u h7 hn hj f x y z
  have hf : ∀ (j : Nat) (x y z k : Int32), j ≤ 1000 → pX7_takesNumber u (W5 w j 0 x y z) k = (tx (u 4) n 0 j - (48 : Int32), u, W5 w j 0 x y z) := fun j x y z k hj => number_f u h7 hn hj x y z k
  have hg : ∀ (j : Nat) (x y z k : Int32), j ≤ 1000 → pX7_takesNumber u (W5 w j 1 x y z) k = _ := fun j x y z k hj => number_W5 u h7 hn hj x y z k
  have e1 : ∀ (q : Int32), (q = 104 ∨ q = 116 ∨ q = 119) → ¬ q = 99 := by
    intro q z
    rcases z with rfl | rfl | rfl <;> decide
  have e99 := e1 _ hc
  generalize tx (u 4) n 0 = T at *
  refine ⟨T (i + 1) - (48 : Int32), ?_⟩
  unfold sPair
  by_cases c1 : pX7_isOwner (T (i + 1) - (48 : Int32)) = 0
  · rw [if_pos c1]
    refine ⟨T (i + 1) - (48 : Int32), ?_, fun z => absurd z Bool.false_ne_true⟩
    unfold pX7_takesOrder
    simp only [hh i _ _ _ _ (by omega), W5_u10, takes_1, hh (i + 1) _ _ _ _ (by omega), W5_u11, c1, takes_0, takes_f, hf (i + 1) _ _ _ _ (by omega), W5_u12, W5_10, if_neg e99, ite_self]
    exact (if3 hc).trans (by rw [if_neg Bool.false_ne_true])
  · rw [if_neg c1]
    by_cases c2 : T (i + 2) = 58
    · rw [if_pos c2]
      by_cases c3 : (sNum T 1 (i + 3)).1 = true
      · rw [if_pos c3]
        refine ⟨(sNum T 1 (i + 3)).2.1, ?_, fun _ => ⟨rfl, rfl⟩⟩
        unfold pX7_takesOrder
        simp only [hh i _ _ _ _ (by omega), W5_u10, takes_1, hh (i + 1) _ _ _ _ (by omega), W5_u11, takes_t u w (i + 1) _ _ _ c1, takes_f, hh (i + 1 + 1) _ _ _ _ (by omega), c2, if_true, hg (i + 1 + 1 + 1) _ _ _ _ (by omega), c3, W5_u12, W5_10, if_neg e99, ite_self]
        exact if3 hc
      · rw [if_neg c3]
        refine ⟨T (i + 3) - (48 : Int32), ?_, fun z => absurd z Bool.false_ne_true⟩
        unfold pX7_takesOrder
        simp only [hh i _ _ _ _ (by omega), W5_u10, takes_1, hh (i + 1) _ _ _ _ (by omega), W5_u11, takes_t u w (i + 1) _ _ _ c1, takes_f, hh (i + 1 + 1) _ _ _ _ (by omega), c2, if_true, hg (i + 1 + 1 + 1) _ _ _ _ (by omega), if_neg c3, W5_u12, W5_10, if_neg e99, ite_self]
        exact (if3 hc).trans (by rw [if_neg Bool.false_ne_true])
    · rw [if_neg c2]
      refine ⟨T (i + 2) - (48 : Int32), ?_, fun z => absurd z Bool.false_ne_true⟩
      unfold pX7_takesOrder
      simp only [hh i _ _ _ _ (by omega), W5_u10, takes_1, hh (i + 1) _ _ _ _ (by omega), W5_u11, takes_t u w (i + 1) _ _ _ c1, takes_0, takes_f, hh (i + 1 + 1) _ _ _ _ (by omega), if_neg c2, hf (i + 1 + 1) _ _ _ _ (by omega), W5_u12, W5_10, if_neg e99, ite_self]
      exact (if3 hc).trans (by rw [if_neg Bool.false_ne_true])
theorem order_W5 (u : Nat → Nat → Int32) {w : Nat → Int32} {n : Nat} (h7 : w 7 = nI n) (hn : n ≤ 60) {i : Nat} (hi : i ≤ 900) (a b c : Int32) :
    ∃ A B, pX7_takesOrder u (W5 w i 1 a b c) = (u, W5 w (sOrd (tx (u 4) n 0) i).2.1 (if (sOrd (tx (u 4) n 0) i).1 = true then 1 else 0) (tx (u 4) n 0 i) A B) ∧ ((sOrd (tx (u 4) n 0) i).1 = true → ¬ tx (u 4) n 0 i = 100 → A = (sOrd (tx (u 4) n 0) i).2.2.1 ∧ (¬ tx (u 4) n 0 i = 99 → B = (sOrd (tx (u 4) n 0) i).2.2.2)) := by
  by_cases hc : tx (u 4) n 0 i = 104 ∨ tx (u 4) n 0 i = 116 ∨ tx (u 4) n 0 i = 119
  · obtain ⟨A, B, e1, e2⟩ := order_pair u h7 hn hi a b c hc
    have e : sOrd (tx (u 4) n 0) i = sPair (tx (u 4) n 0) i := by unfold sOrd; rw [if_pos hc]
    rw [e]
    exact ⟨A, B, e1, fun h _ => ⟨(e2 h).1, fun _ => (e2 h).2⟩⟩
  · have hh : ∀ (j : Nat) (f x y z : Int32), j ≤ 2000 → pX7_here u (W5 w j f x y z) = tx (u 4) n 0 j := fun j f x y z hj => here_W5 u h7 hn hj f x y z
    have hf : ∀ (j : Nat) (x y z k : Int32), j ≤ 1000 → pX7_takesNumber u (W5 w j 0 x y z) k = (tx (u 4) n 0 j - (48 : Int32), u, W5 w j 0 x y z) := fun j x y z k hj => number_f u h7 hn hj x y z k
    have hg : ∀ (j : Nat) (x y z k : Int32), j ≤ 1000 → pX7_takesNumber u (W5 w j 1 x y z) k = _ := fun j x y z k hj => number_W5 u h7 hn hj x y z k
    generalize tx (u 4) n 0 = T at *
    have n1 : ¬ T i = 104 := fun z => hc (Or.inl z)
    have n2 : ¬ T i = 116 := fun z => hc (Or.inr (Or.inl z))
    have n3 : ¬ T i = 119 := fun z => hc (Or.inr (Or.inr z))
    unfold sOrd
    rw [if_neg hc]
    by_cases c1 : T i = 99
    · rw [if_pos c1]
      by_cases c3 : (sNum T 0 (i + 1)).1 = true
      · rw [if_pos c3]
        refine ⟨(sNum T 0 (i + 1)).2.1, c, ?_, fun _ _ => ⟨rfl, fun z => absurd c1 z⟩⟩
        unfold pX7_takesOrder
        simp only [hh i _ _ _ _ (by omega), if_neg n1, if_neg n2, if_neg n3, W5_u10, takes_1, W5_10, if_pos c1, hg (i + 1) _ _ _ _ (by omega), c3, if_true, W5_u11]
      · rw [if_neg c3]
        refine ⟨T (i + 1) - (48 : Int32), c, ?_, fun z => absurd z Bool.false_ne_true⟩
        unfold pX7_takesOrder
        simp only [hh i _ _ _ _ (by omega), if_neg n1, if_neg n2, if_neg n3, W5_u10, takes_1, W5_10, if_pos c1, hg (i + 1) _ _ _ _ (by omega), if_neg c3, W5_u11]
        rw [if_neg Bool.false_ne_true]
    · rw [if_neg c1]
      by_cases c2 : T i = 100
      · rw [if_pos c2]
        refine ⟨b, c, ?_, fun _ z => absurd c2 z⟩
        unfold pX7_takesOrder
        simp only [hh i _ _ _ _ (by omega), if_neg n1, if_neg n2, if_neg n3, if_neg c1, W5_u10, takes_1, W5_10, if_pos c2, if_true]
      · rw [if_neg c2]
        refine ⟨b, c, ?_, fun z => absurd z Bool.false_ne_true⟩
        unfold pX7_takesOrder
        simp only [hh i _ _ _ _ (by omega), if_neg n1, if_neg n2, if_neg n3, if_neg c1, W5_u10, takes_0, W5_10, if_neg c2]
        rw [if_neg Bool.false_ne_true]
