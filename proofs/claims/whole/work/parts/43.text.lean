/-! ===== whole texts ===== -/
theorem tx_in {f : Nat → Int32} {n : Nat} {e : Int32} {i : Nat} (h : i < n) : tx f n e i = f i := if_pos h
theorem tx_out {f : Nat → Int32} {n : Nat} {e : Int32} {i : Nat} (h : ¬ i < n) : tx f n e i = e := if_neg h
theorem sNum_e (f : Nat → Int32) (n : Nat) (b : Int32) (i : Nat) : sNum (tx f n 32) b i = sNum (tx f n 0) b i := by
  unfold sNum
  by_cases h : i < n
  · rw [tx_in (e := 32) h, tx_in (e := 0) h]
    by_cases h1 : i + 1 < n
    · rw [tx_in (e := 32) h1, tx_in (e := 0) h1]
    · rw [tx_out (e := 32) h1, tx_out (e := 0) h1]
      by_cases c : pX7_in (f i - (48 : Int32)) 0 9 = 0 ∨ pX7_isNumber b (f i - (48 : Int32)) = 0
      · rw [if_pos c, if_pos c]
      · rw [if_neg c, if_neg c, if_pos (Or.inr (Or.inl (show pX7_in 32 48 57 = 0 by decide))), if_pos (Or.inr (Or.inl (show pX7_in 0 48 57 = 0 by decide)))]
  · rw [tx_out (e := 32) h, tx_out (e := 0) h, if_pos (Or.inl (show pX7_in ((32 : Int32) - (48 : Int32)) 0 9 = 0 by decide)), if_pos (Or.inl (show pX7_in ((0 : Int32) - (48 : Int32)) 0 9 = 0 by decide))]
theorem sNum_n {f : Nat → Int32} {n : Nat} {b : Int32} {i : Nat} (h : (sNum (tx f n 0) b i).1 = true) : (sNum (tx f n 0) b i).2.2 ≤ n ∧ i + 1 ≤ (sNum (tx f n 0) b i).2.2 := by
  have h1 : i < n := by
    apply Decidable.byContradiction
    intro z
    revert h
    unfold sNum
    rw [tx_out z, if_pos (Or.inl (by decide))]
    exact Bool.false_ne_true
  by_cases h2 : i + 1 < n
  · unfold sNum
    unfold sNum at h
    split
    · rename_i c
      rw [if_pos c] at h
      exact absurd h Bool.false_ne_true
    · split
      · dsimp only
        omega
      · dsimp only
        omega
  · unfold sNum
    unfold sNum at h
    split
    · rename_i c
      rw [if_pos c] at h
      exact absurd h Bool.false_ne_true
    · rw [if_pos (Or.inr (Or.inl (by rw [tx_out h2]; decide)))]
      dsimp only
      omega
theorem sOrd_n {f : Nat → Int32} {n : Nat} {i : Nat} (h : (sOrd (tx f n 0) i).1 = true) : (sOrd (tx f n 0) i).2.1 ≤ n ∧ i + 1 ≤ (sOrd (tx f n 0) i).2.1 := by
  have h1 : i < n := by
    apply Decidable.byContradiction
    intro z
    revert h
    unfold sOrd
    rw [tx_out z, if_neg (by decide), if_neg (by decide), if_neg (by decide)]
    exact Bool.false_ne_true
  revert h
  unfold sOrd sPair
  (repeat' split) <;> intro h <;> first
    | exact absurd h Bool.false_ne_true
    | (have h3 := sNum_n (by assumption); dsimp only at h3 ⊢; omega)
    | (dsimp only; omega)
theorem sOrd_e (f : Nat → Int32) (n : Nat) (i : Nat) : sOrd (tx f n 32) i = sOrd (tx f n 0) i := by
  unfold sOrd sPair
  rw [sNum_e, sNum_e]
  by_cases h : i < n
  · rw [tx_in (e := 32) h, tx_in (e := 0) h]
    by_cases h1 : i + 1 < n
    · rw [tx_in (e := 32) h1, tx_in (e := 0) h1]
      by_cases h2 : i + 2 < n
      · rw [tx_in (e := 32) h2, tx_in (e := 0) h2]
      · rw [tx_out (e := 32) h2, tx_out (e := 0) h2, if_neg (show ¬ (32 : Int32) = 58 by decide), if_neg (show ¬ (0 : Int32) = 58 by decide)]
    · rw [tx_out (e := 32) h1, tx_out (e := 0) h1, if_pos (show pX7_isOwner ((32 : Int32) - (48 : Int32)) = 0 by decide), if_pos (show pX7_isOwner ((0 : Int32) - (48 : Int32)) = 0 by decide)]
  · rw [tx_out (e := 32) h, tx_out (e := 0) h]
    rw [if_neg (by decide), if_neg (by decide), if_neg (by decide), if_neg (by decide), if_neg (by decide), if_neg (by decide)]
def sTxt (T : Nat → Int32) (n : Nat) : Nat → Nat → Bool × Nat
  | 0, i => (false, i)
  | k + 1, i => if (sOrd T i).1 = true then (if n ≤ (sOrd T i).2.1 then (true, (sOrd T i).2.1) else if T (sOrd T i).2.1 = 44 then sTxt T n k ((sOrd T i).2.1 + 1) else (false, (sOrd T i).2.1)) else (false, (sOrd T i).2.1)
theorem sTxt_s (T : Nat → Int32) (n k i : Nat) : sTxt T n (k + 1) i = if (sOrd T i).1 = true then (if n ≤ (sOrd T i).2.1 then (true, (sOrd T i).2.1) else if T (sOrd T i).2.1 = 44 then sTxt T n k ((sOrd T i).2.1 + 1) else (false, (sOrd T i).2.1)) else (false, (sOrd T i).2.1) := rfl
/-- enough fuel: any more gives the same -/
theorem sTxt_fuel (f : Nat → Int32) (n : Nat) : ∀ k i m : Nat, i ≤ n → n + 1 ≤ i + k → k ≤ m → sTxt (tx f n 0) n m i = sTxt (tx f n 0) n k i := by
  intro k
  induction k with
  | zero => intro i m h1 h2; omega
  | succ k ih =>
    intro i m h1 h2 h3
    obtain ⟨m, rfl⟩ : ∃ q, m = q + 1 := ⟨m - 1, by omega⟩
    rw [sTxt_s, sTxt_s]
    by_cases c1 : (sOrd (tx f n 0) i).1 = true
    · have hb := sOrd_n c1
      rw [if_pos c1, if_pos c1]
      by_cases c2 : n ≤ (sOrd (tx f n 0) i).2.1
      · rw [if_pos c2, if_pos c2]
      · rw [if_neg c2, if_neg c2]
        rw [ih ((sOrd (tx f n 0) i).2.1 + 1) m (by omega) (by omega) (by omega)]
    · rw [if_neg c1, if_neg c1]
theorem isText_L (u : Nat → Nat → Int32) (w0 : Nat → Int32) {w : Nat → Int32} {n : Nat} (h7 : w 7 = nI n) (hn : n ≤ 60) : ∀ (k i : Nat) (a b c : Int32), i ≤ n → n + 1 ≤ i + k →
    ∃ A B C, pX7_isText_L14 u w0 (k + 2) (pX7_takesOrder u (W5 w i 1 a b c)).1 (pX7_takesOrder u (W5 w i 1 a b c)).2 = ((if (sTxt (tx (u 4) n 0) n k i).1 = true then 1 else 0), u, W5 w (sTxt (tx (u 4) n 0) n k i).2 (if (sTxt (tx (u 4) n 0) n k i).1 = true then 1 else 0) A B C) := by
  intro k
  induction k with
  | zero => intro i a b c h1 h2; omega
  | succ k ih =>
    intro i a b c h1 h2
    obtain ⟨A, B, e, _⟩ := order_W5 u h7 hn (i := i) (by omega) a b c
    rw [e, sTxt_s, pX7_isText_L14_s]
    dsimp only
    by_cases c1 : (sOrd (tx (u 4) n 0) i).1 = true
    · have hb := sOrd_n c1
      simp only [if_pos c1]
      rw [if_neg (W5_9n w _ _ _ _), W5_8, W5_k w _ _ _ _ _ (k := 7) (by omega), h7]
      by_cases c2 : n ≤ (sOrd (tx (u 4) n 0) i).2.1
      · rw [if_pos (nI_le c2 (by omega))]
        simp only [if_pos c2, if_true]
        exact ⟨_, _, _, rfl⟩
      · rw [if_neg (nI_ge (by omega) (by omega)), here_W5 u h7 hn (by omega)]
        simp only [if_neg c2]
        by_cases c3 : tx (u 4) n 0 (sOrd (tx (u 4) n 0) i).2.1 = 44
        · rw [if_pos c3, takes_1]
          simp only [if_pos c3]
          rw [if_neg (W5_9n w _ _ _ _)]
          exact ih _ _ _ _ (by omega) (by omega)
        · rw [if_neg c3, takes_0]
          simp only [if_neg c3]
          rw [if_pos (W5_9 w _ 0 _ _ _), pX7_isText_L14_s, if_pos (W5_9 w _ 0 _ _ _), W5_9]
          exact ⟨_, _, _, rfl⟩
    · simp only [if_neg c1]
      rw [if_pos (W5_9 w _ 0 _ _ _), W5_9]
      exact ⟨_, _, _, rfl⟩
