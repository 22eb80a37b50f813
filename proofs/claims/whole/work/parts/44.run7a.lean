/-! ===== the model's run: what its loop keeps ===== -/
def sOK (f : Nat → Int32) (n : Nat) (i : Nat) : Prop := (sTxt (tx f n 0) n 198 i).1 = true
theorem W5_start (w : Nat → Int32) : va_up (va_up w 8 0) 9 1 = W5 w 0 1 (w 10) (w 11) (w 12) := W5_ext rfl rfl rfl rfl rfl (fun k hk => by rw [va_up_ne _ _ (by omega), va_up_ne _ _ (by omega)])
theorem isText_eq (u : Nat → Nat → Int32) {w : Nat → Int32} {n : Nat} (h7 : w 7 = nI n) (hn : n ≤ 60) : ∃ A B C, pX7_isText u w = ((if (sTxt (tx (u 4) n 0) n 198 0).1 = true then 1 else 0), u, W5 w (sTxt (tx (u 4) n 0) n 198 0).2 (if (sTxt (tx (u 4) n 0) n 198 0).1 = true then 1 else 0) A B C) := by
  unfold pX7_isText
  rw [W5_start]
  exact isText_L u w h7 hn 198 0 _ _ _ (by omega) (by omega)
theorem sOK_step {f : Nat → Int32} {n i : Nat} (hi : i ≤ n) (hn : n ≤ 60) (h : sOK f n i) : (sOrd (tx f n 0) i).1 = true ∧ ((sOrd (tx f n 0) i).2.1 < n → tx f n 0 (sOrd (tx f n 0) i).2.1 = 44 ∧ sOK f n ((sOrd (tx f n 0) i).2.1 + 1)) := by
  unfold sOK at h ⊢
  rw [sTxt_s] at h
  by_cases c1 : (sOrd (tx f n 0) i).1 = true
  · have hb := sOrd_n c1
    refine ⟨c1, fun h2 => ?_⟩
    rw [if_pos c1, if_neg (by omega)] at h
    by_cases c3 : tx f n 0 (sOrd (tx f n 0) i).2.1 = 44
    · rw [if_pos c3] at h
      refine ⟨c3, ?_⟩
      rw [sTxt_fuel f n 197 ((sOrd (tx f n 0) i).2.1 + 1) 198 (by omega) (by omega) (by omega)]
      exact h
    · rw [if_neg c3] at h
      exact absurd h Bool.false_ne_true
  · rw [if_neg c1] at h
    exact absurd h Bool.false_ne_true
theorem sNum_g {T : Nat → Int32} {i : Nat} (h : (sNum T 1 i).1 = true) : vp_in (sNum T 1 i).2.1 28 := by
  have e : ∀ x, ¬ pX7_isNumber 1 x = 0 → vp_in x 28 := fun x hx => by
    unfold pX7_isNumber at hx
    rw [if_neg (by decide), ← isG_eq] at hx
    exact ig_in hx
  unfold sNum
  unfold sNum at h
  split
  · rename_i c
    rw [if_pos c] at h
    exact absurd h Bool.false_ne_true
  · rename_i c
    split
    · exact e _ (fun z => c (Or.inr z))
    · rename_i c2
      exact e _ (fun z => c2 (Or.inr (Or.inr z)))
theorem sPair_ok {T : Nat → Int32} {i : Nat} (h : (sPair T i).1 = true) : vp_in (sPair T i).2.2.1 4 ∧ vp_in (sPair T i).2.2.2 28 := by
  unfold sPair
  unfold sPair at h
  split
  · rename_i c
    rw [if_pos c] at h
    exact absurd h Bool.false_ne_true
  · rename_i c
    rw [if_neg c] at h
    split
    · rename_i c2
      rw [if_pos c2] at h
      split
      · rename_i c3
        exact ⟨io_in c, sNum_g c3⟩
      · rename_i c3
        rw [if_neg c3] at h
        exact absurd h Bool.false_ne_true
    · rename_i c2
      rw [if_neg c2] at h
      exact absurd h Bool.false_ne_true
/-- what the loop of run keeps of the text: isForm stands, and behind the spot the text is whole -/
def TXT (n : Nat) (u : Nat → Nat → Int32) (w : Nat → Int32) : Prop := w 7 = nI n ∧ n ≤ 60 ∧ w 9 = 1 ∧ ∃ i : Nat, w 8 = nI i ∧ i ≤ n + 1 ∧ (i < n → sOK (u 4) n i)
theorem TXT_0 {n : Nat} {u : Nat → Nat → Int32} {w : Nat → Int32} (h7 : w 7 = nI n) (hn : n ≤ 60) (h : ¬ (pX7_isText u w).1 = 0) : (pX7_isText u w).2.1 = u ∧ (pX7_isText u w).2.2 7 = nI n ∧ (∀ k, k < 8 ∨ 12 < k → (pX7_isText u w).2.2 k = w k) ∧ (pX7_isText u w).2.2 9 = 1 ∧ sOK (u 4) n 0 := by
  obtain ⟨A, B, C, e⟩ := isText_eq u h7 hn
  rw [e] at h ⊢
  by_cases c : (sTxt (tx (u 4) n 0) n 198 0).1 = true
  · simp only [if_pos c] at h ⊢
    exact ⟨by first | rfl | trivial, by rw [W5_k _ _ _ _ _ _ (by omega), h7], fun k hk => W5_k _ _ _ _ _ _ hk, by first | rfl | trivial, c⟩
  · simp only [if_neg c] at h
    first | exact absurd rfl h | exact absurd trivial h
theorem TXT_ord {n : Nat} {u : Nat → Nat → Int32} {w : Nat → Int32} (h : TXT n u w) (hc : ¬ w 7 ≤ w 8) : OK7 (pX7_takesOrder u w).2 ∧ (pX7_takesOrder u w).1 = u ∧ TXT n u (va_up (pX7_takesOrder u w).2 8 ((pX7_takesOrder u w).2 8 + (1 : Int32))) ∧ (∀ k, k < 8 ∨ 12 < k → (pX7_takesOrder u w).2 k = w k) ∧ w 8 < (pX7_takesOrder u w).2 8 := by
  obtain ⟨h7, hn, h9, i, h8, hi, hk⟩ := h
  have hin : i < n := by
    apply Decidable.byContradiction
    intro z
    exact hc (by rw [h7, h8]; exact nI_le (by omega) (by omega))
  have hs := sOK_step (by omega) hn (hk hin)
  have hb := sOrd_n hs.1
  have ew := W5_id h8
  rw [h9] at ew
  obtain ⟨A, B, e, ef⟩ := order_W5 u h7 hn (i := i) (by omega) (w 10) (w 11) (w 12)
  rw [← ew] at e
  rw [e]
  simp only [if_pos hs.1]
  refine ⟨?_, by first | rfl | trivial, ⟨?_, hn, by first | rfl | trivial, (sOrd (tx (u 4) n 0) i).2.1 + 1, ?_, by omega, fun h2 => (hs.2 (by omega)).2⟩, fun k hk => W5_k _ _ _ _ _ _ hk, ?_⟩
  · intro hq
    rw [W5_10] at hq
    have e3 : ¬ tx (u 4) n 0 i = 99 ∧ ¬ tx (u 4) n 0 i = 100 := by
      rcases hq with z | z | z <;> rw [z] <;> exact ⟨by decide, by decide⟩
    have e4 := ef hs.1 e3.2
    have e5 : sOrd (tx (u 4) n 0) i = sPair (tx (u 4) n 0) i := by
      unfold sOrd
      exact if_pos hq
    rw [W5_11, W5_12, e4.1, e4.2 e3.1, e5]
    exact sPair_ok (by rw [← e5]; exact hs.1)
  · rw [va_up_ne _ _ (by omega), W5_k _ _ _ _ _ _ (by omega), h7]
  · show W5 w (sOrd (tx (u 4) n 0) i).2.1 1 (tx (u 4) n 0 i) A B 8 + (1 : Int32) = _
    rw [W5_8, nI_1]
  · rw [W5_8, h8]
    exact nI_lt (by omega) (by omega)
