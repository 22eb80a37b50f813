/-! ===== commas: how many orders stand in a text ===== -/
theorem fb_ct_ad (p : Nat → Bool) (a : Nat) : ∀ b, fb_ct p (a + b) = fb_ct p a + fb_ct (fun j => p (a + j)) b
  | 0 => rfl
  | b + 1 => by
    show fb_ct p (a + b + 1) = _
    rw [fb_ct_succ, fb_ct_succ, fb_ct_ad p a b, Nat.add_assoc]
theorem fb_ct_no {p : Nat → Bool} : ∀ {n : Nat}, (∀ j, j < n → p j = false) → fb_ct p n = 0
  | 0, _ => rfl
  | n + 1, h => by
    rw [fb_ct_succ, fb_ct_no (n := n) (fun j hj => h j (by omega)), h n (by omega)]
    rfl
def cm (T : Nat → Int32) (p : Nat) : Nat := fb_ct (fun j => decide (T j = 44)) p
def cL (L : List Int32) : Nat := cm (fun j => L.getD j 0) L.length
theorem dcg {a b : Int32} (h : a = b) : decide (a = 44) = decide (b = 44) := by rw [h]
theorem cL_app (L M : List Int32) : cL (L ++ M) = cL L + cL M := by
  unfold cL cm
  rw [List.length_append, fb_ct_ad]
  congr 1
  · apply fb_ct_cong
    intro j hj
    exact dcg (show (L ++ M).getD j 0 = L.getD j 0 by rw [List.getD_eq_getElem?_getD, List.getD_eq_getElem?_getD, List.getElem?_append_left hj])
  · apply fb_ct_cong
    intro j hj
    exact dcg (show (L ++ M).getD (L.length + j) 0 = M.getD j 0 by rw [List.getD_eq_getElem?_getD, List.getD_eq_getElem?_getD, List.getElem?_append_right (by omega), Nat.add_sub_cancel_left])
theorem cL_no {L : List Int32} (h : ∀ c, c ∈ L → ¬ c = 44) : cL L = 0 := by
  unfold cL cm
  apply fb_ct_no
  intro j hj
  apply decide_eq_false
  dsimp only
  rw [List.getD_eq_getElem?_getD, List.getElem?_eq_getElem hj, Option.getD_some]
  exact h _ (List.getElem_mem hj)
theorem cL_LL (a2 : Int32) : ∀ i, cL (LL a2 i) = i - 1
  | 0 => rfl
  | i + 1 => by
    rw [LL_s, cL_app, cL_app, cL_LL a2 i, cL_no (fun c hc => okc_n (wp_ok a2 (nI i) c hc))]
    by_cases h : i = 0
    · rw [if_pos h, h]
      rfl
    · rw [if_neg h]
      show i - 1 + (1 + 0) = _
      omega
theorem sNum_c {T : Nat → Int32} {b : Int32} {i j : Nat} (h : (sNum T b i).1 = true) (h1 : i ≤ j) (h2 : j < (sNum T b i).2.2) : ¬ T j = 44 := by
  intro e
  unfold sNum at h h2
  by_cases c : pS_in (T i - (48 : Int32)) 0 9 = 0 ∨ pS_isNumber b (T i - (48 : Int32)) = 0
  · rw [if_pos c] at h
    exact absurd h Bool.false_ne_true
  · rw [if_neg c] at h2
    by_cases q : j = i
    · subst q
      exact c (Or.inl (by rw [e]; decide))
    · by_cases c2 : T i - (48 : Int32) ≤ 0 ∨ pS_in (T (i + 1)) 48 57 = 0 ∨ pS_isNumber b ((((10 : Int32) * (T i - (48 : Int32))) + T (i + 1)) - (48 : Int32)) = 0
      · rw [if_pos c2] at h2
        dsimp only at h2
        omega
      · rw [if_neg c2] at h2
        dsimp only at h2
        obtain rfl : j = i + 1 := by omega
        exact c2 (Or.inr (Or.inl (by rw [e]; decide)))
theorem sPair_c {T : Nat → Int32} {i j : Nat} (h : (sPair T i).1 = true) (h1 : i + 1 ≤ j) (h2 : j < (sPair T i).2.1) : ¬ T j = 44 := by
  intro e
  unfold sPair at h h2
  by_cases c : pS_isOwner (T (i + 1) - (48 : Int32)) = 0
  · rw [if_pos c] at h
    exact absurd h Bool.false_ne_true
  · rw [if_neg c] at h h2
    by_cases c2 : T (i + 2) = 58
    · rw [if_pos c2] at h h2
      by_cases c3 : (sNum T 1 (i + 3)).1 = true
      · rw [if_pos c3] at h2
        dsimp only at h2
        by_cases q1 : j = i + 1
        · subst q1
          exact c (by rw [e]; decide)
        · by_cases q2 : j = i + 2
          · subst q2
            rw [e] at c2
            exact absurd c2 (by decide)
          · exact sNum_c c3 (by omega) h2 e
      · rw [if_neg c3] at h
        exact absurd h Bool.false_ne_true
    · rw [if_neg c2] at h
      exact absurd h Bool.false_ne_true
theorem sOrd_c {T : Nat → Int32} {i j : Nat} (h : (sOrd T i).1 = true) (h1 : i ≤ j) (h2 : j < (sOrd T i).2.1) : ¬ T j = 44 := by
  intro e
  unfold sOrd at h h2
  by_cases c : T i = 104 ∨ T i = 116 ∨ T i = 119
  · rw [if_pos c] at h h2
    by_cases q : j = i
    · subst q
      rw [e] at c
      exact absurd c (by decide)
    · exact sPair_c h (by omega) h2 e
  · rw [if_neg c] at h h2
    by_cases c1 : T i = 99
    · rw [if_pos c1] at h h2
      by_cases c2 : (sNum T 0 (i + 1)).1 = true
      · rw [if_pos c2] at h2
        dsimp only at h2
        by_cases q : j = i
        · subst q
          rw [e] at c1
          exact absurd c1 (by decide)
        · exact sNum_c c2 (by omega) h2 e
      · rw [if_neg c2] at h
        exact absurd h Bool.false_ne_true
    · rw [if_neg c1] at h h2
      by_cases c2 : T i = 100
      · rw [if_pos c2] at h2
        dsimp only at h2
        obtain rfl : j = i := by omega
        rw [e] at c2
        exact absurd c2 (by decide)
      · rw [if_neg c2] at h
        exact absurd h Bool.false_ne_true
theorem tx_lt {f : Nat → Int32} {n i : Nat} (h : ¬ tx f n 0 i = 0) : i < n := Decidable.byContradiction fun z => h (tx_out z)
theorem sOrd_lt {f : Nat → Int32} {n i : Nat} (hi : i ≤ n) : (sOrd (tx f n 0) i).2.1 ≤ n := by
  by_cases c : (sOrd (tx f n 0) i).1 = true
  · exact (sOrd_n c).1
  · unfold sOrd at c ⊢
    by_cases c0 : tx f n 0 i = 104 ∨ tx f n 0 i = 116 ∨ tx f n 0 i = 119
    · have h0 : i < n := tx_lt (by rcases c0 with z | z | z <;> rw [z] <;> decide)
      rw [if_pos c0] at c ⊢
      unfold sPair at c ⊢
      by_cases c1 : pS_isOwner (tx f n 0 (i + 1) - (48 : Int32)) = 0
      · rw [if_pos c1]
        exact h0
      · have h1 : i + 1 < n := tx_lt (fun z => c1 (by rw [z]; decide))
        rw [if_neg c1] at c ⊢
        by_cases c2 : tx f n 0 (i + 2) = 58
        · have h2 : i + 2 < n := tx_lt (by rw [c2]; decide)
          rw [if_pos c2] at c ⊢
          by_cases c3 : (sNum (tx f n 0) 1 (i + 3)).1 = true
          · rw [if_pos c3] at c
            exact absurd rfl c
          · rw [if_neg c3]
            exact h2
        · rw [if_neg c2]
          exact h1
    · rw [if_neg c0] at c ⊢
      by_cases c1 : tx f n 0 i = 99
      · have h0 : i < n := tx_lt (by rw [c1]; decide)
        rw [if_pos c1] at c ⊢
        by_cases c2 : (sNum (tx f n 0) 0 (i + 1)).1 = true
        · rw [if_pos c2] at c
          exact absurd rfl c
        · rw [if_neg c2]
          exact h0
      · rw [if_neg c1] at c ⊢
        by_cases c2 : tx f n 0 i = 100
        · rw [if_pos c2] at c
          exact absurd rfl c
        · rw [if_neg c2]
          exact hi
theorem sTxt_lt {f : Nat → Int32} {n : Nat} : ∀ k i : Nat, i ≤ n → (sTxt (tx f n 0) n k i).2 ≤ n
  | 0, i, h => h
  | k + 1, i, h => by
    have h1 := sOrd_lt (f := f) h
    rw [sTxt_s]
    by_cases c1 : (sOrd (tx f n 0) i).1 = true
    · rw [if_pos c1]
      by_cases c2 : n ≤ (sOrd (tx f n 0) i).2.1
      · rw [if_pos c2]
        exact h1
      · rw [if_neg c2]
        split
        · exact sTxt_lt k _ (by omega)
        · exact h1
    · rw [if_neg c1]
      exact h1
theorem sTxt_end {f : Nat → Int32} {n : Nat} : ∀ k i : Nat, (sTxt (tx f n 0) n k i).1 = true → i < n ∧ ¬ tx f n 0 (n - 1) = 44
  | 0, i, h => absurd h Bool.false_ne_true
  | k + 1, i, h => by
    rw [sTxt_s] at h
    by_cases c1 : (sOrd (tx f n 0) i).1 = true
    · have hb := sOrd_n c1
      refine ⟨by omega, ?_⟩
      rw [if_pos c1] at h
      by_cases c2 : n ≤ (sOrd (tx f n 0) i).2.1
      · exact sOrd_c c1 (by omega) (by omega)
      · rw [if_neg c2] at h
        by_cases c3 : tx f n 0 (sOrd (tx f n 0) i).2.1 = 44
        · rw [if_pos c3] at h
          exact (sTxt_end k _ h).2
        · rw [if_neg c3] at h
          exact absurd h Bool.false_ne_true
    · rw [if_neg c1] at h
      exact absurd h Bool.false_ne_true
theorem cm_order {T : Nat → Int32} {i e : Nat} (hie : i ≤ e) (h : ∀ j, i ≤ j → j < e → ¬ T j = 44) : cm T e = cm T i := by
  obtain ⟨d, rfl⟩ : ∃ d, e = i + d := ⟨e - i, by omega⟩
  unfold cm
  rw [fb_ct_ad, fb_ct_no (fun j hj => decide_eq_false (h (i + j) (by omega) (by omega))), Nat.add_zero]
theorem cm_s {T : Nat → Int32} {i : Nat} (h : T i = 44) : cm T (i + 1) = cm T i + 1 := by
  unfold cm
  rw [fb_ct_succ, decide_eq_true h, if_pos rfl]
theorem cm_le {T : Nat → Int32} {i n : Nat} (h : i ≤ n) : cm T i ≤ cm T n := fb_ct_mono _ h
