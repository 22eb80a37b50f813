/-! ===== the typed text: its length, its signs, its commas ===== -/
def wp (a2 : Int32) (x : Int32) : List Int32 := dyL a2 x :: ((if dyP a2 x = 0 then [] else [dyO a2 x, 58]) ++ (if 9 < dyW a2 x then [] else if dyV a2 x < 10 then [(48 : Int32) + (dyV a2 x - dyV a2 x / (10 : Int32) * (10 : Int32))] else [(48 : Int32) + dyV a2 x / (10 : Int32), (48 : Int32) + (dyV a2 x - dyV a2 x / (10 : Int32) * (10 : Int32))]))
def LL (a2 : Int32) : Nat → List Int32
  | 0 => []
  | i + 1 => LL a2 i ++ ((if i = 0 then [] else [44]) ++ wp a2 (nI i))
theorem LL_s (a2 : Int32) (i : Nat) : LL a2 (i + 1) = LL a2 i ++ ((if i = 0 then [] else [44]) ++ wp a2 (nI i)) := rfl
def okc (c : Int32) : Prop := ∃ q : Nat, 48 ≤ q ∧ q ≤ 119 ∧ c = nI q
theorem okc_d : ∀ q : Nat, q < 120 → 48 ≤ q → ¬ pX6_isWithin (nI q) 33 126 = 0 ∧ ¬ nI q = 44 := by decide +kernel
theorem okc_w {c : Int32} (h : okc c) : ¬ pX6_isWithin c 33 126 = 0 := by
  obtain ⟨q, h1, h2, rfl⟩ := h
  exact (okc_d q (by omega) h1).1
theorem okc_n {c : Int32} (h : okc c) : ¬ c = 44 := by
  obtain ⟨q, h1, h2, rfl⟩ := h
  exact (okc_d q (by omega) h1).2
theorem okc_dg : ∀ k : Nat, k < 33 → ((48 : Int32) + nI k / (10 : Int32) = nI (48 + k / 10)) ∧ ((48 : Int32) + (nI k - nI k / (10 : Int32) * (10 : Int32)) = nI (48 + k % 10)) := by decide +kernel
theorem dv_r : ∀ k : Nat, k < 29 → (nI k + (4 : Int32) = nI (k + 4)) ∧ (nI k / (3 : Int32) * (4 : Int32) + (nI k - nI k / (3 : Int32) * (3 : Int32)) = nI (k / 3 * 4 + k % 3)) ∧ ((12 : Int32) ≤ nI k ↔ 12 ≤ k) := by decide +kernel
theorem dyV_r (a2 x : Int32) : ∃ k : Nat, k < 33 ∧ dyV a2 x = nI k := by
  obtain ⟨k, hk, e⟩ : ∃ k : Nat, k < 29 ∧ pL_low ((dyY a2 x) >>> ((4 : Int32) &&& 31)) ((if (dyW a2 x) = 9 then (if (pL_low (a2 >>> ((22 : Int32) &&& 31)) 9) = 0 then 18 else 16) else (if (pL_low (a2 >>> ((23 : Int32) &&& 31)) 9) = 0 then 29 else 24)) : Int32) = nI k := by
    split
    · split
      · obtain ⟨k, hk, e⟩ := low_r ((dyY a2 x) >>> ((4 : Int32) &&& 31)) (n := 18) (by decide) (by decide)
        exact ⟨k, by omega, e⟩
      · obtain ⟨k, hk, e⟩ := low_r ((dyY a2 x) >>> ((4 : Int32) &&& 31)) (n := 16) (by decide) (by decide)
        exact ⟨k, by omega, e⟩
    · split
      · obtain ⟨k, hk, e⟩ := low_r ((dyY a2 x) >>> ((4 : Int32) &&& 31)) (n := 29) (by decide) (by decide)
        exact ⟨k, by omega, e⟩
      · obtain ⟨k, hk, e⟩ := low_r ((dyY a2 x) >>> ((4 : Int32) &&& 31)) (n := 24) (by decide) (by decide)
        exact ⟨k, by omega, e⟩
  obtain ⟨d1, d2, d3⟩ := dv_r k hk
  unfold dyV
  rw [e]
  split
  · exact ⟨k, by omega, rfl⟩
  · split
    · exact ⟨k, by omega, rfl⟩
    · split
      · exact ⟨k + 4, by omega, d1⟩
      · rename_i c
        have : ¬ 12 ≤ k := fun z => c (d3.mpr z)
        exact ⟨k / 3 * 4 + k % 3, by omega, d2⟩
theorem dyL_ok (a2 x : Int32) : okc (dyL a2 x) := by
  unfold dyL
  (repeat' split) <;> first
    | exact ⟨99, by decide, by decide, rfl⟩
    | exact ⟨100, by decide, by decide, rfl⟩
    | exact ⟨119, by decide, by decide, rfl⟩
    | exact ⟨116, by decide, by decide, rfl⟩
    | exact ⟨104, by decide, by decide, rfl⟩
theorem dyO_ok (a2 x : Int32) : okc (dyO a2 x) := by
  obtain ⟨k, hk, e⟩ : ∃ k : Nat, k < 5 ∧ pL_low ((dyY a2 x) >>> ((2 : Int32) &&& 31)) ((if (pL_low (a2 >>> ((24 : Int32) &&& 31)) 9) = 0 then 5 else 4) : Int32) = nI k := by
    split
    · obtain ⟨k, hk, e⟩ := low_r ((dyY a2 x) >>> ((2 : Int32) &&& 31)) (n := 5) (by decide) (by decide)
      exact ⟨k, by omega, e⟩
    · obtain ⟨k, hk, e⟩ := low_r ((dyY a2 x) >>> ((2 : Int32) &&& 31)) (n := 4) (by decide) (by decide)
      exact ⟨k, by omega, e⟩
  unfold dyO
  rw [e]
  exact ⟨48 + k, by omega, by omega, show nI 48 + nI k = nI (48 + k) from nI_add 48 k⟩
theorem dg1_ok (a2 x : Int32) : okc ((48 : Int32) + (dyV a2 x - dyV a2 x / (10 : Int32) * (10 : Int32))) := by
  obtain ⟨k, hk, e⟩ := dyV_r a2 x
  rw [e]
  exact ⟨48 + k % 10, by omega, by omega, (okc_dg k hk).2⟩
theorem dg2_ok (a2 x : Int32) : okc ((48 : Int32) + dyV a2 x / (10 : Int32)) := by
  obtain ⟨k, hk, e⟩ := dyV_r a2 x
  rw [e]
  exact ⟨48 + k / 10, by omega, by omega, (okc_dg k hk).1⟩
theorem wp_ok (a2 x : Int32) : ∀ c, c ∈ wp a2 x → okc c := by
  intro c
  have h1 := dyL_ok a2 x
  have h2 := dyO_ok a2 x
  have h3 := dg1_ok a2 x
  have h4 := dg2_ok a2 x
  have h5 : okc 58 := ⟨58, by decide, by decide, rfl⟩
  unfold wp
  generalize dyL a2 x = A at h1 ⊢
  generalize dyO a2 x = B at h2 ⊢
  generalize (48 : Int32) + (dyV a2 x - dyV a2 x / (10 : Int32) * (10 : Int32)) = C at h3 ⊢
  generalize (48 : Int32) + dyV a2 x / (10 : Int32) = E at h4 ⊢
  by_cases c1 : dyP a2 x = 0 <;> by_cases c2 : 9 < dyW a2 x <;> by_cases c3 : dyV a2 x < 10 <;> simp only [c1, c2, c3, if_true, if_false, List.cons_append, List.nil_append, List.append_nil, List.mem_cons, List.not_mem_nil, or_false] <;> intro hc
  all_goals
    (repeat' (rcases hc with hc | hc)) <;> first
      | assumption
      | (subst hc; assumption)
theorem wp_len (a2 x : Int32) : 1 ≤ (wp a2 x).length ∧ (wp a2 x).length ≤ 5 := by
  unfold wp
  by_cases c1 : dyP a2 x = 0 <;> by_cases c2 : 9 < dyW a2 x <;> by_cases c3 : dyV a2 x < 10 <;> simp [c1, c2, c3]
theorem LL_len (a2 : Int32) : ∀ i, (LL a2 i).length ≤ 6 * i
  | 0 => Nat.le_refl _
  | i + 1 => by
    have h := LL_len a2 i
    have k := wp_len a2 (nI i)
    rw [LL_s, List.length_append, List.length_append]
    have : (if i = 0 then ([] : List Int32) else [44]).length ≤ 1 := by split <;> simp
    omega
section TY
variable (rt : (Nat → Int32)) (sg : (Nat → Nat → Int32)) (pw : (Nat → Int32)) (rd : (Nat → Int32)) (u : (Nat → Nat → Int32)) (w : (Nat → Int32)) (h : (Nat → (Nat → Nat → Int32) × (Nat → Int32))) (r : Nat) (v : (Nat → Int32)) (tu : (Nat → Nat → Int32)) (tw : (Nat → Int32)) (su : (Nat → Nat → Int32)) (sw : (Nat → Int32)) (g : (Nat → Nat → Int32)) (a2 : Int32)
theorem LL_eq : ∀ i, i < 100 → pL_types_L23 rt sg pw rd u w h r v tu tw su sw g a2 i = LL a2 i := by
  intro i
  induction i with
  | zero => intro _; rfl
  | succ i ih =>
    intro hi
    rw [pL_types_L23_s, ih (by omega), LL_s]
    unfold wp
    generalize dyL a2 (nI i) = A
    generalize dyO a2 (nI i) = B
    generalize LL a2 i = L
    by_cases c0 : i = 0
    · rw [if_pos (show nI i = 0 by rw [c0]; rfl), if_pos c0]
      by_cases c1 : dyP a2 (nI i) = 0 <;> by_cases c2 : 9 < dyW a2 (nI i) <;> by_cases c3 : dyV a2 (nI i) < 10 <;> simp only [c1, c2, c3, if_true, if_false, List.append_assoc, List.cons_append, List.nil_append, List.append_nil]
    · rw [if_neg (show ¬ nI i = 0 from nI_ne0 (by omega) (by omega)), if_neg c0]
      by_cases c1 : dyP a2 (nI i) = 0 <;> by_cases c2 : 9 < dyW a2 (nI i) <;> by_cases c3 : dyV a2 (nI i) < 10 <;> simp only [c1, c2, c3, if_true, if_false, List.append_assoc, List.cons_append, List.nil_append, List.append_nil]
theorem F_types {q0 : Nat} (h1 : pw 1 = nI q0) (hr : q0 < 1000) : HF_L_types rt sg pw rd u w h r v tu tw su sw g a2 := by
  have hd := (dK_eq a2).1
  have hl : ∀ i, i < dK a2 + 1 → (pL_types_L23 rt sg pw rd u w h r v tu tw su sw g a2 i).length ≤ 6 * i := fun i hi => by
    rw [LL_eq rt sg pw rd u w h r v tu tw su sw g a2 i (by omega)]
    exact LL_len a2 i
  unfold HF_L_types
  refine ⟨by rw [h1]; exact nI_nlt (b := 0) (by omega) (by omega), ?_, ?_, ?_, fun i _ => okc_w (dyL_ok a2 _), ?_, fun i _ => okc_w (dg1_ok a2 _), fun i _ => okc_w (dg2_ok a2 _), ?_, ?_, fun i _ => okc_w (dyO_ok a2 _), ?_, ?_, ?_, ?_, ?_, ?_, ?_, ?_, ?_⟩
  · have := hl (dK a2) (by omega)
    omega
  · intro i _
    (repeat' split) <;> decide
  · intro i hi
    have := hl i (by omega)
    omega
  · intro i hi
    have := hl i (by omega)
    simp only [List.length_append, List.length_singleton]
    omega
  · intro i hi
    have := hl i (by omega)
    simp only [List.length_append, List.length_singleton]
    omega
  · intro i _
    split <;> decide
  all_goals
    intro i hi
    have := hl i (by omega)
    simp only [List.length_append, List.length_singleton]
    omega
end TY
