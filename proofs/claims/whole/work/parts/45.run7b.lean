/-! ===== what the model's orders keep: lines' owners, reach, everything but s ===== -/
def K0 (u : Nat → Nat → Int32) (w : Nat → Int32) (v : Nat → Nat → Int32) (w' : Nat → Int32) : Prop := w' = w ∧ ∀ k, k ≠ 0 → v k = u k
theorem K0_rf (u : Nat → Nat → Int32) (w : Nat → Int32) : K0 u w u w := ⟨rfl, fun _ _ => rfl⟩
theorem K0_up {u v : Nat → Nat → Int32} {w w' : Nat → Int32} {f : Nat → Int32} (h : K0 u w v w') : K0 u w (va_up v 0 f) w' := ⟨h.1, fun k hk => (va_up_ne _ _ hk).trans (h.2 k hk)⟩
theorem K0_lays {u v : Nat → Nat → Int32} {w w' : Nat → Int32} {a b c : Int32} (h : K0 u w v w') : K0 u w (pX7_lays v w' a b c).1 (pX7_lays v w' a b c).2 := K0_up h
theorem K0_rm {u v : Nat → Nat → Int32} {w w' : Nat → Int32} {a : Int32} (h : K0 u w v w') : K0 u w (pX7_removes v w' a).1 (pX7_removes v w' a).2 := K0_lays (K0_lays (K0_lays h))
theorem K0_ref (u : Nat → Nat → Int32) (w : Nat → Int32) (x : Int32) : K0 u w (pX7_refuses u w x).2.1 (pX7_refuses u w x).2.2 := K0_up (K0_rf u w)
theorem K0_hang (u : Nat → Nat → Int32) (w : Nat → Int32) (a b : Int32) : K0 u w (pX7_goHang u w a b).2.1 (pX7_goHang u w a b).2.2 := by
  unfold pX7_goHang
  split
  · with_reducible exact K0_up (K0_lays (K0_rm (K0_rf u w)))
  · with_reducible exact K0_ref u w _
theorem K0_take (u : Nat → Nat → Int32) (w : Nat → Int32) (a b : Int32) : K0 u w (pX7_goTake u w a b).2.1 (pX7_goTake u w a b).2.2 := by
  unfold pX7_goTake
  split
  · with_reducible exact K0_up (K0_rm (K0_rf u w))
  · split <;> with_reducible exact K0_ref u w _
theorem K0_walk (u : Nat → Nat → Int32) (w : Nat → Int32) (a b : Int32) : K0 u w (pX7_goWalk u w a b).2.1 (pX7_goWalk u w a b).2.2 := by
  unfold pX7_goWalk
  split
  · with_reducible exact K0_up (K0_rf u w)
  · with_reducible exact K0_ref u w _
theorem K0_chim (u : Nat → Nat → Int32) (w : Nat → Int32) (a : Int32) : K0 u w (pX7_goChimney u w a).2.1 (pX7_goChimney u w a).2.2 := K0_up (K0_rf u w)
theorem K0_dayL (u : Nat → Nat → Int32) (w : Nat → Int32) (n : Nat) : K0 u w (pX7_goDay_L17 u w n).1 (pX7_goDay_L17 u w n).2 := by
  induction n with
  | zero => exact K0_up (K0_rf u w)
  | succ n ih =>
    rw [pX7_goDay_L17_s]
    (repeat' split)
    · exact ih
    · with_reducible exact K0_lays (K0_lays ih)
    · with_reducible exact K0_lays (K0_lays ih)
theorem K0_day (u : Nat → Nat → Int32) (w : Nat → Int32) : K0 u w (pX7_goDay u w).2.1 (pX7_goDay u w).2.2 := by
  have h1 := K0_dayL u w 28
  unfold pX7_goDay
  generalize pX7_goDay_L17 u w 28 = z at h1 ⊢
  split <;> with_reducible exact K0_up h1
theorem K0_does (u : Nat → Nat → Int32) (w : Nat → Int32) : K0 u w (pX7_doesOrder u w).2.1 (pX7_doesOrder u w).2.2 := by
  unfold pX7_doesOrder
  split
  · with_reducible exact K0_chim u w _
  · split
    · with_reducible exact K0_hang u w _ _
    · split
      · with_reducible exact K0_take u w _ _
      · split
        · split
          · with_reducible exact K0_rf u w
          · with_reducible exact K0_walk u w _ _
        · with_reducible exact K0_day u w
theorem LN_l1 {u : Nat → Nat → Int32} {w : Nat → Int32} {j : Nat} {x : Int32} (hj : j < 28) (hx : 0 ≤ x ∧ x ≤ 4) (h : LN u) : LN (pX7_lays u w (nI j) 1 x).1 := by
  rw [show (1 : Int32) = nI 1 from rfl, lays_nI hj (by decide)]
  intro j2 hj2
  show 0 ≤ upd (u 0) (30 + 4 * j + 1) x (30 + 4 * j2 + 1) ∧ upd (u 0) (30 + 4 * j + 1) x (30 + 4 * j2 + 1) ≤ 4
  unfold upd
  split
  · exact hx
  · exact h j2 hj2
theorem IV_l1 {r : Int32} {u : Nat → Nat → Int32} {w : Nat → Int32} {j : Nat} {x : Int32} (hj : j < 28) (hx : 0 ≤ x ∧ x ≤ 4) (h : IV r u) : IV r (pX7_lays u w (nI j) 1 x).1 := by
  refine ⟨LN_l1 hj hx h.1, ?_⟩
  rw [show (1 : Int32) = nI 1 from rfl, lays_nI hj (by decide)]
  exact (if_neg (by omega)).trans h.2
theorem IV_rm {r : Int32} {u : Nat → Nat → Int32} {w : Nat → Int32} {j : Nat} (hj : j < 28) (h : IV r u) : IV r (pX7_removes u w (nI j)).1 := IV_l3 hj (IV_l2 hj (IV_l1 hj (by decide) h))
theorem IV_u1 {r : Int32} {u : Nat → Nat → Int32} {k : Nat} {x : Int32} (hk : k < 30) (hk2 : k ≠ 2) (h : IV r u) : IV r (va_up u 0 (upd (u 0) k x)) := ⟨LN_up h.1 (fun j hj => by omega), (if_neg (Ne.symm hk2)).trans h.2⟩
theorem IV_ref {r : Int32} {u : Nat → Nat → Int32} {w : Nat → Int32} {x : Int32} (h : IV r u) : IV r (pX7_refuses u w x).2.1 := IV_u1 (k := 7) (by decide) (by decide) h
theorem IV_u4 {r : Int32} {u : Nat → Nat → Int32} {x : Int32} (h : IV r u) : IV r (va_up u 0 (upd (u 0) 4 x)) := IV_u1 (by decide) (by decide) h
theorem IV_u5 {r : Int32} {u : Nat → Nat → Int32} {x : Int32} (h : IV r u) : IV r (va_up u 0 (upd (u 0) 5 x)) := IV_u1 (by decide) (by decide) h
theorem IV_u8 {r : Int32} {u : Nat → Nat → Int32} {x : Int32} (h : IV r u) : IV r (va_up u 0 (upd (u 0) 8 x)) := IV_u1 (by decide) (by decide) h
theorem IV_chim {r : Int32} {u : Nat → Nat → Int32} {w : Nat → Int32} {x : Int32} (h : IV r u) : IV r (pX7_goChimney u w x).2.1 := IV_u8 h
theorem IV_hang {r : Int32} {u : Nat → Nat → Int32} {w : Nat → Int32} {a b : Int32} (ha : vp_in a 4) (hb : vp_in b 28) (h : IV r u) : IV r (pX7_goHang u w a b).2.1 := by
  obtain ⟨i, hi, rfl⟩ := vp_in_of ha (by decide)
  obtain ⟨j, hj, rfl⟩ := vp_in_of hb (by decide)
  unfold pX7_goHang
  split
  · with_reducible exact IV_u4 (IV_l1 hj (by rw [nI_1]; exact ⟨nI_pos' (by omega), nI_le (b := 4) (by omega) (by decide)⟩) (IV_rm hj h))
  · with_reducible exact IV_ref h
theorem IV_take {r : Int32} {u : Nat → Nat → Int32} {w : Nat → Int32} {a b : Int32} (hb : vp_in b 28) (h : IV r u) : IV r (pX7_goTake u w a b).2.1 := by
  obtain ⟨j, hj, rfl⟩ := vp_in_of hb (by decide)
  unfold pX7_goTake
  split
  · with_reducible exact IV_u5 (IV_rm hj h)
  · split <;> with_reducible exact IV_ref h
theorem IV_walk {r : Int32} {u : Nat → Nat → Int32} {w : Nat → Int32} {a b : Int32} (ha : vp_in a 4) (h : IV r u) : IV r (pX7_goWalk u w a b).2.1 := by
  obtain ⟨i, hi, rfl⟩ := vp_in_of ha (by decide)
  unfold pX7_goWalk
  split
  · rw [show (3 : Int32) = nI 3 from rfl, show (4 : Int32) = nI 4 from rfl, ix_ow, ix_ow, nI_clamp (by omega), nI_clamp (by omega)]
    have e : ∀ (f g : Nat → Int32), va_up u 0 g = va_up (va_up u 0 f) 0 g := fun f g => by
      funext k
      by_cases hk : k = 0
      · subst hk
        rfl
      · rw [va_up_ne _ _ hk, va_up_ne _ _ hk, va_up_ne _ _ hk]
    have h1 : IV r (va_up u 0 (upd (u 0) (10 + 5 * i + 3) (pX7_otherOf b (pX7_ofOwner u w (nI i) (nI 3))))) := IV_u1 (by omega) (by omega) h
    rw [e]
    exact IV_u1 (u := va_up u 0 (upd (u 0) (10 + 5 * i + 3) (pX7_otherOf b (pX7_ofOwner u w (nI i) (nI 3))))) (k := 10 + 5 * i + 4) (by omega) (by omega) h1
  · with_reducible exact IV_ref h
theorem IV_does {u : Nat → Nat → Int32} {w : Nat → Int32} (ho : OK7 w) (h : LN u) : IV (u 0 2) (pX7_doesOrder u w).2.1 := by
  have hi : IV (u 0 2) u := ⟨h, rfl⟩
  have ho : (w 10 = 104 ∨ w 10 = 116 ∨ w 10 = 119) → vp_in (w 11) 4 ∧ vp_in (w 12) 28 := ho
  unfold pX7_doesOrder
  split
  · with_reducible exact IV_chim hi
  · split
    · rename_i c
      with_reducible exact IV_hang (ho (Or.inl c)).1 (ho (Or.inl c)).2 hi
    · split
      · rename_i c
        with_reducible exact IV_take (ho (Or.inr (Or.inl c))).2 hi
      · split
        · rename_i c
          split
          · with_reducible exact hi
          · with_reducible exact IV_walk (ho (Or.inr (Or.inr c))).1 hi
        · with_reducible exact gd_iv u w h
