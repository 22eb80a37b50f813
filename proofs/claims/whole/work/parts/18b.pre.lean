theorem kX7_recordsK (l : Launch) (D : va_G) (cyC cyI cyO : ClassId) (A : Nat → Nat) (u : Nat → Nat → Int32) (w : Nat → Int32) (kn : Nat) (hkn : kn ≤ 4) (hk : w 3 = nI kn) : MU l yX7_records (Ty yX7_records cX7_records 2 none) ({ frames := 1, cells := 0, slots := 0, locals := 24 } : Room) D cyC cyI cyO (wM cyI A u w) [.ref (A 0)] none (wM cyI A (pX7_records u w kn).1 (pX7_records u w kn).2) := by
  have h := kX7_records l D cyC cyI cyO A u w kn hkn
  rw [va_up_id hk] at h
  exact h
theorem rec_L (u : Nat → Nat → Int32) (w : Nat → Int32) (kn n : Nat) : pX7_records_L10 u w kn n 0 = u 0 := by
  induction n with
  | zero => rfl
  | succ n ih =>
    rw [pX7_records_L10_s]
    exact ih
theorem rec_0 {c : Prop} [Decidable c] {z u : Nat → Nat → Int32} {a b : Nat → Int32} {x y : Nat → Int32} (h : z 0 = u 0) : (if c then ((va_up z 2 a), x) else ((va_up u 2 b), y)).1 0 = u 0 := by
  split
  · exact h
  · rfl
theorem rec_u0 (u : Nat → Nat → Int32) (w : Nat → Int32) (kn : Nat) : (pX7_records u w kn).1 0 = u 0 := rec_0 (rec_L u w kn 426)
theorem LN_rec {u : Nat → Nat → Int32} {w : Nat → Int32} {kn : Nat} (h : LN u) : LN (pX7_records u w kn).1 := by
  unfold LN
  rw [rec_u0]
  exact h
theorem w7_in {x a b : Int32} {N : Nat} (ha : a.toInt = 0) (hb : b.toInt < N) (h : ¬ pX7_in x a b = 0) : vp_in x N := by
  unfold pX7_in at h
  split at h
  · exact absurd rfl h
  · split at h
    · exact absurd rfl h
    · rename_i h1 h2
      have a1 := Int32.le_iff_toInt_le.mp (Int32.not_lt.mp h1)
      have a2 := Int32.le_iff_toInt_le.mp (Int32.not_lt.mp h2)
      rw [vp_in_iff]
      omega
theorem ig7_in {x : Int32} (h : ¬ pX7_isGangway x = 0) : vp_in x 28 := by
  unfold pX7_isGangway at h
  split at h
  · exact absurd rfl h
  · rename_i h1
    exact w7_in rfl (by decide) h1
theorem io7_in {x : Int32} (h : ¬ pX7_isOwner x = 0) : vp_in x 4 := w7_in rfl (by decide) h
theorem ir7_in {x : Int32} (h : ¬ pX7_isRoof x = 0) : vp_in x 16 := w7_in rfl (by decide) h
theorem vp_ne {x : Int32} (h : vp_in x 61) (hn : ¬ x = 60) : vp_in x 60 := by
  obtain ⟨j, hj, rfl⟩ := vp_in_of h (by decide)
  refine vp_in_nI ?_ (by decide)
  rcases Nat.lt_or_ge j 60 with q | q
  · exact q
  · exact absurd (show nI j = 60 by rw [show j = 60 by omega]; rfl) hn
theorem kn1 {kn : Nat} (hc : ¬ nI kn = 0) : 1 ≤ kn := by
  rcases Nat.eq_zero_or_pos kn with q | q
  · exact absurd (by rw [q]; rfl) hc
  · exact q
