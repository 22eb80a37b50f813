/-! ===== what writes: the relation is kept ===== -/
theorem RG_c {N N' : Nat} {u u' : Nat → Nat → Int32} {s s' : Nat → Int32} {k : Nat} (h : RG N u s k) (hN : N ≤ N') (h0 : u' 0 k = u 0 k) (h1 : u' 1 k = u 1 k) (h2 : u' 2 k = u 2 k) (h3 : u' 3 k = u 3 k) (hs : ∀ j, j < 4 → s' (30 + 4 * k + j) = s (30 + 4 * k + j)) : RG N' u' s' k := by
  obtain ⟨b, l, a, c, e0, f0, b9, e1, f1, l4, e2, g⟩ := h
  have s0 : s' (30 + 4 * k) = s (30 + 4 * k) := hs 0 (by decide)
  have s1 := hs 1 (by decide)
  have s2 := hs 2 (by decide)
  have s3 := hs 3 (by decide)
  refine ⟨b, l, a, c, by rw [h0, e0], by rw [s0, f0], b9, by rw [h1, e1], by rw [s1, f1], l4, fun z => ?_, g⟩
  obtain ⟨x1, x2, x3, x4, x5, x6⟩ := e2 z
  exact ⟨by rw [h2, x1], by rw [s2, x2], by omega, by rw [h3, x4], by rw [s3, x5], by omega⟩
theorem RW_c {u u' : Nat → Nat → Int32} {w w' s s' : Nat → Int32} {o : Nat} (h : RW u w s o) (hu : ∀ j, 4 ≤ j → u' j o = u j o) (h8 : pX6_isIn (w' 8) (nI o) = pX6_isIn (w 8) (nI o)) (hs : ∀ j, j < 5 → s' (10 + 5 * o + j) = s (10 + 5 * o + j)) : RW u' w' s' o := by
  obtain ⟨e4, e5, e7, ⟨p, hp, e6, f6⟩, e8⟩ := h
  have s0 : s' (10 + 5 * o) = s (10 + 5 * o) := hs 0 (by decide)
  have s1 := hs 1 (by decide)
  have s2 := hs 2 (by decide)
  have s3 := hs 3 (by decide)
  have s4 := hs 4 (by decide)
  exact ⟨by rw [hu 4 (by decide), e4, s0], by rw [hu 5 (by decide), e5, s1], by rw [hu 7 (by decide), e7, s4], ⟨p, hp, by rw [hu 6 (by decide), e6], by rw [s3, f6]⟩, by rw [s2, e8, h8]⟩
theorem RS_c {w w' s s' : Nat → Int32} (h : RS w s) (hw : ∀ j, 8 ≤ j → w' j = w j) (hs : ∀ j, j < 10 → s' j = s j) : RS w' s' := by
  unfold RS at h ⊢
  rw [hw 8 (by decide), hw 9 (by decide), hw 10 (by decide), hw 11 (by decide), hw 12 (by decide), hw 13 (by decide), hw 14 (by decide), hw 15 (by decide), hw 16 (by decide), hw 17 (by decide), hw 18 (by decide), hs 0 (by decide), hs 1 (by decide), hs 2 (by decide), hs 3 (by decide), hs 4 (by decide), hs 5 (by decide), hs 6 (by decide), hs 7 (by decide), hs 8 (by decide), hs 9 (by decide)]
  exact h
theorem RC_cg {N N' : Nat} {u : Nat → Nat → Int32} {w s s' : Nat → Int32} (h : RC N u w s) (hN : N ≤ N') (hs : ∀ j, j < 142 → s' j = s j) : RC N' u w s' :=
  ⟨fun k hk => RG_c (h.1 k hk) hN rfl rfl rfl rfl (fun j hj => hs _ (by omega)), fun o ho => RW_c (h.2.1 o ho) (fun _ _ => rfl) rfl (fun j hj => hs _ (by omega)), RS_c h.2.2 (fun _ _ => rfl) (fun j hj => hs j (by omega))⟩
theorem RC_g {N N' : Nat} {u u' : Nat → Nat → Int32} {w s s' : Nat → Int32} {k : Nat} (h : RC N u w s) (hN : N ≤ N') (hu : ∀ j, j < 4 → ∀ i, i ≠ k → u' j i = u j i) (hu2 : ∀ j, 4 ≤ j → u' j = u j) (hs : ∀ j, (j < 30 + 4 * k ∨ 30 + 4 * k + 4 ≤ j) → s' j = s j) (hg : RG N' u' s' k) : RC N' u' w s' := by
  refine ⟨fun i hi => ?_, fun o ho => RW_c (h.2.1 o ho) (fun j hj => by rw [hu2 j hj]) rfl (fun j hj => hs _ (by omega)), RS_c h.2.2 (fun _ _ => rfl) (fun j hj => hs j (by omega))⟩
  by_cases e : i = k
  · subst e
    exact hg
  · exact RG_c (h.1 i hi) hN (hu 0 (by decide) i e) (hu 1 (by decide) i e) (hu 2 (by decide) i e) (hu 3 (by decide) i e) (fun j hj => hs _ (by omega))
theorem RC_o {N : Nat} {u u' : Nat → Nat → Int32} {w w' s s' : Nat → Int32} {o : Nat} (h : RC N u w s) (ho4 : o < 4) (hu : ∀ j, j < 4 → u' j = u j) (hu2 : ∀ j, 4 ≤ j → ∀ i, i ≠ o → u' j i = u j i) (h8 : ∀ i, i < 4 → i ≠ o → pX6_isIn (w' 8) (nI i) = pX6_isIn (w 8) (nI i)) (hs : ∀ j, (j < 10 + 5 * o ∨ 15 + 5 * o ≤ j) → s' j = s j) (hg : RW u' w' s' o) (hr : RS w' s') : RC N u' w' s' := by
  refine ⟨fun k hk => RG_c (h.1 k hk) (Nat.le_refl _) (by rw [hu 0 (by decide)]) (by rw [hu 1 (by decide)]) (by rw [hu 2 (by decide)]) (by rw [hu 3 (by decide)]) (fun j hj => hs _ (by omega)), fun i hi => ?_, hr⟩
  by_cases e : i = o
  · subst e
    exact hg
  · exact RW_c (h.2.1 i hi) (fun j hj => hu2 j hj i e) (h8 i hi e) (fun j hj => hs _ (by omega))
theorem RC_sc {N : Nat} {u : Nat → Nat → Int32} {w w' s s' : Nat → Int32} (h : RC N u w s) (h8 : w' 8 = w 8) (hs : ∀ j, 10 ≤ j → s' j = s j) (hr : RS w' s') : RC N u w' s' :=
  ⟨fun k hk => RG_c (h.1 k hk) (Nat.le_refl _) rfl rfl rfl rfl (fun j hj => hs _ (by omega)), fun o ho => RW_c (h.2.1 o ho) (fun _ _ => rfl) (by rw [h8]) (fun j hj => hs _ (by omega)), hr⟩
section RWR
variable {N : Nat} {u : Nat → Nat → Int32} {w : Nat → Int32} {s : Nat → Int32} {m : Nat → Nat → Int32} {v : Nat → Int32} {k o : Nat}
theorem RC_15 (h : RC N u w s) : RC N u (va_up w 15 (w 15 + (1 : Int32))) (upd s 4 (s 4 + (1 : Int32))) := by
  refine RC_sc h rfl (fun j hj => pk_un (by omega)) ?_
  obtain ⟨h9, h10, a, b, c, d, h13, h14, h15, h16, h17, h18, t⟩ := h.2.2
  exact ⟨h9, h10, a, b, c, d, h13, h14, (by show w 15 + (1 : Int32) = s 4 + (1 : Int32); rw [h15]), h16, h17, h18, t⟩
theorem RC_16 (h : RC N u w s) : RC N u (va_up w 16 (w 16 + (1 : Int32))) (upd s 5 (s 5 + (1 : Int32))) := by
  refine RC_sc h rfl (fun j hj => pk_un (by omega)) ?_
  obtain ⟨h9, h10, a, b, c, d, h13, h14, h15, h16, h17, h18, t⟩ := h.2.2
  exact ⟨h9, h10, a, b, c, d, h13, h14, h15, (by show w 16 + (1 : Int32) = s 5 + (1 : Int32); rw [h16]), h17, h18, t⟩
theorem RC_17 (h : RC N u w s) : RC N u (va_up w 17 (w 17 + (1 : Int32))) (upd s 6 (s 6 + (1 : Int32))) := by
  refine RC_sc h rfl (fun j hj => pk_un (by omega)) ?_
  obtain ⟨h9, h10, a, b, c, d, h13, h14, h15, h16, h17, h18, t⟩ := h.2.2
  exact ⟨h9, h10, a, b, c, d, h13, h14, h15, h16, (by show w 17 + (1 : Int32) = s 6 + (1 : Int32); rw [h17]), h18, t⟩
theorem RC_18 (h : RC N u w s) : RC N u (va_up w 18 (w 18 + (1 : Int32))) (upd s 7 (s 7 + (1 : Int32))) := by
  refine RC_sc h rfl (fun j hj => pk_un (by omega)) ?_
  obtain ⟨h9, h10, a, b, c, d, h13, h14, h15, h16, h17, h18, t⟩ := h.2.2
  exact ⟨h9, h10, a, b, c, d, h13, h14, h15, h16, h17, (by show w 18 + (1 : Int32) = s 7 + (1 : Int32); rw [h18]), t⟩
/-! the model's writes in normal form -/
def sRem (s : Nat → Int32) (k : Nat) : Nat → Int32 := upd (upd (upd s (30 + 4 * k + 1) 0) (30 + 4 * k + 2) 0) (30 + 4 * k + 3) 0
theorem sRem_o {j : Nat} (h : j ≠ 30 + 4 * k + 1 ∧ j ≠ 30 + 4 * k + 2 ∧ j ≠ 30 + 4 * k + 3) : sRem s k j = s j := by
  unfold sRem
  rw [pk_un h.2.2, pk_un h.2.1, pk_un h.1]
theorem m7_removes (hk : k < 28) : pX7_removes m v (nI k) = (va_up m 0 (sRem (m 0) k), v) := by
  have l1 : pX7_lays m v (nI k) 1 0 = (va_up m 0 (upd (m 0) (30 + 4 * k + 1) 0), v) := lays_nI (k := 1) hk (by decide)
  have l2 : pX7_lays (va_up m 0 (upd (m 0) (30 + 4 * k + 1) 0)) v (nI k) 2 0 = (va_up (va_up m 0 (upd (m 0) (30 + 4 * k + 1) 0)) 0 (upd (upd (m 0) (30 + 4 * k + 1) 0) (30 + 4 * k + 2) 0), v) := lays_nI (k := 2) hk (by decide)
  have l3 : pX7_lays (va_up m 0 (upd (upd (m 0) (30 + 4 * k + 1) 0) (30 + 4 * k + 2) 0)) v (nI k) 3 0 = (va_up (va_up m 0 (upd (upd (m 0) (30 + 4 * k + 1) 0) (30 + 4 * k + 2) 0)) 0 (sRem (m 0) k), v) := lays_nI (k := 3) hk (by decide)
  unfold pX7_removes
  rw [l1]
  dsimp only
  rw [l2]
  dsimp only
  rw [bx_uu, l3, bx_uu]
theorem rth_le (a b : Int32) : pX7_reasonToHang m v a b ≤ 0 ↔ pX7_reasonToHang m v a b = 0 := by
  unfold pX7_reasonToHang
  (repeat' split) <;> decide
theorem rtw_le (a b c : Int32) : pX7_reasonToWalk m v a b c ≤ 0 ↔ pX7_reasonToWalk m v a b c = 0 := by
  unfold pX7_reasonToWalk
  (repeat' split) <;> decide
theorem m7_refuse (x : Int32) : pX7_refuses m v x = (x, va_up m 0 (upd (m 0) 7 (m 0 7 + (1 : Int32))), v) := rfl
def sHang (s : Nat → Int32) (k o : Nat) : Nat → Int32 := upd (sRem s k) (30 + 4 * k + 1) (nI (o + 1))
theorem m7_hang (hk : k < 28) (hr : pX7_reasonToHang m v (nI o) (nI k) = 0) : pX7_goHang m v (nI o) (nI k) = ((10 : Int32) + pX7_linesNow (va_up m 0 (upd (sHang (m 0) k o) 4 (sHang (m 0) k o 4 + (1 : Int32)))) v, va_up m 0 (upd (sHang (m 0) k o) 4 (sHang (m 0) k o 4 + (1 : Int32))), v) := by
  have l : pX7_lays (va_up m 0 (sRem (m 0) k)) v (nI k) 1 (nI o + (1 : Int32)) = (va_up (va_up m 0 (sRem (m 0) k)) 0 (sHang (m 0) k o), v) := by
    rw [nI_1]
    exact lays_nI (k := 1) hk (by decide)
  unfold pX7_goHang
  rw [if_pos ((rth_le _ _).mpr hr), m7_removes hk]
  dsimp only
  rw [l]
  dsimp only
  rw [bx_uu, bx_uu] <;> rfl
theorem m7_hang0 (hr : ¬ pX7_reasonToHang m v (nI o) (nI k) = 0) : pX7_goHang m v (nI o) (nI k) = (pX7_reasonToHang m v (nI o) (nI k), va_up m 0 (upd (m 0) 7 (m 0 7 + (1 : Int32))), v) := by
  unfold pX7_goHang
  rw [if_neg (fun z => hr ((rth_le _ _).mp z))]
  rfl
theorem RG_hang (h : RC N u w s) (ho : o < 4) (hk : k < 28) (hg : ¬ pX7_isGangway (nI k) = 0) : RC N (va_up (va_up (va_up u 1 (upd (u 1) k (nI o))) 2 (upd (u 2) k 0)) 3 (upd (u 3) k 0)) w (sHang s k o) := by
  refine RC_g (k := k) h (Nat.le_refl _) (fun j hj i hi => ?_) (fun j hj => ?_) (fun j hj => ?_) ?_
  · rcases (show j = 0 ∨ j = 1 ∨ j = 2 ∨ j = 3 by omega) with rfl | rfl | rfl | rfl
    · rfl
    · exact pk_un hi
    · exact pk_un hi
    · exact pk_un hi
  · rw [va_up_ne _ _ (by omega), va_up_ne _ _ (by omega), va_up_ne _ _ (by omega)]
  · unfold sHang
    rw [pk_un (by omega), sRem_o (by omega)]
  · obtain ⟨b, l, a, c, e0, f0, b9, -⟩ := h.1 k hk
    refine ⟨b, o + 1, 0, 0, e0, ?_, b9, ?_, ?_, by omega, fun _ => ⟨?_, ?_, Nat.zero_le _, ?_, ?_, Nat.zero_le _⟩, fun z => absurd z hg⟩
    · unfold sHang
      rw [pk_un (by omega), sRem_o (by omega)]
      exact f0
    · exact pk_us.trans (nI_pred o).symm
    · exact pk_us
    · exact pk_us
    · unfold sHang sRem
      rw [pk_un (by omega), pk_un (by omega), pk_us]
      rfl
    · exact pk_us
    · unfold sHang sRem
      rw [pk_un (by omega), pk_us]
      rfl
theorem ten_ne {n : Nat} (h : n < 1000000000) : ¬ (10 : Int32) + nI n = 0 := by
  rw [show (10 : Int32) = nI 10 from rfl, nI_add]
  exact nI_ne0 (by omega) (by omega)
theorem ten_ge {n : Nat} (h : n < 1000000000) : ¬ (10 : Int32) + nI n < 10 := by
  rw [show (10 : Int32) = nI 10 from rfl, nI_add]
  exact nI_nlt (by omega) (by omega)
theorem w_hang (h : RC N u w (m 0)) (ho : o < 4) (hk : k < 28) : (pX0_hangLine u w (nI o) (nI k)).1 = (pX7_goHang m v (nI o) (nI k)).1 ∧ RC N (pX0_hangLine u w (nI o) (nI k)).2.1 (pX0_hangLine u w (nI o) (nI k)).2.2 ((pX7_goHang m v (nI o) (nI k)).2.1 0) ∧ ¬ (pX7_goHang m v (nI o) (nI k)).1 = 0 := by
  have e := e_hang (v := v) h ho hk
  by_cases hr : pX7_reasonToHang m v (nI o) (nI k) = 0
  · have hg : ¬ pX7_isGangway (nI k) = 0 := fun z => by
      rw [← e] at hr
      unfold pX0_reasonNotToHang at hr
      rw [if_pos ((r6_there h hk).mpr (r_notG h hk z).1)] at hr
      exact absurd hr (by decide)
    have r1 := RC_15 (RG_hang h ho hk hg)
    have e6 : pX0_hangLine u w (nI o) (nI k) = ((10 : Int32) + pJ6_bitCount_0f7a4 (pX0_allLines (va_up (va_up (va_up u 1 (upd (u 1) k (nI o))) 2 (upd (u 2) k 0)) 3 (upd (u 3) k 0)) (va_up w 15 (w 15 + (1 : Int32)))), va_up (va_up (va_up u 1 (upd (u 1) k (nI o))) 2 (upd (u 2) k 0)) 3 (upd (u 3) k 0), va_up w 15 (w 15 + (1 : Int32))) := by
      unfold pX0_hangLine
      rw [e, if_pos hr, nI_clamp (show k < 2 ^ 31 by omega)]
    have r2 : RC N (va_up (va_up (va_up u 1 (upd (u 1) k (nI o))) 2 (upd (u 2) k 0)) 3 (upd (u 3) k 0)) (va_up w 15 (w 15 + (1 : Int32))) ((va_up m 0 (upd (sHang (m 0) k o) 4 (sHang (m 0) k o 4 + (1 : Int32)))) 0) := r1
    rw [e6, m7_hang hk hr]
    refine ⟨?_, r1, ?_⟩
    · exact congrArg (fun z => (10 : Int32) + z) (e_lines r2)
    · show ¬ (10 : Int32) + pX7_linesNow _ v = 0
      rw [c7_lines r2]
      exact ten_ne (by have := fb_ct_le (lnB ((va_up m 0 (upd (sHang (m 0) k o) 4 (sHang (m 0) k o 4 + (1 : Int32)))) 0)) 28; omega)
  · have e6 : pX0_hangLine u w (nI o) (nI k) = (pX7_reasonToHang m v (nI o) (nI k), u, va_up w 18 (w 18 + (1 : Int32))) := by
      unfold pX0_hangLine
      rw [e, if_neg hr]
    rw [e6, m7_hang0 hr]
    exact ⟨rfl, RC_18 h, hr⟩
/-! to take a line down -/
theorem RG_take (h : RC N u w s) (hk : k < 28) : RC N (va_up u 1 (upd (u 1) k (-1 : Int32))) w (sRem s k) := by
  refine RC_g (k := k) h (Nat.le_refl _) (fun j hj i hi => ?_) (fun j hj => ?_) (fun j hj => sRem_o (by omega)) ?_
  · rcases (show j = 0 ∨ j = 1 ∨ j = 2 ∨ j = 3 by omega) with rfl | rfl | rfl | rfl
    · rfl
    · exact pk_un hi
    · rfl
    · rfl
  · rw [va_up_ne _ _ (by omega)]
  · obtain ⟨b, l, a, c, e0, f0, b9, e1, f1, l4, e2, g⟩ := h.1 k hk
    refine ⟨b, 0, 0, 0, e0, ?_, b9, ?_, ?_, by omega, fun z => absurd rfl z, fun z => ⟨(g z).1, rfl⟩⟩
    · rw [sRem_o (by omega)]
      exact f0
    · exact pk_us.trans (by decide)
    · unfold sRem
      rw [pk_un (by omega), pk_un (by omega), pk_us]
      rfl
theorem w_take (h : RC N u w (m 0)) (hN : N < 100000000) (ho : o < 4) (hk : k < 28) : (pX0_takeLine u w (nI o) (nI k)).1 = (pX7_goTake m v (nI o) (nI k)).1 ∧ RC N (pX0_takeLine u w (nI o) (nI k)).2.1 (pX0_takeLine u w (nI o) (nI k)).2.2 ((pX7_goTake m v (nI o) (nI k)).2.1 0) ∧ ¬ (pX7_goTake m v (nI o) (nI k)).1 = 0 := by
  unfold pX0_takeLine pX7_goTake
  rw [nI_clamp (show k < 2 ^ 31 by omega)]
  by_cases q : owB (m 0) o k = true
  · have ln := ow_ln q ho
    obtain ⟨s2, s3, a, c, ha, hc, f2, f3⟩ := r_soil h hk ln
    rw [if_neg (fun z => by rw [(r6_line h hk).mp z] at ln; exact absurd ln (by decide)), if_pos ((r6_owner h hk ho).mpr q), if_pos ((r7_owner hk).mpr q), m7_removes hk, of_2 m v hk, of_3 m v hk, s2, s3]
    refine ⟨rfl, ?_, ?_⟩
    · have r1 := RC_16 (RG_take h hk)
      exact r1
    · dsimp only
      rw [f2, f3, show ((10 : Int32) + nI a) + nI c = (10 : Int32) + nI (a + c) by rw [Int32.add_assoc, nI_add]]
      exact ten_ne (by omega)
  · rw [if_neg (fun z => q ((r7_owner hk).mp z))]
    by_cases ln : lnB (m 0) k = false
    · rw [if_pos ((r6_line h hk).mpr ln), if_pos ((r7_line h hk).mpr ln)]
      exact ⟨rfl, RC_18 h, show ¬ (6 : Int32) = 0 by decide⟩
    · rw [if_neg (fun z => ln ((r6_line h hk).mp z)), if_neg (fun z => ln ((r7_line h hk).mp z)), if_neg (fun z => q ((r6_owner h hk ho).mp z))]
      exact ⟨rfl, RC_18 h, show ¬ (7 : Int32) = 0 by decide⟩
/-! to walk -/
theorem N_oth16 : ∀ i, i < 28 → ¬ pX7_isGangway (nI i) = 0 → ∀ r, r < 16 → pX7_otherOf (nI i) (nI r) = nI (pX7_otherOf (nI i) (nI r)).toNatClampNeg ∧ (pX7_otherOf (nI i) (nI r)).toNatClampNeg < 16 := by decide +kernel
theorem w_walk (h : RC N u w (m 0)) (ho : o < 4) (hk : k < 28) : (pX0_walkOver u w (nI o) (nI k)).1 = (pX7_goWalk m v (nI o) (nI k)).1 ∧ RC N (pX0_walkOver u w (nI o) (nI k)).2.1 (pX0_walkOver u w (nI o) (nI k)).2.2 ((pX7_goWalk m v (nI o) (nI k)).2.1 0) ∧ ¬ (pX7_goWalk m v (nI o) (nI k)).1 = 0 := by
  obtain ⟨e4, e5, e7, ⟨p, hp, e6, f6⟩, e8⟩ := h.2.1 o ho
  have f3 : pX7_ofOwner m v (nI o) 3 = nI p := (ow_k (j := 3) m v ho (by decide)).trans f6
  have eo := N_other k hk p hp
  have e := e_walk (v := v) h ho hk (pX4_otherRoof (nI k) (nI p)) (nI p) eo
  unfold pX0_walkOver pX7_goWalk
  rw [nI_clamp (show o < 2 ^ 31 by omega), e6, f3, e]
  by_cases hr : pX7_reasonToWalk m v (nI o) (nI k) (nI p) = 0
  · have hg : ¬ pX7_isGangway (nI k) = 0 := fun z => by
      rw [← e] at hr
      unfold pX0_reasonNotToWalk at hr
      rw [if_pos ((r6_there h hk).mpr (r_notG h hk z).1)] at hr
      exact absurd hr (by decide)
    obtain ⟨n1, n2⟩ := N_oth16 k hk hg p hp
    rw [if_pos hr, if_pos ((rtw_le _ _ _).mpr hr), eo]
    generalize pX7_otherOf (nI k) (nI p) = x at n1 n2 ⊢
    have i3 : (((10 : Int32) + ((5 : Int32) * nI o)) + (3 : Int32)).toNatClampNeg = 10 + 5 * o + 3 := by
      rw [show (3 : Int32) = nI 3 from rfl, ix_ow, nI_clamp (by omega)]
    have i4 : (((10 : Int32) + ((5 : Int32) * nI o)) + (4 : Int32)).toNatClampNeg = 10 + 5 * o + 4 := by
      rw [show (4 : Int32) = nI 4 from rfl, ix_ow, nI_clamp (by omega)]
    rw [i3, i4]
    have r1 : RC N (va_up (va_up u 6 (upd (u 6) o x)) 7 (upd (u 7) o (u 7 o + (1 : Int32)))) w (upd (upd (m 0) (10 + 5 * o + 3) x) (10 + 5 * o + 4) ((upd (m 0) (10 + 5 * o + 3) x) (10 + 5 * o + 4) + (1 : Int32))) := by
      refine RC_o (o := o) h ho (fun j hj => ?_) (fun j hj i hi => ?_) (fun _ _ _ => rfl) (fun j hj => ?_) ⟨?_, ?_, ?_, ⟨x.toNatClampNeg, n2, ?_, ?_⟩, ?_⟩ (RS_c h.2.2 (fun _ _ => rfl) (fun j hj => ?_))
      · rw [va_up_ne _ _ (by omega), va_up_ne _ _ (by omega)]
      · by_cases j7 : j = 7
        · subst j7
          exact pk_un hi
        · rw [va_up_ne _ _ j7]
          by_cases j6 : j = 6
          · subst j6
            exact pk_un hi
          · rw [va_up_ne _ _ j6]
      · rw [pk_un (by omega), pk_un (by omega)]
      · rw [pk_un (by omega), pk_un (by omega)]
        exact e4
      · rw [pk_un (by omega), pk_un (by omega)]
        exact e5
      · rw [pk_us, pk_un (by omega)]
        exact pk_us.trans (by rw [e7])
      · exact pk_us.trans n1
      · rw [pk_un (by omega), pk_us]
        exact n1
      · rw [pk_un (by omega), pk_un (by omega)]
        exact e8
      · rw [pk_un (by omega), pk_un (by omega)]
    have a1 : pX7_ofOwner (va_up m 0 (upd (upd (m 0) (10 + 5 * o + 3) x) (10 + 5 * o + 4) ((upd (m 0) (10 + 5 * o + 3) x) (10 + 5 * o + 4) + (1 : Int32)))) v (nI o) 3 = x := by
      refine (ow_k (j := 3) _ v ho (by decide)).trans ?_
      show (upd (upd (m 0) (10 + 5 * o + 3) x) (10 + 5 * o + 4) ((upd (m 0) (10 + 5 * o + 3) x) (10 + 5 * o + 4) + (1 : Int32))) (10 + 5 * o + 3) = x
      rw [pk_un (by omega), pk_us]
    refine ⟨?_, r1, ?_⟩
    · show (10 : Int32) + x = (10 : Int32) + pX7_ofOwner _ v (nI o) 3
      rw [a1]
    · show ¬ (10 : Int32) + pX7_ofOwner _ v (nI o) 3 = 0
      rw [a1, n1]
      exact ten_ne (by omega)
  · rw [if_neg hr, if_neg (fun z => hr ((rtw_le _ _ _).mp z))]
    exact ⟨rfl, RC_18 h, hr⟩
end RWR
