/-! ===== the start: a new city is in order; the machine knows the classes ===== -/
theorem CI_new {C : Nat → Nat} {u : Nat → Nat → Int32} {w : Nat → Int32} (h : CN (C, u, w)) : CI 2 u w ∧ fb_ct (ln u) 28 = 0 := by
  obtain ⟨h1, h2, h3, ⟨w8, w9, w10, w11, w12, w13, w14, w15, w16, w17, w18⟩, h5⟩ := h
  have w9 : w 9 = 0 := w9
  have w10 : w 10 = 0 := w10
  have w11 : w 11 = 0 := w11
  have w12 : w 12 = 2 := w12
  have w13 : w 13 = 0 := w13
  have w14 : w 14 = 1 := w14
  have w15 : w 15 = 0 := w15
  have w16 : w 16 = 0 := w16
  have w17 : w 17 = 0 := w17
  have w18 : w 18 = 0 := w18
  have hl : fb_ct (ln u) 28 = 0 := fb_ct_no (fun k hk => by
    have e2 : u 1 k = -1 := h2 k hk
    show (!decide (u 1 k = -1)) = false
    rw [decide_eq_true e2]
    rfl)
  refine ⟨⟨fun k hk => ?_, fun o ho => ?_, ⟨0, 0, by decide, by decide, w16, w17, by rw [hl]; exact w15⟩, ?_⟩, hl⟩
  · have e1 : u 0 k = if pX4_isGangway (nI k) = 0 then 0 else 5 := h1 k hk
    have e2 : u 1 k = -1 := h2 k hk
    refine ⟨?_, ⟨0, by decide, (h5 k).1⟩, ⟨0, by decide, (h5 k).2⟩⟩
    by_cases q : pX4_isGangway (nI k) = 0
    · rw [if_pos q] at e1
      exact ⟨0, by decide, e1, fun _ => rfl, Or.inl e2⟩
    · rw [if_neg q] at e1
      exact ⟨5, by decide, e1, fun z => absurd (gw_iff.mpr z) q, Or.inl e2⟩
  · obtain ⟨b1, b2, b3, b4⟩ := h3 o ho
    exact ⟨⟨3, by decide, by decide, b1⟩, ⟨5 * o, by omega, b3⟩, ⟨0, by decide, b4⟩⟩
  · unfold CS
    rw [w9, w10]
    exact ⟨M16_0, M16_0, ⟨0, by decide, w11⟩, ⟨2, by decide, w12⟩, ⟨0, by decide, w13⟩, ⟨1, by decide, w14⟩, ⟨0, by decide, w18⟩⟩
theorem kk0 {s : State} {args : Array Value} (hts0 : ∀ w ∈ lw_tbl, w.before args s = true) : ∃ (D : va_G) (cyC cyI cyO : ClassId), KK D cyC cyI cyO s ∧ va_AO RX0 s := by
  have hts : ∀ w ∈ TB, w.before args s = true := fun w h => hts0 w (List.mem_filter.mp h).1
  obtain ⟨c0, i0, hK0⟩ := u_known (C := RX0) (T := TX0) (N := 19) (n := 19) hts inT_X0 (hts _ wis_RX0)
  obtain ⟨c1, i1, hK1⟩ := u_known (C := RX1) (T := TX1) (N := 2) (n := 2) hts inT_X1 (hts _ wis_RX1)
  obtain ⟨c2, i2, hK2⟩ := u_known (C := RX2) (T := TX2) (N := 6) (n := 6) hts inT_X2 (hts _ wis_RX2)
  obtain ⟨c3, i3, hK3⟩ := u_known (C := RX3) (T := TX3) (N := 2) (n := 2) hts inT_X3 (hts _ wis_RX3)
  obtain ⟨c5, i5, hK5⟩ := u_known (C := RX5) (T := TX5) (N := 2) (n := 2) hts inT_X5 (hts _ wis_RX5)
  obtain ⟨c6, i6, hK6⟩ := u_known (C := RX6) (T := TX6) (N := 12) (n := 12) hts inT_X6 (hts _ wis_RX6)
  obtain ⟨cyC, kC, compC, a1, a2, a3⟩ := Cond.arrayClass_spec (hts _ wac_char)
  obtain ⟨cyI, kI, compI, b1, b2, b3⟩ := Cond.arrayClass_spec (hts _ wac_int)
  have hov := hts0 _ (tb_1 (List.mem_of_getElem? (i := 117) rfl))
  obtain ⟨comp, cyO, kO, f1, f2, f3, f4, f5⟩ := Cond.arrayOver_spec hov
  refine ⟨(fun k => [c0, c1, c2, c3, c5, c6].getD k c0, fun k => [i0, i1, i2, i3, i5, i6].getD k i0), cyC, cyI, cyO, ⟨⟨?_, ?_⟩, ?_⟩, va_AO.of hov⟩
  · intro k q hq
    match k, hq with
    | 0, hq => cases hq; exact hK0
    | 1, hq => cases hq; exact hK1
    | 2, hq => cases hq; exact hK2
    | 3, hq => cases hq; exact hK3
    | 4, hq => cases hq; exact hK5
    | 5, hq => cases hq; exact hK6
    | k + 6, hq => exact absurd (show (none : Option vw_C) = some q from hq) (by simp)
  · intro k q hq
    match k, hq with
    | 0, hq => cases hq; exact ⟨fun n z => ⟨(fun k h => by cases h), kC, a2, compC, a3⟩, a1⟩
    | 1, hq => cases hq; exact ⟨fun n z => ⟨(fun k h => by cases h), kI, b2, compI, b3⟩, b1⟩
    | 2, hq => cases hq; exact ⟨fun n z => ⟨(fun k h => by cases h), kO, f3, comp, f4⟩, kO, comp, f3, f4, f1, f5⟩
    | k + 3, hq => exact absurd (show (none : Option (ClassId × FieldType)) = some q from hq) (by simp)
  · exact ⟨va_Nw.of rfl (hts0 _ (tb_2 (List.mem_of_getElem? (i := 1) rfl))), va_Nw.of rfl (hts0 _ (tb_1 (List.mem_of_getElem? (i := 29) rfl))), va_Nw.of rfl (hts0 _ (tb_2 (List.mem_of_getElem? (i := 124) rfl))), va_Nw.of rfl (hts0 _ (tb_3 (List.mem_of_getElem? (i := 132) rfl))), va_Nw.of rfl (hts0 _ (tb_3 (List.mem_of_getElem? (i := 161) rfl))), va_Nw.of rfl (hts0 _ (tb_3 (List.mem_of_getElem? (i := 174) rfl))), va_Nw.of rfl (hts0 _ (tb_3 (List.mem_of_getElem? (i := 11) rfl))), va_Nw.of rfl (hts0 _ (tb_1 (List.mem_of_getElem? (i := 129) rfl))), va_Nw.of rfl (hts0 _ (tb_1 (List.mem_of_getElem? (i := 142) rfl)))⟩
