/-! ===== the start: the tables, the new objects, what holds of them ===== -/
theorem ms0_hi : ∀ k, k < 142 → 30 ≤ k → ms0 k = 0 := by decide +kernel
theorem m28_ow : ∀ o, o < 4 → m28 28 (10 + 5 * o) = 3 ∧ m28 28 (10 + 5 * o + 1) = 65535 ∧ m28 28 (10 + 5 * o + 2) = 0 ∧ m28 28 (10 + 5 * o + 3) = nI (5 * o) ∧ m28 28 (10 + 5 * o + 4) = 0 := by decide +kernel
theorem m28_lo : m28 28 0 = 0 ∧ m28 28 1 = 0 ∧ m28 28 2 = 2 ∧ m28 28 3 = 1 ∧ m28 28 4 = 0 ∧ m28 28 5 = 0 ∧ m28 28 6 = 0 ∧ m28 28 7 = 0 ∧ m28 28 8 = 0 ∧ m28 28 9 = 0 := by decide +kernel
theorem isIn_st : ∀ o, o < 4 → pX6_isIn 0 (nI o) = 0 := by decide +kernel
theorem m28_0k (k : Nat) (hk : k < 28) : m28 28 (30 + 4 * k) = if pX7_isGangway (nI k) = 0 then 0 else 5 := by
  unfold m28
  rw [if_pos (by omega), show (30 + 4 * k - 30) / 4 = k by omega]
theorem m28_1k (k : Nat) (hk : k < 28) : m28 28 (30 + 4 * k + 1) = 0 := by
  unfold m28
  rw [if_neg (by omega)]
  exact ms0_hi _ (by omega) (by omega)
theorem RC_new {C : Nat → Nat} {u : Nat → Nat → Int32} {w : Nat → Int32} (h : CI (C, u, w)) : RC 0 u w (m28 28) := by
  obtain ⟨h1, h2, h3, w8, w9, w10, w11, w12, w13, w14, w15, w16, w17, w18⟩ := h
  obtain ⟨s0, s1, s2, s3, s4, s5, s6, s7, s8, s9⟩ := m28_lo
  refine ⟨fun k hk => ?_, fun o ho => ?_, ?_⟩
  · have e1 : u 0 k = if pX4_isGangway (nI k) = 0 then 0 else 5 := h1 k hk
    have e2 : u 1 k = -1 := h2 k hk
    have e3 := m28_0k k hk
    rw [N_isG k hk] at e1
    by_cases g : pX7_isGangway (nI k) = 0
    · rw [if_pos g] at e1 e3
      exact ⟨0, 0, 0, 0, e1, e3, by decide, e2, m28_1k k hk, by decide, fun z => absurd rfl z, fun _ => ⟨rfl, rfl⟩⟩
    · rw [if_neg g] at e1 e3
      exact ⟨5, 0, 0, 0, e1, e3, by decide, e2, m28_1k k hk, by decide, fun z => absurd rfl z, fun z => absurd z g⟩
  · obtain ⟨a1, a2, a3, a4, a5⟩ := m28_ow o ho
    obtain ⟨b1, b2, b3, b4⟩ := h3 o ho
    have b1 : u 4 o = 3 := b1
    have b2 : u 5 o = 65535 := b2
    have b3 : u 6 o = nI (5 * o) := b3
    have b4 : u 7 o = 0 := b4
    have w8 : w 8 = 0 := w8
    exact ⟨b1.trans a1.symm, b2.trans a2.symm, b4.trans a5.symm, ⟨5 * o, by omega, b3, a4⟩, by rw [w8, isIn_st o ho]; exact a3⟩
  · have w8 : w 8 = 0 := w8
    have w9 : w 9 = 0 := w9
    have w10 : w 10 = 0 := w10
    have w11 : w 11 = 0 := w11
    have w12 : w 12 = 2 := w12
    have w13 : w 13 = 0 := w13
    have w14 : w 14 = 1 := w14
    have w15 : w 15 = 0 := w15
    have w16 : w 16 = 0 := w16
    have w17 : w 17 = 0 := w17
    have w18 : w 18 = 0 := w18
    exact ⟨w9.trans s8.symm, w10.trans s9.symm, by rw [s8]; exact M16_0, by rw [s9]; exact M16_0, ⟨0, by decide, w11, s1⟩, ⟨2, by decide, w12, s2⟩, w13.trans s0.symm, w14.trans s3.symm, w15.trans s4.symm, w16.trans s5.symm, w17.trans s6.symm, w18.trans s7.symm, ⟨0, by decide, w8⟩⟩
theorem ra0 {rt : Nat → Int32} {sg : Nat → Nat → Int32} {pw : Nat → Int32} {C : Nat → Nat} {u : Nat → Nat → Int32} {w : Nat → Int32} {h : Nat → (Nat → Nat → Int32) × (Nat → Int32)} {v : Nat → Int32} {su : Nat → Nat → Int32} {sw : Nat → Int32} (hc : CI (C, u, w)) (h3 : rt 3 = 0) (h8 : rt 8 = 0) (hsg : ∀ k, sg 0 k = 0) (hpw : pw 1 = 0) (hv : v 1 = 0) : RA 0 rt sg pw u w h 0 v su sw (va_up (fun _ _ => 0) 0 (m28 28)) (fun _ => 0) 0 0 :=
  ⟨RC_new hc, ⟨Nat.zero_le _, hv, rfl, by decide, fun j hj => absurd hj (Nat.not_lt_zero j)⟩, ⟨h3, fun z => absurd h3 z⟩, ⟨Nat.zero_le _, hpw, rfl, fun j _ => ⟨0, by decide, hsg j⟩, fun j hj => absurd hj (Nat.not_lt_zero j)⟩, ⟨h8, fun z => absurd h8 z⟩⟩
/-- the tables at the start -/
theorem kk0 {s : State} {args : Array Value} (hts0 : ∀ w ∈ lw_tbl, w.before args s = true) : ∃ (D : va_G) (cyC cyI cyO : ClassId), KK D cyC cyI cyO s ∧ va_AO RX0 s := by
  have hts : ∀ w ∈ TB, w.before args s = true := fun w h => hts0 w (List.mem_filter.mp h).1
  obtain ⟨c0, i0, hK0⟩ := u_known (C := RX0) (T := TX0) (N := 19) (n := 19) hts inT_X0 (hts _ wis_RX0)
  obtain ⟨c1, i1, hK1⟩ := u_known (C := RX1) (T := TX1) (N := 2) (n := 2) hts inT_X1 (hts _ wis_RX1)
  obtain ⟨c2, i2, hK2⟩ := u_known (C := RX2) (T := TX2) (N := 6) (n := 6) hts inT_X2 (hts _ wis_RX2)
  obtain ⟨c3, i3, hK3⟩ := u_known (C := RX3) (T := TX3) (N := 2) (n := 2) hts inT_X3 (hts _ wis_RX3)
  obtain ⟨c5, i5, hK5⟩ := u_known (C := RX5) (T := TX5) (N := 2) (n := 2) hts inT_X5 (hts _ wis_RX5)
  obtain ⟨c6, i6, hK6⟩ := u_known (C := RX6) (T := TX6) (N := 12) (n := 12) hts inT_X6 (hts _ wis_RX6)
  obtain ⟨c7, i7, hK7⟩ := u_known (C := RX7) (T := TX7) (N := 15) (n := 15) hts inT_X7 (hts _ wis_RX7)
  obtain ⟨cyC, kC, compC, a1, a2, a3⟩ := Cond.arrayClass_spec (hts _ wac_char)
  obtain ⟨cyI, kI, compI, b1, b2, b3⟩ := Cond.arrayClass_spec (hts _ wac_int)
  have hov := hts0 _ (tb_1 (List.mem_of_getElem? (i := 118) rfl))
  obtain ⟨comp, cyO, kO, f1, f2, f3, f4, f5⟩ := Cond.arrayOver_spec hov
  refine ⟨(fun k => [c0, c1, c2, c3, c5, c6, c7].getD k c0, fun k => [i0, i1, i2, i3, i5, i6, i7].getD k i0), cyC, cyI, cyO, ⟨⟨?_, ?_⟩, ?_⟩, va_AO.of hov⟩
  · intro k q hq
    match k, hq with
    | 0, hq => cases hq; exact hK0
    | 1, hq => cases hq; exact hK1
    | 2, hq => cases hq; exact hK2
    | 3, hq => cases hq; exact hK3
    | 4, hq => cases hq; exact hK5
    | 5, hq => cases hq; exact hK6
    | 6, hq => cases hq; exact hK7
    | k + 7, hq => exact absurd (show (none : Option vw_C) = some q from hq) (by simp)
  · intro k q hq
    match k, hq with
    | 0, hq => cases hq; exact ⟨fun n z => ⟨(fun k h => by cases h), kC, a2, compC, a3⟩, a1⟩
    | 1, hq => cases hq; exact ⟨fun n z => ⟨(fun k h => by cases h), kI, b2, compI, b3⟩, b1⟩
    | 2, hq => cases hq; exact ⟨fun n z => ⟨(fun k h => by cases h), kO, f3, comp, f4⟩, kO, comp, f3, f4, f1, f5⟩
    | k + 3, hq => exact absurd (show (none : Option (ClassId × FieldType)) = some q from hq) (by simp)
  · exact ⟨va_Nw.of rfl (hts0 _ (tb_2 (List.mem_of_getElem? (i := 30) rfl))), va_Nw.of rfl (hts0 _ (tb_1 (List.mem_of_getElem? (i := 30) rfl))), va_Nw.of rfl (hts0 _ (tb_3 (List.mem_of_getElem? (i := 11) rfl))), va_Nw.of rfl (hts0 _ (tb_2 (List.mem_of_getElem? (i := 156) rfl))), va_Nw.of rfl (hts0 _ (tb_2 (List.mem_of_getElem? (i := 189) rfl))), va_Nw.of rfl (hts0 _ (tb_2 (List.mem_of_getElem? (i := 202) rfl))), va_Nw.of rfl (hts0 _ (tb_3 (List.mem_of_getElem? (i := 90) rfl))), va_Nw.of rfl (hts0 _ (tb_1 (List.mem_of_getElem? (i := 130) rfl))), va_Nw.of rfl (hts0 _ (tb_1 (List.mem_of_getElem? (i := 143) rfl)))⟩
theorem flat_two (bl : List va_W) (b : va_W) : List.flatten [bl.flatten, b] = (bl ++ [b]).flatten := by
  rw [← flat_snoc, List.flatten_cons, List.flatten_cons, List.flatten_nil, List.append_nil]
