/-! ===== a day, days ===== -/
theorem turn_nI {d : Nat} (hd : d < 4) : (nI d + (1 : Int32)) - (nI d + (1 : Int32)) / (4 : Int32) * (4 : Int32) = nI ((d + 1) % 4) := by
  rw [nI_1, show (4 : Int32) = nI 4 from rfl, pk_rem (by omega) (by decide) (by decide)]
def lotN (x : Int32) : Int32 := ((421 : Int32) * x + (1663 : Int32)) - ((421 : Int32) * x + (1663 : Int32)) / (10000 : Int32) * (10000 : Int32)
theorem lot_nI {x : Nat} (hx : x < 10000) : ∃ y, y < 10000 ∧ lotN (nI x) = nI y := by
  refine ⟨(421 * x + 1663) % 10000, Nat.mod_lt _ (by decide), ?_⟩
  unfold lotN
  rw [show (421 : Int32) = nI 421 from rfl, pk_mul, show (1663 : Int32) = nI 1663 from rfl, nI_add, show (10000 : Int32) = nI 10000 from rfl, pk_rem (by omega) (by decide) (by decide)]
theorem d6_if {α : Type} {c : Prop} [Decidable c] {a : α} {x y : Nat → Int32} : (if c then (a, x) else (a, y)) = (a, if c then x else y) := by split <;> rfl
theorem b1_le (b : Bool) : b1 b ≤ 1 := by cases b <;> decide
theorem inc2 (x : Int32) {k : Nat} (hk : k < 28) : ∃ d, d ≤ 2 ∧ pJ6_bitCount_0f7a4 (x &&& pX4_roofsOf (nI k)) = nI d := ⟨_, by have := b1_le (bt x (lsN k)); have := b1_le (bt x (grN k)); omega, bc_roofs x hk⟩
/-- some days on: what grew -/
def GR (B : Nat) (u u1 : Nat → Nat → Int32) (k : Nat) : Prop := (∃ a a1, u 2 k = nI a ∧ u1 2 k = nI a1 ∧ a ≤ a1 ∧ a1 ≤ B) ∧ (∃ a a1, u 3 k = nI a ∧ u1 3 k = nI a1 ∧ a ≤ a1 ∧ a1 ≤ B)
def DR (B : Nat) (u : Nat → Nat → Int32) (w : Nat → Int32) (u1 : Nat → Nat → Int32) (w1 : Nat → Int32) : Prop := CI B u1 w1 ∧ (∀ j, j ≠ 2 → j ≠ 3 → u1 j = u j) ∧ (∀ k, k < 28 → GR B u u1 k) ∧ (∀ j, j ≠ 11 → j ≠ 13 → j ≠ 14 → w1 j = w j)
section DY
variable {B : Nat} {u : Nat → Nat → Int32} {w : Nat → Int32}
theorem p6_day : pX0_passDay u w = ((pX0_passDay_L21 u w 28).1, if lotN ((pX0_passDay_L21 u w 28).2 14) - lotN ((pX0_passDay_L21 u w 28).2 14) / (4 : Int32) * (4 : Int32) = 0 then va_up (va_up (pX0_passDay_L21 u w 28).2 14 (lotN ((pX0_passDay_L21 u w 28).2 14))) 11 (((pX0_passDay_L21 u w 28).2 11 + (1 : Int32)) - ((pX0_passDay_L21 u w 28).2 11 + (1 : Int32)) / (4 : Int32) * (4 : Int32)) else va_up (pX0_passDay_L21 u w 28).2 14 (lotN ((pX0_passDay_L21 u w 28).2 14))) := by
  unfold pX0_passDay
  generalize pX0_passDay_L21 u w 28 = z
  exact d6_if
def DL (B : Nat) (u : Nat → Nat → Int32) (w : Nat → Int32) (n : Nat) (z : (Nat → Nat → Int32) × (Nat → Int32)) : Prop := z.2 = va_up w 13 (w 13 + (1 : Int32)) ∧ (∀ j, j ≠ 2 → j ≠ 3 → z.1 j = u j) ∧ (∀ k, k < 28 → GR (B + 2) u z.1 k) ∧ (∀ k, n ≤ k → z.1 2 k = u 2 k ∧ z.1 3 k = u 3 k)
theorem soil_1 (z : (Nat → Nat → Int32) × (Nat → Int32)) (S : Int32) {k : Nat} (hk : k < 28) : ∃ a c, a ≤ 2 ∧ c ≤ 2 ∧ (pX0_soilLine z.1 z.2 (nI k) S).2 = z.2 ∧ (∀ j, j ≠ 2 → j ≠ 3 → (pX0_soilLine z.1 z.2 (nI k) S).1 j = z.1 j) ∧ (∀ i, i ≠ k → (pX0_soilLine z.1 z.2 (nI k) S).1 2 i = z.1 2 i ∧ (pX0_soilLine z.1 z.2 (nI k) S).1 3 i = z.1 3 i) ∧ (pX0_soilLine z.1 z.2 (nI k) S).1 2 k = z.1 2 k + nI a ∧ (pX0_soilLine z.1 z.2 (nI k) S).1 3 k = z.1 3 k + nI c := by
  obtain ⟨a, ha, ea⟩ := inc2 S hk
  obtain ⟨c, hc, ec⟩ := inc2 (z.2 10) hk
  unfold pX0_soilLine
  rw [nI_clamp (by omega), ea, ec]
  by_cases q : pX6_isIn (z.2 8) (z.1 1 k) = 0
  · rw [if_pos q]
    refine ⟨a, c, ha, hc, rfl, fun j h2 h3 => ?_, fun i hi => ⟨?_, ?_⟩, ?_, ?_⟩
    · exact (va_up_ne _ _ h3).trans (va_up_ne _ _ h2)
    · exact pk_un hi
    · exact pk_un hi
    · exact pk_us
    · exact pk_us
  · rw [if_neg q]
    refine ⟨a, 0, ha, by decide, rfl, fun j h2 h3 => ?_, fun i hi => ⟨?_, ?_⟩, ?_, ?_⟩
    · exact va_up_ne _ _ h2
    · exact pk_un hi
    · rfl
    · exact pk_us
    · rw [nI_0, Int32.add_zero]
      rfl
theorem day_L (H : CI B u w) : ∀ n, n ≤ 28 → DL B u w n (pX0_passDay_L21 u w n) := by
  intro n
  induction n with
  | zero =>
    intro _
    refine ⟨rfl, fun _ _ _ => rfl, fun k hk => ?_, fun _ _ => ⟨rfl, rfl⟩⟩
    obtain ⟨-, ⟨a, ha, e⟩, ⟨c, hc, e2⟩⟩ := H.1 k hk
    exact ⟨⟨a, a, e, e, Nat.le_refl _, by omega⟩, ⟨c, c, e2, e2, Nat.le_refl _, by omega⟩⟩
  | succ n ih =>
    intro hn
    obtain ⟨i1, i2, i3, i4⟩ := ih (by omega)
    rw [pX0_passDay_L21_s]
    generalize pX0_smokeBlown u (va_up w 13 ((w 13) + (1 : Int32))) (w 11) = S
    generalize pX0_passDay_L21 u w n = z at i1 i2 i3 i4 ⊢
    split
    · exact ⟨i1, i2, i3, fun k hk => i4 k (by omega)⟩
    · obtain ⟨a, c, ha, hc, s1, s2, s3, s4, s5⟩ := soil_1 z S (show n < 28 by omega)
      generalize pX0_soilLine z.1 z.2 (nI n) S = y at s1 s2 s3 s4 s5 ⊢
      obtain ⟨j2, j3⟩ := i4 n (Nat.le_refl _)
      obtain ⟨-, ⟨a0, ha0, e⟩, ⟨c0, hc0, e2⟩⟩ := H.1 n (by omega)
      refine ⟨s1.trans i1, fun j h2 h3 => (s2 j h2 h3).trans (i2 j h2 h3), fun k hk => ?_, fun k hk => ?_⟩
      · by_cases q : k = n
        · subst q
          refine ⟨⟨a0, a0 + a, e, ?_, by omega, by omega⟩, ⟨c0, c0 + c, e2, ?_, by omega, by omega⟩⟩
          · show y.1 2 k = _
            rw [s4, j2, e, nI_add]
          · show y.1 3 k = _
            rw [s5, j3, e2, nI_add]
        · obtain ⟨q2, q3⟩ := s3 k q
          unfold GR
          dsimp only
          rw [q2, q3]
          exact i3 k hk
      · obtain ⟨q2, q3⟩ := s3 k (by omega)
        obtain ⟨q4, q5⟩ := i4 k (by omega)
        exact ⟨q2.trans q4, q3.trans q5⟩
theorem ln_cg {u1 : Nat → Nat → Int32} (h : u1 1 = u 1) : ln u1 = ln u := by
  funext k
  unfold ln
  rw [h]
theorem CI_gr {u1 : Nat → Nat → Int32} {w1 : Nat → Int32} {B1 : Nat} (hB : B ≤ B1) (H : CI B u w) (h1 : ∀ j, j ≠ 2 → j ≠ 3 → u1 j = u j) (h2 : ∀ k, k < 28 → GR B1 u u1 k) (h15 : w1 15 = w 15) (h16 : w1 16 = w 16) (h17 : w1 17 = w 17) (hs : CS B1 w1) : CI B1 u1 w1 := by
  refine ⟨fun k hk => ?_, fun o ho => ?_, ?_, hs⟩
  · obtain ⟨⟨b, b1, b2, b3, b4⟩, -, -⟩ := H.1 k hk
    obtain ⟨⟨a, a1, -, e, -, l⟩, ⟨c, c1, -, e2, -, l2⟩⟩ := h2 k hk
    refine ⟨⟨b, b1, ?_, b3, ?_⟩, ⟨a1, l, e⟩, ⟨c1, l2, e2⟩⟩
    · rw [h1 0 (by decide) (by decide)]; exact b2
    · rw [h1 1 (by decide) (by decide)]; exact b4
  · obtain ⟨a, b, ⟨x, hx, e⟩⟩ := H.2.1 o ho
    refine ⟨?_, ?_, ⟨x, by omega, ?_⟩⟩
    · rw [h1 4 (by decide) (by decide)]; exact a
    · rw [h1 6 (by decide) (by decide)]; exact b
    · rw [h1 7 (by decide) (by decide)]; exact e
  · obtain ⟨t, f, a, b, c, d, e⟩ := H.2.2.1
    refine ⟨t, f, by omega, by omega, by rw [h16]; exact c, by rw [h17]; exact d, ?_⟩
    rw [ln_cg (h1 1 (by decide) (by decide)), h15]
    exact e
theorem day_DR (H : CI B u w) : DR (B + 2) u w (pX0_passDay u w).1 (pX0_passDay u w).2 ∧ (pX0_passDay u w).2 13 = w 13 + 1 := by
  obtain ⟨i1, i2, i3, i4⟩ := day_L H 28 (Nat.le_refl _)
  obtain ⟨m9, m10, ⟨d, hd, h11⟩, ⟨q, hq, h12⟩, ⟨x13, hx13, h13⟩, ⟨x14, hx14, h14⟩, ⟨x18, hx18, h18⟩⟩ := H.2.2.2
  obtain ⟨y, hy, ey⟩ := lot_nI hx14
  rw [p6_day]
  generalize pX0_passDay_L21 u w 28 = z at i1 i2 i3 i4 ⊢
  obtain ⟨z1, z2⟩ := z
  have i1 : z2 = va_up w 13 (w 13 + (1 : Int32)) := i1
  subst i1
  have e13 : va_up w 13 (w 13 + (1 : Int32)) 13 = nI (x13 + 1) := by
    show w 13 + (1 : Int32) = _
    rw [h13, nI_1]
  have key : ∀ w1 : Nat → Int32, (∀ j, j ≠ 11 → j ≠ 13 → j ≠ 14 → w1 j = w j) → (∃ d, d < 4 ∧ w1 11 = nI d) → w1 13 = nI (x13 + 1) → w1 14 = nI y → DR (B + 2) u w z1 w1 ∧ w1 13 = w 13 + 1 := by
    intro w1 k1 k2 k3 k4
    have n9 := k1 9 (by decide) (by decide) (by decide)
    have n10 := k1 10 (by decide) (by decide) (by decide)
    have n12 := k1 12 (by decide) (by decide) (by decide)
    have n18 := k1 18 (by decide) (by decide) (by decide)
    refine ⟨⟨CI_gr (by omega) H i2 i3 (k1 15 (by decide) (by decide) (by decide)) (k1 16 (by decide) (by decide) (by decide)) (k1 17 (by decide) (by decide) (by decide)) ⟨by rw [n9]; exact m9, by rw [n10]; exact m10, k2, ⟨q, hq, n12.trans h12⟩, ⟨x13 + 1, by omega, k3⟩, ⟨y, hy, k4⟩, ⟨x18, by omega, n18.trans h18⟩⟩, i2, i3, k1⟩, by rw [k3, h13, nI_1]⟩
  have t11 : va_up w 13 (w 13 + (1 : Int32)) 11 + (1 : Int32) - (va_up w 13 (w 13 + (1 : Int32)) 11 + (1 : Int32)) / (4 : Int32) * (4 : Int32) = nI ((d + 1) % 4) := by
    have e11 : va_up w 13 (w 13 + (1 : Int32)) 11 = nI d := h11
    rw [e11]
    exact turn_nI hd
  have t14 : lotN (va_up w 13 (w 13 + (1 : Int32)) 14) = nI y := by
    have e14 : va_up w 13 (w 13 + (1 : Int32)) 14 = nI x14 := h14
    rw [e14]
    exact ey
  have e11 : va_up w 13 (w 13 + (1 : Int32)) 11 = nI d := h11
  have ej : ∀ j, j ≠ 13 → va_up w 13 (w 13 + (1 : Int32)) j = w j := fun j hj => va_up_ne _ _ hj
  dsimp only
  generalize va_up w 13 (w 13 + (1 : Int32)) = w2 at e13 t11 t14 e11 ej ⊢
  generalize w2 11 + (1 : Int32) - (w2 11 + (1 : Int32)) / (4 : Int32) * (4 : Int32) = p at t11 ⊢
  generalize lotN (w2 14) = l at t14 ⊢
  subst t11
  subst t14
  split
  · refine key _ (fun j a b c => ?_) ⟨_, Nat.mod_lt _ (by decide), rfl⟩ e13 rfl
    rw [va_up_ne _ _ a, va_up_ne _ _ c, ej j b]
  · refine key _ (fun j a b c => ?_) ⟨d, hd, e11⟩ e13 rfl
    rw [va_up_ne _ _ c, ej j b]
theorem DR_tr {B1 : Nat} (hB : B < 1000000) (hB1 : B1 < 1000000) {u1 u2 : Nat → Nat → Int32} {w1 w2 : Nat → Int32} (h1 : DR B u w u1 w1) (h2 : DR B1 u1 w1 u2 w2) : DR B1 u w u2 w2 := by
  refine ⟨h2.1, fun j a b => (h2.2.1 j a b).trans (h1.2.1 j a b), fun k hk => ?_, fun j a b c => (h2.2.2.2 j a b c).trans (h1.2.2.2 j a b c)⟩
  obtain ⟨⟨a, a1, e1, e2, l1, l2⟩, ⟨c, c1, f1, f2, m1, m2⟩⟩ := h1.2.2.1 k hk
  obtain ⟨⟨a', a1', e1', e2', l1', l2'⟩, ⟨c', c1', f1', f2', m1', m2'⟩⟩ := h2.2.2.1 k hk
  have q1 : a1 = a' := (nI_eq (by omega) (by omega)).mp (e2.symm.trans e1')
  have q2 : c1 = c' := (nI_eq (by omega) (by omega)).mp (f2.symm.trans f1')
  exact ⟨⟨a, a1', e1, e2', by omega, l2'⟩, ⟨c, c1', f1, f2', by omega, m2'⟩⟩
theorem DR_rf (H : CI B u w) : DR B u w u w := by
  refine ⟨H, fun _ _ _ => rfl, fun k hk => ?_, fun _ _ _ _ => rfl⟩
  obtain ⟨-, ⟨a, ha, e⟩, ⟨c, hc, e2⟩⟩ := H.1 k hk
  exact ⟨⟨a, a, e, e, Nat.le_refl _, ha⟩, ⟨c, c, e2, e2, Nat.le_refl _, hc⟩⟩
theorem DR_cl (hB : B < 1000000) {u1 : Nat → Nat → Int32} {w1 : Nat → Int32} (h : DR B u w u1 w1) : fb_ct (cl u1) 28 ≤ fb_ct (cl u) 28 := by
  refine fb_ct_sub (fun k hk z => ?_)
  obtain ⟨⟨a, a1, e1, e2, l1, l2⟩, ⟨c, c1, f1, f2, m1, m2⟩⟩ := h.2.2.1 k hk
  unfold cl at z ⊢
  rw [ln_cg (h.2.1 1 (by decide) (by decide)), e2, f2, Bool.and_eq_true_iff, Bool.and_eq_true_iff, decide_eq_true_iff, decide_eq_true_iff, nI_z (by omega), nI_z (by omega)] at z
  rw [e1, f1, Bool.and_eq_true_iff, Bool.and_eq_true_iff, decide_eq_true_iff, decide_eq_true_iff, nI_z (by omega), nI_z (by omega)]
  exact ⟨z.1, by omega, by omega⟩
def sN (f : Nat → Nat) : Nat → Nat
  | 0 => 0
  | n + 1 => sN f n + f n
theorem sN_le {f g : Nat → Nat} : ∀ n, (∀ k, k < n → f k ≤ g k) → sN f n ≤ sN g n := by
  intro n
  induction n with
  | zero => intro _; exact Nat.le_refl _
  | succ n ih =>
    intro h
    have h1 := ih (fun k hk => h k (by omega))
    have h2 := h n (by omega)
    show sN f n + f n ≤ sN g n + g n
    omega
theorem sN_b {f : Nat → Nat} {b : Nat} : ∀ n, (∀ k, k < n → f k ≤ b) → sN f n ≤ n * b := by
  intro n
  induction n with
  | zero => intro _; exact Nat.zero_le _
  | succ n ih =>
    intro h
    have h1 := ih (fun k hk => h k (by omega))
    have h2 := h n (by omega)
    show sN f n + f n ≤ _
    rw [Nat.succ_mul]
    omega
def so (u : Nat → Nat → Int32) (c k : Nat) : Nat := if ln u k = true then (u c k).toNatClampNeg else 0
theorem sum_3 (hB : B < 1000000) (H : CI B u w) : ∀ n, n ≤ 28 → pX0_sumOverLines_3_L4 u w n = nI (sN (so u 2) n) := by
  intro n
  induction n with
  | zero => intro _; rfl
  | succ n ih =>
    intro hn
    obtain ⟨-, ⟨a, ha, e⟩, -⟩ := H.1 n (by omega)
    rw [pX0_sumOverLines_3_L4_s, ih (by omega)]
    show _ = nI (sN (so u 2) n + so u 2 n)
    unfold so
    by_cases c : pX0_hasLine u w (nI n) = 0
    · rw [if_pos c, if_neg (bt_f.mpr ((hl_iff (by omega)).mp c)), Nat.add_zero]
    · rw [if_neg c, if_pos (bf.mp (fun z => c ((hl_iff (by omega)).mpr z))), e, nI_clamp (by omega), nI_add]
theorem sum_4 (hB : B < 1000000) (H : CI B u w) : ∀ n, n ≤ 28 → pX0_sumOverLines_4_L4 u w n = nI (sN (so u 3) n) := by
  intro n
  induction n with
  | zero => intro _; rfl
  | succ n ih =>
    intro hn
    obtain ⟨-, -, ⟨a, ha, e⟩⟩ := H.1 n (by omega)
    rw [pX0_sumOverLines_4_L4_s, ih (by omega)]
    show _ = nI (sN (so u 3) n + so u 3 n)
    unfold so
    by_cases c : pX0_hasLine u w (nI n) = 0
    · rw [if_pos c, if_neg (bt_f.mpr ((hl_iff (by omega)).mp c)), Nat.add_zero]
    · rw [if_neg c, if_pos (bf.mp (fun z => c ((hl_iff (by omega)).mpr z))), e, nI_clamp (by omega), nI_add]
theorem DR_sum (hB : B < 1000000) {B0 : Nat} (hB0 : B0 < 1000000) (H : CI B0 u w) {u1 : Nat → Nat → Int32} {w1 : Nat → Int32} (h : DR B u w u1 w1) : ¬ pX0_sumOverLines_3 u1 w1 < pX0_sumOverLines_3 u w ∧ ¬ pX0_sumOverLines_4 u1 w1 < pX0_sumOverLines_4 u w := by
  have hln := ln_cg (h.2.1 1 (by decide) (by decide))
  have e1 : pX0_sumOverLines_3 u1 w1 = _ := sum_3 hB h.1 28 (Nat.le_refl _)
  have e2 : pX0_sumOverLines_3 u w = _ := sum_3 hB0 H 28 (Nat.le_refl _)
  have e3 : pX0_sumOverLines_4 u1 w1 = _ := sum_4 hB h.1 28 (Nat.le_refl _)
  have e4 : pX0_sumOverLines_4 u w = _ := sum_4 hB0 H 28 (Nat.le_refl _)
  rw [e1, e2, e3, e4]
  have b1 : sN (so u1 2) 28 ≤ 28 * B := sN_b 28 (fun k hk => by
    obtain ⟨-, ⟨a, ha, e⟩, -⟩ := h.1.1 k hk
    unfold so
    split
    · rw [e, nI_clamp (by omega)]; exact ha
    · exact Nat.zero_le _)
  have b2 : sN (so u1 3) 28 ≤ 28 * B := sN_b 28 (fun k hk => by
    obtain ⟨-, -, ⟨a, ha, e⟩⟩ := h.1.1 k hk
    unfold so
    split
    · rw [e, nI_clamp (by omega)]; exact ha
    · exact Nat.zero_le _)
  refine ⟨nI_nlt (sN_le 28 (fun k hk => ?_)) (by omega), nI_nlt (sN_le 28 (fun k hk => ?_)) (by omega)⟩
  · obtain ⟨⟨a, a1, g1, g2, l1, l2⟩, -⟩ := h.2.2.1 k hk
    unfold so
    rw [hln]
    split
    · rw [g1, g2, nI_clamp (by omega), nI_clamp (by omega)]; exact l1
    · exact Nat.le_refl _
  · obtain ⟨-, ⟨a, a1, g1, g2, l1, l2⟩⟩ := h.2.2.1 k hk
    unfold so
    rw [hln]
    split
    · rw [g1, g2, nI_clamp (by omega), nI_clamp (by omega)]; exact l1
    · exact Nat.le_refl _
end DY
/-! ifDays -/
section ID
variable {B : Nat} {rt : Nat → Int32} {sg : Nat → Nat → Int32} {pw : Nat → Int32} {rd : Nat → Int32} {u : Nat → Nat → Int32} {w : Nat → Int32} {h : Nat → (Nat → Nat → Int32) × (Nat → Int32)} {r : Nat} {v : Nat → Int32} {tu : Nat → Nat → Int32} {tw : Nat → Int32} {su : Nat → Nat → Int32} {sw : Nat → Int32} {g : Nat → Nat → Int32} {k o : Nat}
def dV (a2 : Int32) (u1 : Nat → Nat → Int32) (w1 : Nat → Int32) : Int32 := if a2 = 0 then pJ6_bitCount_0f7a4 (pX0_cleanLines u1 w1) else if a2 = 1 then pX0_sumOverLines_3 u1 w1 else if a2 = 2 then pX0_sumOverLines_4 u1 w1 else w1 11
theorem if4 {c1 c2 c3 : Prop} [Decidable c1] [Decidable c2] [Decidable c3] {a b c d : Int32} {X : Nat → Nat → Int32} {Y : Nat → Int32} : (if c1 then (a, X, Y) else if c2 then (b, X, Y) else if c3 then (c, X, Y) else (d, X, Y)).1 = if c1 then a else if c2 then b else if c3 then c else d := by
  (repeat' split) <;> rfl
theorem days_ind {n : Nat} (hn : n ≤ 30) (a2 : Int32) : ∀ (k j B : Nat) (u1 : Nat → Nat → Int32) (w1 : Nat → Int32), B + 2 * (n - j) < 900000 → j ≤ n → n < j + k → CI B u1 w1 → ∃ u2 w2, DR (B + 2 * (n - j)) u1 w1 u2 w2 ∧ (pX6_ifDays_L34 rt sg pw rd u w h r v tu tw su sw g (nI n) a2 k (nI j) u1 w1).1 = dV a2 u2 w2 := by
  intro k
  induction k with
  | zero => intro j B u1 w1 _ h1 h2; omega
  | succ k ih =>
    intro j B u1 w1 hB h1 h2 H
    rw [pX6_ifDays_L34_s]
    by_cases c : n ≤ j
    · rw [if_pos (nI_le c (by omega)), if4]
      refine ⟨u1, w1, ?_, rfl⟩
      have := DR_rf H
      rw [show B + 2 * (n - j) = B by omega]
      exact this
    · rw [if_neg (nI_ge (by omega) (by omega)), nI_1]
      obtain ⟨d1, -⟩ := day_DR H
      obtain ⟨u2, w2, d2, e⟩ := ih (j + 1) (B + 2) _ _ (by omega) (by omega) (by omega) d1.1
      refine ⟨u2, w2, ?_, e⟩
      rw [show B + 2 * (n - j) = B + 2 + 2 * (n - (j + 1)) by omega]
      exact DR_tr (by omega) (by omega) d1 d2
theorem days_all (hB : B < 800000) (H : CI B u w) {n : Nat} (h1 : 1 ≤ n) (hn : n ≤ 30) {a2 : Int32} (ha : ¬ pX6_isWithin a2 0 3 = 0) : ∃ u2 w2, DR (B + 2 * n) u w u2 w2 ∧ (pX6_ifDays rt sg pw rd u w h r v tu tw su sw g (nI n) a2).1 = dV a2 u2 w2 := by
  have hw : ∀ n, n < 31 → 1 ≤ n → ¬ pX6_isWithin (nI n) 1 30 = 0 := by decide +kernel
  unfold pX6_ifDays
  rw [if_neg (hw n (by omega) h1), if_neg ha]
  exact days_ind hn a2 31 0 B u w (by omega) (by omega) (by omega) H
theorem day_one (a2 : Int32) (ha : ¬ pX6_isWithin a2 0 3 = 0) : (pX6_ifDays rt sg pw rd u w h r v tu tw su sw g 1 a2).1 = dV a2 (pX0_passDay u w).1 (pX0_passDay u w).2 := by
  unfold pX6_ifDays
  rw [if_neg (by decide), if_neg ha, show pX0_copyFrom tu tw u w = (u, w) from rfl, pX6_ifDays_L34_s, if_neg (by decide), pX6_ifDays_L34_s, if_pos (by decide), if4]
  unfold dV
  dsimp only
end ID
