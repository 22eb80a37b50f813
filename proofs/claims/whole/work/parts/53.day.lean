/-! ===== a day ===== -/
theorem ones2 (x : Int32) {k : Nat} (hk : k < 28) : ∃ d, d ≤ 2 ∧ pX7_ones (x &&& pX4_roofsOf (nI k)) = nI d := by
  have t : ∀ k, k < 28 → fb_ct (bt (pX4_roofsOf (nI k))) 16 ≤ 2 := by decide +kernel
  refine ⟨_, Nat.le_trans (fb_ct_sub (fun i _ h => ?_)) (t k hk), ones_ct _⟩
  rw [b_and, Bool.and_eq_true] at h
  exact h.2
def sDay (s : Nat → Int32) (k : Nat) (a c : Int32) : Nat → Int32 := upd (upd s (30 + 4 * k + 2) (s (30 + 4 * k + 2) + a)) (30 + 4 * k + 3) (s (30 + 4 * k + 3) + c)
theorem sDay_o {s : Nat → Int32} {k j : Nat} {a c : Int32} (h : j ≠ 30 + 4 * k + 2 ∧ j ≠ 30 + 4 * k + 3) : sDay s k a c j = s j := by
  unfold sDay
  rw [pk_un h.2, pk_un h.1]
section DAY
variable {N : Nat} {u : Nat → Nat → Int32} {w : Nat → Int32} {s : Nat → Int32} {m : Nat → Nat → Int32} {v : Nat → Int32} {k o : Nat}
theorem m7_dayS {n : Nat} (hn : n < 28) : pX7_goDay_L17 m v (n + 1) = (if pX7_hasLine (pX7_goDay_L17 m v n).1 (pX7_goDay_L17 m v n).2 (nI n) = 0 then ((pX7_goDay_L17 m v n).1, (pX7_goDay_L17 m v n).2) else (va_up (pX7_goDay_L17 m v n).1 0 (sDay ((pX7_goDay_L17 m v n).1 0) n (pX7_ones (pX7_smoke (va_up m 0 (upd (m 0) 0 (m 0 0 + (1 : Int32)))) v &&& pX4_roofsOf (nI n))) (if pX7_ofOwner (pX7_goDay_L17 m v n).1 (pX7_goDay_L17 m v n).2 (pX7_of (pX7_goDay_L17 m v n).1 (pX7_goDay_L17 m v n).2 (nI n) 1 - (1 : Int32)) 2 = 0 then pX7_ones ((pX7_goDay_L17 m v n).1 0 9 &&& pX4_roofsOf (nI n)) else 0)), (pX7_goDay_L17 m v n).2)) := by
  rw [pX7_goDay_L17_s]
  generalize pX7_goDay_L17 m v n = z
  generalize pX7_smoke (va_up m 0 (upd (m 0) 0 (m 0 0 + (1 : Int32)))) v = S
  have l1 : ∀ X, pX7_lays z.1 z.2 (nI n) 2 X = (va_up z.1 0 (upd (z.1 0) (30 + 4 * n + 2) X), z.2) := fun X => lays_nI (k := 2) hn (by decide)
  have l3 : ∀ F X, pX7_lays (va_up z.1 0 F) z.2 (nI n) 3 X = (va_up z.1 0 (upd F (30 + 4 * n + 3) X), z.2) := fun F X => by
    have q : pX7_lays (va_up z.1 0 F) z.2 (nI n) 3 X = (va_up (va_up z.1 0 F) 0 (upd F (30 + 4 * n + 3) X), z.2) := lays_nI (k := 3) hn (by decide)
    rw [q, bx_uu]
  have o3 : ∀ F, pX7_of (va_up z.1 0 F) z.2 (nI n) 3 = F (30 + 4 * n + 3) := fun F => of_3 _ _ hn
  have e9 : ∀ F, (va_up z.1 0 F) 0 9 = F 9 := fun F => rfl
  have x3 : ∀ X, upd (z.1 0) (30 + 4 * n + 2) X (30 + 4 * n + 3) = z.1 0 (30 + 4 * n + 3) := fun X => pk_un (by omega)
  have x9 : ∀ X, upd (z.1 0) (30 + 4 * n + 2) X 9 = z.1 0 9 := fun X => pk_un (by omega)
  by_cases c1 : pX7_hasLine z.1 z.2 (nI n) = 0
  · rw [if_pos c1, if_pos c1]
  · rw [if_neg c1, if_neg c1]
    by_cases c2 : pX7_ofOwner z.1 z.2 (pX7_of z.1 z.2 (nI n) 1 - (1 : Int32)) 2 = 0
    · rw [if_pos c2, if_pos c2]
      simp only [l1, l3, o3, e9, x3, x9, of_2 z.1 z.2 hn, N_roofs _ _ n hn]
      rfl
    · rw [if_neg c2, if_neg c2]
      simp only [l1, l3, o3, e9, x3, x9, of_2 z.1 z.2 hn, N_roofs _ _ n hn]
      rfl
/-- a line soiled, on both sides -/
theorem RG_soil {N1 : Nat} {S : Int32} (h : RC N1 u w (m 0)) (hg : RG N u (m 0) k) (hN : N < 100000000) (hk : k < 28) (hS : M16 S) (hl : lnB (m 0) k = true) : RG (N + 2) (pX0_soilLine u w (nI k) S).1 (sDay (m 0) k (pX7_ones (S &&& pX4_roofsOf (nI k))) (if pX7_ofOwner m v (pX7_of m v (nI k) 1 - (1 : Int32)) 2 = 0 then pX7_ones (m 0 9 &&& pX4_roofsOf (nI k)) else 0)) k ∧ (∀ j, j < 4 → ∀ i, i ≠ k → (pX0_soilLine u w (nI k) S).1 j i = u j i) ∧ (∀ j, 4 ≤ j → (pX0_soilLine u w (nI k) S).1 j = u j) ∧ (pX0_soilLine u w (nI k) S).2 = w := by
  obtain ⟨b, l, a, c, e0, f0, b9, e1, f1, l4, e2, g⟩ := hg
  obtain ⟨h9, h10, h8m, h16, -⟩ := h.2.2
  have hl0 : l ≠ 0 := by
    intro z
    subst z
    unfold lnB at hl
    rw [f1] at hl
    exact absurd hl (by decide)
  obtain ⟨o, rfl⟩ : ∃ o, l = o + 1 := ⟨l - 1, by omega⟩
  have ho : o < 4 := by omega
  obtain ⟨x1, x2, x3, x4, x5, x6⟩ := e2 hl0
  obtain ⟨-, -, -, -, e8⟩ := h.2.1 o ho
  have hgo : hg (o + 1) = nI o := nI_pred o
  have hh : u 1 k = nI o := e1.trans hgo
  have tr : pX7_ofOwner m v (pX7_of m v (nI k) 1 - (1 : Int32)) 2 = pX6_isIn (w 8) (nI o) := by
    rw [of_1 m v hk, f1, nI_pred]
    exact (ow_k (j := 2) m v ho (by decide)).trans e8
  obtain ⟨d1, hd1, q1⟩ := ones2 S hk
  obtain ⟨d2, hd2, q2⟩ := ones2 (m 0 9) hk
  have p1 : pJ6_bitCount_0f7a4 (S &&& pX4_roofsOf (nI k)) = nI d1 := (ones_eq (M16_and hS)).trans q1
  have p2 : pJ6_bitCount_0f7a4 (w 10 &&& pX4_roofsOf (nI k)) = nI d2 := by rw [h10]; exact (ones_eq (M16_and h16)).trans q2
  unfold pX0_soilLine
  rw [tr, q1, q2, nI_clamp (show k < 2 ^ 31 by omega), hh, p1, p2]
  have s2 : ∀ z, sDay (m 0) k (nI d1) z (30 + 4 * k + 2) = nI (a + d1) := fun z => by
    unfold sDay
    rw [pk_un (by omega), pk_us, x2, nI_add]
  by_cases t : pX6_isIn (w 8) (nI o) = 0
  · rw [if_pos t, if_pos t]
    refine ⟨⟨b, o + 1, a + d1, c + d2, e0, ?_, b9, e1, ?_, l4, fun _ => ⟨?_, s2 _, by omega, ?_, ?_, by omega⟩, g⟩, fun j hj i hi => ?_, fun j hj => ?_, rfl⟩
    · rw [sDay_o (by omega)]
      exact f0
    · rw [sDay_o (by omega)]
      exact f1
    · exact pk_us.trans (by rw [x1, nI_add])
    · exact pk_us.trans (by rw [x4, nI_add])
    · unfold sDay
      rw [pk_us, x5, nI_add]
    · rcases (show j = 0 ∨ j = 1 ∨ j = 2 ∨ j = 3 by omega) with rfl | rfl | rfl | rfl
      · rfl
      · rfl
      · exact pk_un hi
      · exact pk_un hi
    · dsimp only
      rw [va_up_ne _ _ (by omega), va_up_ne _ _ (by omega)]
  · rw [if_neg t, if_neg t]
    refine ⟨⟨b, o + 1, a + d1, c, e0, ?_, b9, e1, ?_, l4, fun _ => ⟨?_, s2 _, by omega, x4, ?_, by omega⟩, g⟩, fun j hj i hi => ?_, fun j hj => ?_, rfl⟩
    · rw [sDay_o (by omega)]
      exact f0
    · rw [sDay_o (by omega)]
      exact f1
    · exact pk_us.trans (by rw [x1, nI_add])
    · unfold sDay
      rw [pk_us, x5]
      exact Int32.add_zero _
    · rcases (show j = 0 ∨ j = 1 ∨ j = 2 ∨ j = 3 by omega) with rfl | rfl | rfl | rfl
      · rfl
      · rfl
      · exact pk_un hi
      · rfl
    · dsimp only
      rw [va_up_ne _ _ (by omega)]
def DI (N : Nat) (u : Nat → Nat → Int32) (w1 : Nat → Int32) (s1 v : Nat → Int32) (n : Nat) (zc zm : (Nat → Nat → Int32) × (Nat → Int32)) : Prop := (∀ k, k < 28 → RG (if k < n then N + 2 else N) zc.1 (zm.1 0) k) ∧ (∀ j, 4 ≤ j → zc.1 j = u j) ∧ zc.2 = w1 ∧ zm.2 = v ∧ (∀ j, j < 30 → zm.1 0 j = s1 j)
theorem DI_RC {w1 s1 : Nat → Int32} {n : Nat} {zc zm : (Nat → Nat → Int32) × (Nat → Int32)} (h : RC N u w1 s1) (d : DI N u w1 s1 v n zc zm) : RC (N + 2) zc.1 zc.2 (zm.1 0) := by
  obtain ⟨d1, d2, d3, d4, d5⟩ := d
  refine ⟨fun k hk => RG_c (d1 k hk) (by split <;> omega) rfl rfl rfl rfl (fun _ _ => rfl), fun o ho => RW_c (h.2.1 o ho) (fun j hj => by rw [d2 j hj]) (by rw [d3]) (fun j hj => d5 _ (by omega)), RS_c h.2.2 (fun j _ => by rw [d3]) (fun j hj => d5 j (by omega))⟩
theorem RC_13 (h : RC N u w s) : RC N u (va_up w 13 (w 13 + (1 : Int32))) (upd s 0 (s 0 + (1 : Int32))) := by
  refine RC_sc h rfl (fun j hj => pk_un (by omega)) ?_
  obtain ⟨h9, h10, a, b, c, d, h13, h14, h15, h16, h17, h18, t⟩ := h.2.2
  exact ⟨h9, h10, a, b, c, d, (by show w 13 + (1 : Int32) = s 0 + (1 : Int32); rw [h13]), h14, h15, h16, h17, h18, t⟩
theorem day_loop (h : RC N u w (m 0)) (hN : N < 100000000) : ∀ n, n ≤ 28 → DI N u (va_up w 13 (w 13 + (1 : Int32))) (upd (m 0) 0 (m 0 0 + (1 : Int32))) v n (pX0_passDay_L21 u w n) (pX7_goDay_L17 m v n) := by
  have h1 : RC N u (va_up w 13 (w 13 + (1 : Int32))) ((va_up m 0 (upd (m 0) 0 (m 0 0 + (1 : Int32)))) 0) := RC_13 h
  have h1' : RC N u (va_up w 13 (w 13 + (1 : Int32))) (upd (m 0) 0 (m 0 0 + (1 : Int32))) := RC_13 h
  have eS : pX0_smokeBlown u (va_up w 13 (w 13 + (1 : Int32))) (w 11) = pX7_smoke (va_up m 0 (upd (m 0) 0 (m 0 0 + (1 : Int32)))) v := e_smokeNow (v := v) h1
  have mS : M16 (pX0_smokeBlown u (va_up w 13 (w 13 + (1 : Int32))) (w 11)) := smokeNow16 h1
  intro n
  induction n with
  | zero =>
    intro _
    rw [pX0_passDay_L21_0, pX7_goDay_L17_0]
    exact ⟨fun k hk => by rw [if_neg (Nat.not_lt_zero k)]; exact h1'.1 k hk, fun _ _ => rfl, rfl, rfl, fun _ _ => rfl⟩
  | succ n ih =>
    intro hn
    have hk : n < 28 := by omega
    have d := ih (by omega)
    have hr := DI_RC h1' d
    rw [pX0_passDay_L21_s, m7_dayS hk, eS]
    rw [eS] at mS
    generalize pX0_passDay_L21 u w n = zc at d hr ⊢
    generalize pX7_goDay_L17 m v n = zm at d hr ⊢
    generalize pX7_smoke (va_up m 0 (upd (m 0) 0 (m 0 0 + (1 : Int32)))) v = S at mS ⊢
    obtain ⟨d1, d2, d3, d4, d5⟩ := d
    by_cases ln : lnB (zm.1 0) n = false
    · rw [if_pos ((r6_line hr hk).mpr ln), if_pos ((r7_line hr hk).mpr ln)]
      exact ⟨fun k hk2 => RG_c (d1 k hk2) (by split <;> split <;> omega) rfl rfl rfl rfl (fun _ _ => rfl), d2, d3, d4, d5⟩
    · rw [if_neg (fun z => ln ((r6_line hr hk).mp z)), if_neg (fun z => ln ((r7_line hr hk).mp z))]
      have dn := d1 n hk
      rw [if_neg (Nat.lt_irrefl n)] at dn
      obtain ⟨g1, g2, g3, g4⟩ := RG_soil (v := zm.2) hr dn hN hk mS (bf.mp ln)
      refine ⟨fun k hk2 => ?_, fun j hj => (g3 j hj).trans (d2 j hj), g4.trans d3, d4, fun j hj => ?_⟩
      · by_cases e : k = n
        · subst e
          rw [if_pos (Nat.lt_succ_self k)]
          exact g1
        · have q : (if k < n + 1 then N + 2 else N) = (if k < n then N + 2 else N) := by
            by_cases c : k < n
            · rw [if_pos c, if_pos (by omega)]
            · rw [if_neg c, if_neg (by omega)]
          rw [q]
          exact RG_c (d1 k hk2) (Nat.le_refl _) (g2 0 (by decide) k e) (g2 1 (by decide) k e) (g2 2 (by decide) k e) (g2 3 (by decide) k e) (fun j hj => sDay_o (by omega))
      · exact (sDay_o (by omega)).trans (d5 j hj)
theorem RC_14 (h : RC N u w s) (x : Int32) : RC N u (va_up w 14 x) (upd s 3 x) := by
  refine RC_sc h rfl (fun j hj => pk_un (by omega)) ?_
  obtain ⟨h9, h10, a, b, c, d, h13, h14, h15, h16, h17, h18, t⟩ := h.2.2
  exact ⟨h9, h10, a, b, c, d, h13, rfl, h15, h16, h17, h18, t⟩
theorem RC_11 (h : RC N u w s) {d : Nat} (hd : d < 4) : RC N u (va_up w 11 (nI d)) (upd s 1 (nI d)) := by
  refine RC_sc h rfl (fun j hj => pk_un (by omega)) ?_
  obtain ⟨h9, h10, a, b, c, d2, h13, h14, h15, h16, h17, h18, t⟩ := h.2.2
  exact ⟨h9, h10, a, b, ⟨d, hd, rfl, rfl⟩, d2, h13, h14, h15, h16, h17, h18, t⟩
theorem turn_nI {d : Nat} (hd : d < 4) : (nI d + (1 : Int32)) - (nI d + (1 : Int32)) / (4 : Int32) * (4 : Int32) = nI ((d + 1) % 4) := by
  rw [nI_1, show (4 : Int32) = nI 4 from rfl, pk_rem (by omega) (by decide) (by decide)]
theorem day_end {zc zm : (Nat → Nat → Int32) × (Nat → Int32)} (h : RC N zc.1 zc.2 (zm.1 0)) : ∀ x y : Int32, zc.2 14 = zm.1 0 3 → x = y →
    RC N zc.1 (if x - x / (4 : Int32) * (4 : Int32) = 0 then va_up (va_up zc.2 14 x) 11 ((zc.2 11 + (1 : Int32)) - (zc.2 11 + (1 : Int32)) / (4 : Int32) * (4 : Int32)) else va_up zc.2 14 x) (upd (upd (zm.1 0) 3 y) 1 (if y - y / (4 : Int32) * (4 : Int32) = 0 then ((zm.1 0 1 + (1 : Int32)) - (zm.1 0 1 + (1 : Int32)) / (4 : Int32) * (4 : Int32)) else zm.1 0 1)) := by
  intro x y _ e
  subst e
  obtain ⟨-, -, -, -, ⟨d, hd, h11, h1⟩, -⟩ := h.2.2
  by_cases c : x - x / (4 : Int32) * (4 : Int32) = 0
  · rw [if_pos c, if_pos c, h11, h1, turn_nI hd]
    exact RC_11 (RC_14 h x) (Nat.mod_lt _ (by decide))
  · rw [if_neg c, if_neg c]
    refine RC_cg (RC_14 h x) (Nat.le_refl _) (fun j _ => ?_)
    by_cases e : j = 1
    · subst e
      exact pk_us.trans (pk_un (by decide)).symm
    · exact pk_un e
def lotN (x : Int32) : Int32 := ((421 : Int32) * x + (1663 : Int32)) - ((421 : Int32) * x + (1663 : Int32)) / (10000 : Int32) * (10000 : Int32)
theorem d6_if {α : Type} {c : Prop} [Decidable c] {a : α} {x y : Nat → Int32} : (if c then (a, x) else (a, y)) = (a, if c then x else y) := by split <;> rfl
theorem p6_day : pX0_passDay u w = ((pX0_passDay_L21 u w 28).1, if lotN ((pX0_passDay_L21 u w 28).2 14) - lotN ((pX0_passDay_L21 u w 28).2 14) / (4 : Int32) * (4 : Int32) = 0 then va_up (va_up (pX0_passDay_L21 u w 28).2 14 (lotN ((pX0_passDay_L21 u w 28).2 14))) 11 (((pX0_passDay_L21 u w 28).2 11 + (1 : Int32)) - ((pX0_passDay_L21 u w 28).2 11 + (1 : Int32)) / (4 : Int32) * (4 : Int32)) else va_up (pX0_passDay_L21 u w 28).2 14 (lotN ((pX0_passDay_L21 u w 28).2 14))) := by
  unfold pX0_passDay
  generalize pX0_passDay_L21 u w 28 = z
  exact d6_if
theorem p7_day : (pX7_goDay m v).2.1 = va_up (pX7_goDay_L17 m v 28).1 0 (upd (upd ((pX7_goDay_L17 m v 28).1 0) 3 (lotN ((pX7_goDay_L17 m v 28).1 0 3))) 1 (if lotN ((pX7_goDay_L17 m v 28).1 0 3) - lotN ((pX7_goDay_L17 m v 28).1 0 3) / (4 : Int32) * (4 : Int32) = 0 then (((pX7_goDay_L17 m v 28).1 0 1 + (1 : Int32)) - ((pX7_goDay_L17 m v 28).1 0 1 + (1 : Int32)) / (4 : Int32) * (4 : Int32)) else (pX7_goDay_L17 m v 28).1 0 1)) ∧ (pX7_goDay m v).1 = pX7_cleanNow (pX7_goDay m v).2.1 (pX7_goDay m v).2.2 ∧ (pX7_goDay m v).2.2 = (pX7_goDay_L17 m v 28).2 := by
  unfold pX7_goDay
  generalize pX7_goDay_L17 m v 28 = z
  have e1 : upd (z.1 0) 3 (lotN (z.1 0 3)) 3 = lotN (z.1 0 3) := pk_us
  have e2 : upd (z.1 0) 3 (lotN (z.1 0 3)) 1 = z.1 0 1 := pk_un (by decide)
  unfold lotN at e1 e2 ⊢
  rw [e1, e2]
  split
  · exact ⟨rfl, rfl, rfl⟩
  · exact ⟨rfl, rfl, rfl⟩
theorem w_day (h : RC N u w (m 0)) (hN : N < 100000000) : RC (N + 2) (pX0_passDay u w).1 (pX0_passDay u w).2 ((pX7_goDay m v).2.1 0) ∧ (pX7_goDay m v).1 = pX7_cleanNow (pX7_goDay m v).2.1 (pX7_goDay m v).2.2 ∧ (pX7_goDay m v).2.2 = v := by
  have d := day_loop (v := v) h hN 28 (Nat.le_refl _)
  have hr := DI_RC (RC_13 h) d
  have dv := d.2.2.2.1
  obtain ⟨f1, f2, f3⟩ := p7_day (m := m) (v := v)
  refine ⟨?_, f2, f3.trans dv⟩
  rw [p6_day, f1]
  clear d f1 f2 f3 dv
  generalize pX0_passDay_L21 u w 28 = zc at hr ⊢
  generalize pX7_goDay_L17 m v 28 = zm at hr ⊢
  obtain ⟨-, -, -, -, -, -, -, h14, -⟩ := hr.2.2
  rw [h14]
  generalize lotN (zm.1 0 3) = x
  exact day_end hr x x h14 rfl
end DAY
