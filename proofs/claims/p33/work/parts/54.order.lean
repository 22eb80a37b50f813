/-! ===== one order carried out ===== -/
def OO (B : Nat) (w : Nat → Int32) (C : Int32 × (Nat → Nat → Int32) × (Nat → Int32)) : Prop := CI (B + 2) C.2.1 C.2.2 ∧ ((C.1 = 0 ∧ C.2.2 18 = w 18) ∨ (C.1 = -2 ∧ C.2.2 18 = w 18) ∨ (∃ n, 1 ≤ n ∧ n ≤ 9 ∧ C.1 = nI n ∧ C.2.2 18 = w 18 + (1 : Int32)))
theorem ca_ge {n : Nat} (h : 10 ≤ n) (h1 : n < 1000000000) : pX6_causeIn (nI n) = 0 := by
  unfold pX6_causeIn
  exact if_neg (nI_nlt (b := 10) (by omega) (by omega))
theorem ca_lt {n : Nat} (h : n ≤ 9) : pX6_causeIn (nI n) = nI n := by
  unfold pX6_causeIn
  exact if_pos (nI_lt (b := 10) (by omega) (by omega))
theorem ca_0 {C : Int32 × (Nat → Nat → Int32) × (Nat → Int32)} {B : Nat} {w : Nat → Int32} {a : Int32} {u1 : Nat → Nat → Int32} {w1 : Nat → Int32} (e : C = (a, u1, w1)) (H : CI (B + 2) u1 w1) (h : (a = 0 ∧ w1 18 = w 18) ∨ (a = -2 ∧ w1 18 = w 18) ∨ (∃ n, 1 ≤ n ∧ n ≤ 9 ∧ a = nI n ∧ w1 18 = w 18 + (1 : Int32))) : OO B w C := by
  subst e
  exact ⟨H, h⟩
section OR
variable {rt : (Nat → Int32)} {sg : (Nat → Nat → Int32)} {pw : (Nat → Int32)} {rd : (Nat → Int32)} {u : (Nat → Nat → Int32)} {w : (Nat → Int32)} {h : (Nat → (Nat → Nat → Int32) × (Nat → Int32))} {r : Nat} {v : (Nat → Int32)} {tu : (Nat → Nat → Int32)} {tw : (Nat → Int32)} {su : (Nat → Nat → Int32)} {sw : (Nat → Int32)} {g : (Nat → Nat → Int32)} {B o k : Nat}
theorem w18 {d : Int32} : va_up w 18 d 18 = d := rfl
theorem hang_OO (H : CI B u w) (ho : o < 4) (hk : k < 28) : OO B w (pX6_causeIn (pX0_hangLine u w (nI o) (nI k)).1, (pX0_hangLine u w (nI o) (nI k)).2.1, (pX0_hangLine u w (nI o) (nI k)).2.2) := by
  obtain ⟨a1, a2⟩ := hang_eq H ho hk
  obtain ⟨n, hn, en, -, -⟩ := rh_val (u := u) (w := w) (nI o) (nI k)
  have l28 := ct29 (ln u)
  by_cases c : pX0_reasonNotToHang u w (nI o) (nI k) = 0
  · obtain ⟨e, ht, hl⟩ := a1 c
    rw [e]
    exact ca_0 rfl (CI_mono (by omega) (CI_hang H ho hk ht hl)) (Or.inl ⟨ca_ge (by omega) (by omega), rfl⟩)
  · rw [a2 c, en]
    have n0 : n ≠ 0 := fun z => c (by rw [en, z]; rfl)
    exact ca_0 rfl (CI_mono (by omega) (CI_ref H)) (Or.inr (Or.inr ⟨n, by omega, by omega, ca_lt (by omega), rfl⟩))
theorem take_OO (H : CI B u w) (hB : B < 1000000) (hk : k < 28) (hg : gw k = true) : OO B w (pX6_causeIn (pX0_takeLine u w (nI o) (nI k)).1, (pX0_takeLine u w (nI o) (nI k)).2.1, (pX0_takeLine u w (nI o) (nI k)).2.2) := by
  unfold pX0_takeLine
  rw [nI_clamp (by omega)]
  by_cases c : ln u k = false
  · rw [if_pos ((hl_iff hk).mpr c)]
    exact ca_0 rfl (CI_mono (by omega) (CI_ref H)) (Or.inr (Or.inr ⟨6, by decide, by decide, rfl, rfl⟩))
  · rw [if_neg (fun q => c ((hl_iff hk).mp q))]
    by_cases c2 : u 1 k = nI o
    · rw [if_pos c2]
      obtain ⟨-, ⟨a, ha, ea⟩, ⟨b, hb, eb⟩⟩ := H.1 k hk
      refine ca_0 rfl (CI_mono (by omega) (CI_take H hk (bf.mp c))) (Or.inl ⟨?_, rfl⟩)
      rw [ea, eb, show (10 : Int32) = nI 10 from rfl, nI_add, nI_add]
      exact ca_ge (by omega) (by omega)
    · rw [if_neg c2]
      exact ca_0 rfl (CI_mono (by omega) (CI_ref H)) (Or.inr (Or.inr ⟨7, by decide, by decide, rfl, rfl⟩))
theorem walk_OO (H : CI B u w) (ho : o < 4) (hk : k < 28) (hg : gw k = true) (hs : ¬ pX0_standsAt u w (nI o) (nI k) = 0) : OO B w (pX6_causeIn (pX0_walkOver u w (nI o) (nI k)).1, (pX0_walkOver u w (nI o) (nI k)).2.1, (pX0_walkOver u w (nI o) (nI k)).2.2) := by
  obtain ⟨-, ⟨p, hp, ep⟩, -⟩ := H.2.1 o ho
  have est : pX0_standsAt u w (nI o) (nI k) = 0 ↔ ¬ (p = lsN k ∨ p = grN k) := by
    unfold pX0_standsAt
    rw [nI_clamp (by omega), ep, isIn_0 _ (by omega), roofs_bt hk, ← bt_f, Bool.or_eq_true_iff, decide_eq_true_iff, decide_eq_true_iff]
  have c : p = lsN k ∨ p = grN k := Decidable.byContradiction fun z => hs (est.mpr z)
  obtain ⟨t1, t2, t3⟩ := T_oth k hk hg p hp c
  unfold pX0_walkOver
  rw [nI_clamp (by omega), ep, t1]
  have hv : pX0_reasonNotToWalk u w (nI o) (nI k) (nI (lsN k + grN k - p)) = 0 ∨ ∃ n, 1 ≤ n ∧ n ≤ 9 ∧ pX0_reasonNotToWalk u w (nI o) (nI k) (nI (lsN k + grN k - p)) = nI n := by
    unfold pX0_reasonNotToWalk
    (repeat' split) <;> first
      | exact Or.inl rfl
      | exact Or.inr ⟨1, by decide, by decide, rfl⟩
      | exact Or.inr ⟨3, by decide, by decide, rfl⟩
      | exact Or.inr ⟨9, by decide, by decide, rfl⟩
      | exact Or.inr ⟨8, by decide, by decide, rfl⟩
  rcases hv with y | ⟨n, n1, n2, en⟩
  · rw [if_pos y]
    refine ca_0 rfl (CI_mono (by omega) (CI_walk H ho t3)) (Or.inl ⟨?_, rfl⟩)
    rw [show (10 : Int32) = nI 10 from rfl, nI_add]
    exact ca_ge (by omega) (by omega)
  · rw [en, if_neg (nI_ne0 (by omega) (by omega))]
    exact ca_0 rfl (CI_mono (by omega) (CI_ref H)) (Or.inr (Or.inr ⟨n, n1, n2, ca_lt n2, rfl⟩))
theorem chim_OO (H : CI B u w) {q : Nat} (hq : q < 16) : OO B w (0, (pX0_toggleChimney u w (nI q)).1, (pX0_toggleChimney u w (nI q)).2) := by
  unfold pX0_toggleChimney
  obtain ⟨m9, m10, b, c, d1, d2, d3⟩ := H.2.2.2
  exact ca_0 rfl (CI_mono (by omega) (CI_w H rfl rfl rfl ⟨M16_xor m9 (M16_shl hq), m10, b, c, d1, d2, d3⟩)) (Or.inl ⟨rfl, rfl⟩)
theorem day_OO (H : CI B u w) : OO B w (0, (pX0_passDay u w).1, (pX0_passDay u w).2) := by
  obtain ⟨d1, d2⟩ := day_DR H
  exact ca_0 rfl d1.1 (Or.inl ⟨rfl, d1.2.2.2 18 (by decide) (by decide) (by decide)⟩)
theorem gS {k : Nat} (h : ¬ pS_isGangway (nI k) = 0) : gw k = true := bf.mp fun z => h (by rw [← isG_eq]; exact gw_iff.mpr z)
def RD (rd : Nat → Int32) : Prop := ((rd 3 = 104 ∨ rd 3 = 116 ∨ rd 3 = 119) ∧ ∃ o k, o < 4 ∧ k < 28 ∧ gw k = true ∧ rd 4 = nI o ∧ rd 5 = nI k) ∨ (rd 3 = 99 ∧ ∃ k, k < 16 ∧ rd 5 = nI k) ∨ rd 3 = 100
theorem order_OO (H : CI B u w) (hB : B < 1000000) (hd : RD rd) : OO B w (pX6_carryOutOrder rt sg pw rd u w h r v tu tw su sw g) := by
  unfold pX6_carryOutOrder
  rcases hd with ⟨hl, o, k, ho, hk, hg, e4, e5⟩ | ⟨hl, k, hk, e5⟩ | hl
  · have n99 : ¬ rd 3 = 99 := by rcases hl with z | z | z <;> rw [z] <;> decide
    rw [if_neg n99, e4, e5]
    by_cases c1 : rd 3 = 104
    · rw [if_pos c1]
      exact hang_OO H ho hk
    · rw [if_neg c1]
      by_cases c2 : rd 3 = 116
      · rw [if_pos c2]
        exact take_OO H hB hk hg
      · rw [if_neg c2, if_pos ((hl.resolve_left c1).resolve_left c2)]
        by_cases c4 : pX0_standsAt u w (nI o) (nI k) = 0
        · rw [if_pos c4]
          exact ca_0 rfl (CI_mono (by omega) H) (Or.inr (Or.inl ⟨rfl, rfl⟩))
        · rw [if_neg c4]
          exact walk_OO H ho hk hg c4
  · rw [if_pos hl, e5]
    exact chim_OO H hk
  · rw [if_neg (by rw [hl]; decide), if_neg (by rw [hl]; decide), if_neg (by rw [hl]; decide), if_neg (by rw [hl]; decide)]
    exact day_OO H
end OR
