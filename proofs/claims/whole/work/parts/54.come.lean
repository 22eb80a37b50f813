/-! ===== closures: which roofs can be come to ===== -/
def lsN (g : Nat) : Nat := if g < 16 then g else g - 16
def grN (g : Nat) : Nat := if g < 16 then g + 1 else g - 12
theorem N_ls : ∀ g, g < 28 → pX4_lesserRoof (nI g) = nI (lsN g) ∧ pX4_greaterRoof (nI g) = nI (grN g) ∧ lsN g < 32 ∧ grN g < 32 := by decide +kernel
theorem N_ls7 : ∀ g, g < 28 → pX7_lesserOf (nI g) = nI (lsN g) ∧ pX7_greaterOf (nI g) = nI (grN g) := by decide +kernel
theorem N_ls16 : ∀ g, g < 28 → ¬ pX7_isGangway (nI g) = 0 → lsN g < 16 ∧ grN g < 16 := by decide +kernel
theorem roofs_bt {g : Nat} (hg : g < 28) (i : Nat) : bt (pX4_roofsOf (nI g)) i = (decide (i = lsN g) || decide (i = grN g)) := by
  obtain ⟨e1, e2, h1, h2⟩ := N_ls g hg
  unfold pX4_roofsOf
  rw [e1, e2, b_or, bt_shl h1, bt_shl h2]
/-- the gangways that bear so much -/
def EE (s : Nat → Int32) (t g : Nat) : Prop := ¬ pX7_isGangway (nI g) = 0 ∧ nI t ≤ s (30 + 4 * g)
/-- what can be come to: in every set that holds the first and is closed under the gangways -/
def RR (E : Nat → Prop) (a b : Nat) : Prop := ∀ S : Nat → Prop, S a → (∀ g, g < 28 → E g → (S (lsN g) ↔ S (grN g))) → S b
theorem RR_rf (E : Nat → Prop) (a : Nat) : RR E a a := fun _ h _ => h
theorem RR_tr {E : Nat → Prop} {a b c : Nat} (h1 : RR E a b) (h2 : RR E b c) : RR E a c := fun S hs hc => h2 S (h1 S hs hc) hc
theorem RR_e1 {E : Nat → Prop} {g : Nat} (hg : g < 28) (he : E g) : RR E (lsN g) (grN g) := fun _ hs hc => (hc g hg he).mp hs
theorem RR_e2 {E : Nat → Prop} {g : Nat} (hg : g < 28) (he : E g) : RR E (grN g) (lsN g) := fun _ hs hc => (hc g hg he).mpr hs
theorem RR_sy {E : Nat → Prop} {a b : Nat} (h : RR E a b) : RR E b a := h (fun z => RR E z a) (RR_rf E a) (fun _ hg he => ⟨fun z => RR_tr (RR_e2 hg he) z, fun z => RR_tr (RR_e1 hg he) z⟩)
theorem RR_mono {E E' : Nat → Prop} {a b : Nat} (h : RR E a b) (hE : ∀ g, g < 28 → E g → E' g) : RR E' a b := fun S hs hc => h S hs (fun g hg he => hc g hg (hE g hg he))
theorem RR_16 {s : Nat → Int32} {t a b : Nat} (h : RR (EE s t) a b) (ha : a < 16) : b < 16 := h (fun z => z < 16) ha (fun g hg he => ⟨fun _ => (N_ls16 g hg he.1).2, fun _ => (N_ls16 g hg he.1).1⟩)
theorem SB_bt {x y : Int32} (h : SB x y) {k : Nat} (hk : bt x k = true) : bt y k = true := by
  unfold SB at h
  rw [← h, b_or, hk]
  rfl
theorem SB_an {x y : Int32} (h : SB x y) (h2 : SB y x) : x = y := b_ext (fun i _ => by
  cases hx : bt x i <;> cases hy : bt y i
  · rfl
  · rw [SB_bt h2 hy] at hx
    exact absurd hx (by decide)
  · rw [SB_bt h hx] at hy
    exact absurd hy (by decide)
  · rfl)
theorem ct_pos {P : Nat → Bool} {i n : Nat} (hi : i < n) (hp : P i = true) : 0 < fb_ct P n := by
  rcases Nat.eq_zero_or_pos (fb_ct P n) with q | q
  · rw [fb_ct_zero.mp q i hi] at hp
    exact absurd hp (by decide)
  · exact q
theorem ct_lt {x y : Int32} (h : SB x y) (hn : ¬ y = x) (hx : M16 x) (hy : M16 y) : fb_ct (bt x) 16 + 1 ≤ fb_ct (bt y) 16 := by
  have : ∃ i, i < 16 ∧ bt y i = true ∧ bt x i = false := by
    apply Classical.byContradiction
    intro hc
    refine hn (SB_an (x := y) (y := x) ?_ h)
    unfold SB
    refine b_ext (fun i hi => ?_)
    rw [b_or]
    cases h2 : bt y i
    · rfl
    · cases h3 : bt x i
      · exfalso
        refine hc ⟨i, ?_, h2, h3⟩
        rcases Nat.lt_or_ge i 16 with q | q
        · exact q
        · rw [hy i q] at h2
          exact absurd h2 (by decide)
      · rfl
  obtain ⟨i, hi, h2, h3⟩ := this
  have h4 := fb_ct_upd (bt x) true hi
  rw [h3] at h4
  have h5 : fb_ct (fun k => if k = i then true else bt x k) 16 ≤ fb_ct (bt y) 16 := fb_ct_sub (fun k hk hp => by
    by_cases e : k = i
    · rw [e]
      exact h2
    · rw [if_neg e] at hp
      exact SB_bt h hp)
  simp only [if_true, Bool.false_eq_true, if_false] at h4
  omega
section CO
variable {m : Nat → Nat → Int32} {v : Nat → Int32} {t r : Nat} {a1 x4 : Int32}
/-- one gangway of a pass -/
theorem ps_step {x : Int32} {n : Nat} (hn : n < 28) : pX7_comeTo_L18 m v a1 (nI t) x x4 (n + 1) = pX7_comeTo_L18 m v a1 (nI t) x x4 n ∧ (EE (m 0) t n → ∀ k, (k = lsN n ∨ k = grN n) → bt (pX7_comeTo_L18 m v a1 (nI t) x x4 n) k = false) ∨ EE (m 0) t n ∧ (bt (pX7_comeTo_L18 m v a1 (nI t) x x4 n) (lsN n) = true ∨ bt (pX7_comeTo_L18 m v a1 (nI t) x x4 n) (grN n) = true) ∧ pX7_comeTo_L18 m v a1 (nI t) x x4 (n + 1) = pX7_comeTo_L18 m v a1 (nI t) x x4 n ||| pX4_roofsOf (nI n) := by
  obtain ⟨-, -, hl, hr⟩ := N_ls n hn
  rw [pX7_comeTo_L18_s]
  generalize pX7_comeTo_L18 m v a1 (nI t) x x4 n = y
  rw [of_0 m v hn, N_roofs m v n hn]
  by_cases c1 : pX7_isGangway (nI n) = 0
  · rw [if_pos c1]
    exact Or.inl ⟨Int32.or_zero, fun h => absurd c1 h.1⟩
  · rw [if_neg c1]
    by_cases c2 : m 0 (30 + 4 * n) < nI t
    · rw [if_pos c2]
      exact Or.inl ⟨Int32.or_zero, fun h => absurd h.2 (Int32.not_le.mpr c2)⟩
    · rw [if_neg c2]
      by_cases c3 : y &&& pX4_roofsOf (nI n) = 0
      · rw [if_pos c3]
        refine Or.inl ⟨Int32.or_zero, fun _ k hk => ?_⟩
        cases h2 : bt y k
        · rfl
        · have h3 := (and_0 _ _).mp c3 k (by rcases hk with q | q <;> omega) h2
          rw [roofs_bt hn] at h3
          rcases hk with q | q
          · rw [decide_eq_true q] at h3
            exact absurd h3 (by simp)
          · rw [decide_eq_true q, Bool.or_true] at h3
            exact absurd h3 (by simp)
      · rw [if_neg c3]
        refine Or.inr ⟨⟨c1, Int32.not_lt.mp c2⟩, ?_, rfl⟩
        apply Classical.byContradiction
        intro hc
        refine c3 ((and_0 _ _).mpr (fun i _ h2 => ?_))
        rw [roofs_bt hn]
        by_cases q1 : i = lsN n
        · exact absurd (Or.inl (q1 ▸ h2)) hc
        · by_cases q2 : i = grN n
          · exact absurd (Or.inr (q2 ▸ h2)) hc
          · rw [decide_eq_false q1, decide_eq_false q2]
            rfl
theorem ps_grow {x : Int32} : ∀ d n, n + d ≤ 28 → SB (pX7_comeTo_L18 m v a1 (nI t) x x4 n) (pX7_comeTo_L18 m v a1 (nI t) x x4 (n + d)) := by
  intro d
  induction d with
  | zero => intro n _; exact SB_rf _
  | succ d ih =>
    intro n hn
    have h := ih n (by omega)
    rcases ps_step (m := m) (v := v) (t := t) (a1 := a1) (x4 := x4) (x := x) (n := n + d) (by omega) with ⟨e, _⟩ | ⟨_, _, e⟩
    · rw [show n + (d + 1) = n + d + 1 from rfl, e]
      exact h
    · rw [show n + (d + 1) = n + d + 1 from rfl, e]
      exact SB_or _ h
/-- what a pass leaves is closed -/
theorem ps_fix {x : Int32} (hf : pX7_comeTo_L18 m v a1 (nI t) x x4 28 = x) : ∀ g, g < 28 → EE (m 0) t g → (bt x (lsN g) = true ↔ bt x (grN g) = true) := by
  intro g hg he
  have at' : ∀ n, n ≤ 28 → pX7_comeTo_L18 m v a1 (nI t) x x4 n = x := fun n hn => by
    have h1 : SB x (pX7_comeTo_L18 m v a1 (nI t) x x4 n) := by
      have := ps_grow (m := m) (v := v) (t := t) (a1 := a1) (x4 := x4) (x := x) n 0 (by omega)
      rw [Nat.zero_add] at this
      exact this
    have h2 : SB (pX7_comeTo_L18 m v a1 (nI t) x x4 n) x := by
      have := ps_grow (m := m) (v := v) (t := t) (a1 := a1) (x4 := x4) (x := x) (28 - n) n (by omega)
      rw [show n + (28 - n) = 28 by omega, hf] at this
      exact this
    exact (SB_an h1 h2).symm
  rcases ps_step (m := m) (v := v) (t := t) (a1 := a1) (x4 := x4) (x := x) (n := g) hg with ⟨_, h⟩ | ⟨_, _, e⟩
  · have h := h he
    rw [at' g (by omega)] at h
    rw [h _ (Or.inl rfl), h _ (Or.inr rfl)]
  · rw [at' g (by omega), at' (g + 1) (by omega)] at e
    have h1 : bt x (lsN g) = true := by
      rw [e, b_or, roofs_bt hg, decide_eq_true rfl, Bool.true_or, Bool.or_true]
    have h2 : bt x (grN g) = true := by
      rw [e, b_or, roofs_bt hg, decide_eq_true (show grN g = grN g from rfl), Bool.or_true, Bool.or_true]
    rw [h1, h2]
theorem ps_sound {x : Int32} (hx : ∀ k, bt x k = true → RR (EE (m 0) t) r k) : ∀ n, n ≤ 28 → ∀ k, bt (pX7_comeTo_L18 m v a1 (nI t) x x4 n) k = true → RR (EE (m 0) t) r k := by
  intro n
  induction n with
  | zero => intro _ k h; exact hx k h
  | succ n ih =>
    intro hn k h
    have hg : n < 28 := by omega
    rcases ps_step (m := m) (v := v) (t := t) (a1 := a1) (x4 := x4) (x := x) (n := n) hg with ⟨e, _⟩ | ⟨he, hb, e⟩
    · rw [e] at h
      exact ih (by omega) k h
    · rw [e, b_or, Bool.or_eq_true, roofs_bt hg, Bool.or_eq_true] at h
      have hl : RR (EE (m 0) t) r (lsN n) := by
        rcases hb with q | q
        · exact ih (by omega) _ q
        · exact RR_tr (ih (by omega) _ q) (RR_e2 hg he)
      rcases h with h | h | h
      · exact ih (by omega) k h
      · rw [of_decide_eq_true h]
        exact hl
      · rw [of_decide_eq_true h]
        exact RR_tr hl (RR_e1 hg he)
theorem RR_fix {x : Int32} (hx : ∀ k, bt x k = true → RR (EE (m 0) t) r k) (h0 : bt x r = true) (hf : ∀ g, g < 28 → EE (m 0) t g → (bt x (lsN g) = true ↔ bt x (grN g) = true)) (k : Nat) : bt x k = true ↔ RR (EE (m 0) t) r k :=
  ⟨hx k, fun h => h (fun z => bt x z = true) h0 hf⟩
theorem ct_res : ∀ (k : Nat) (x : Int32), (∀ j, bt x j = true → RR (EE (m 0) t) r j) → bt x r = true → 4294967296 - tn x + 2 ≤ k → ∀ j, bt (pX7_comeTo_L7 m v a1 (nI t) k x 1) j = true ↔ RR (EE (m 0) t) r j := by
  intro k
  induction k with
  | zero => intro x _ _ h; omega
  | succ k ih =>
    intro x hx h0 hk j
    rw [pX7_comeTo_L7_s, if_neg (by decide)]
    by_cases c : pX7_comeTo_L18 m v a1 (nI t) x 1 28 = x
    · rw [if_pos c, c]
      obtain ⟨k, rfl⟩ : ∃ q, k = q + 1 := ⟨k - 1, by have := tn_ub x; omega⟩
      rw [pX7_comeTo_L7_s, if_pos rfl]
      exact RR_fix hx h0 (ps_fix c) j
    · rw [if_neg c]
      have hs : SB x (pX7_comeTo_L18 m v a1 (nI t) x 1 28) := ct_sub m v a1 (nI t) x 1 28
      have h1 := tn_lt hs c
      have h2 := tn_ub (pX7_comeTo_L18 m v a1 (nI t) x 1 28)
      exact ih _ (ps_sound hx 28 (Nat.le_refl _)) (SB_bt hs h0) (by omega) j
theorem st_sound {E : Nat → Prop} {r : Nat} (hr : r < 16) : ∀ k, bt ((1 : Int32) <<< (nI r &&& 31)) k = true → RR E r k := fun k h => by
  rw [bt_shl (by omega)] at h
  rw [of_decide_eq_true h]
  exact RR_rf E r
theorem comeTo_bt (hr : r < 16) (k : Nat) : bt (pX7_comeTo m v (nI r) (nI t)) k = true ↔ RR (EE (m 0) t) r k := by
  unfold pX7_comeTo
  refine ct_res FU _ (st_sound hr) (by rw [bt_shl (by omega), decide_eq_true rfl]) ?_ k
  unfold FU
  omega
/-- sixteen passes -/
def itP (m : Nat → Nat → Int32) (v : Nat → Int32) (t r : Nat) : Nat → Int32
  | 0 => (1 : Int32) <<< (nI r &&& 31)
  | n + 1 => pX7_comeTo_L18 m v 0 (nI t) (itP m v t r n) 1 28
theorem it_sound (hr : r < 16) : ∀ n k, bt (itP m v t r n) k = true → RR (EE (m 0) t) r k := by
  intro n
  induction n with
  | zero => exact st_sound hr
  | succ n ih => exact ps_sound ih 28 (Nat.le_refl _)
theorem it_M16 (hr : r < 16) (n : Nat) : M16 (itP m v t r n) := fun i hi => by
  cases h : bt (itP m v t r n) i
  · rfl
  · have := RR_16 (it_sound hr n i h) hr
    omega
theorem it_has (hr : r < 16) : ∀ n, bt (itP m v t r n) r = true := by
  intro n
  induction n with
  | zero => exact (bt_shl (by omega) r).trans (decide_eq_true rfl)
  | succ n ih => exact SB_bt (ct_sub m v 0 (nI t) _ 1 28) ih
theorem it_cnt (hr : r < 16) : ∀ n, itP m v t r (n + 1) = itP m v t r n ∨ n + 1 ≤ fb_ct (bt (itP m v t r n)) 16 := by
  intro n
  induction n with
  | zero =>
    refine Or.inr (Nat.succ_le_of_lt ?_)
    exact ct_pos hr (it_has hr 0)
  | succ n ih =>
    by_cases e : itP m v t r (n + 1) = itP m v t r n
    · refine Or.inl ?_
      show pX7_comeTo_L18 m v 0 (nI t) (itP m v t r (n + 1)) 1 28 = itP m v t r (n + 1)
      rw [e]
      exact e
    · rcases ih with q | q
      · exact absurd q e
      · refine Or.inr ?_
        have hs : SB (itP m v t r n) (itP m v t r (n + 1)) := ct_sub m v 0 (nI t) _ 1 28
        have := ct_lt hs e (it_M16 hr n) (it_M16 hr (n + 1))
        omega
theorem it_bt (hr : r < 16) (k : Nat) : bt (itP m v t r 16) k = true ↔ RR (EE (m 0) t) r k := by
  have hf : itP m v t r 17 = itP m v t r 16 := by
    rcases it_cnt (m := m) (v := v) (t := t) hr 16 with q | q
    · exact q
    · have := fb_ct_le (bt (itP m v t r 16)) 16
      omega
  exact RR_fix (it_sound hr 16) (it_has hr 16) (ps_fix hf) k
theorem it_come (hr : r < 16) : itP m v t r 16 = pX7_comeTo m v (nI r) (nI t) := b_ext (fun i _ => by
  have h1 := it_bt (m := m) (v := v) (t := t) hr i
  have h2 := comeTo_bt (m := m) (v := v) (t := t) hr i
  cases e1 : bt (itP m v t r 16) i <;> cases e2 : bt (pX7_comeTo m v (nI r) (nI t)) i
  · rfl
  · rw [h1.mpr (h2.mp e2)] at e1
    exact absurd e1 (by decide)
  · rw [h2.mpr (h1.mp e1)] at e2
    exact absurd e2 (by decide)
  · rfl)
end CO
section CO2
variable {N : Nat} {u : Nat → Nat → Int32} {w : Nat → Int32} {m : Nat → Nat → Int32} {v : Nat → Int32} {r : Nat} {G : Nat → Nat → Int32}
theorem th_E {s : Nat → Int32} {g : Nat} (h : RC N u w s) (hg : g < 28) : thB s g = true ↔ EE s 1 g := by
  obtain ⟨b, l, a, c, h1, h2, h3, h4, h5, h6, h7, h8⟩ := h.1 g hg
  unfold thB EE
  rw [h2]
  by_cases hb : b = 0
  · subst hb
    exact ⟨fun z => absurd z (by decide), fun z => absurd z.2 (by decide)⟩
  · rw [decide_eq_false (nI_ne0 (by omega) (by omega))]
    exact ⟨fun _ => ⟨fun z => hb (h8 z).1, nI_le (by omega) (by omega)⟩, fun _ => rfl⟩
theorem e_pass (h : RC N u w (m 0)) (a2 : Int32) (i : Nat) (x : Int32) : ∀ n, n ≤ 28 → pX5_roofsFrom_L17 G u w a2 i x n = pX7_comeTo_L18 m v 0 (nI 1) x 1 n := by
  intro n
  induction n with
  | zero => intro _; rw [pX5_roofsFrom_L17_0, pX7_comeTo_L18_0]
  | succ n ih =>
    intro hn
    have hk : n < 28 := by omega
    rw [pX5_roofsFrom_L17_s, pX7_comeTo_L18_s, ih (by omega), N_roofs m v n hk, of_0 m v hk]
    generalize pX7_comeTo_L18 m v 0 (nI 1) x 1 n = y
    have t1 := r6_there h hk
    have t2 := th_E h hk
    unfold EE at t2
    by_cases c : thB (m 0) n = false
    · rw [if_pos (t1.mpr c)]
      by_cases c1 : pX7_isGangway (nI n) = 0
      · rw [if_pos c1, Int32.or_zero]
      · rw [if_neg c1]
        by_cases c2 : m 0 (30 + 4 * n) < nI 1
        · rw [if_pos c2, Int32.or_zero]
        · have := t2.mpr ⟨c1, Int32.not_lt.mp c2⟩
          rw [c] at this
          exact absurd this (by decide)
    · obtain ⟨c1, c2⟩ := t2.mp (bf.mp c)
      rw [if_neg (fun z => c (t1.mp z)), if_neg c1, if_neg (Int32.not_lt.mpr c2), Int32.or_zero]
theorem e_from (h : RC N u w (m 0)) (hr : r < 16) : pX5_roofsFrom G u w (nI r) = pX7_comeTo m v (nI r) 1 := by
  have key : ∀ n, pX5_roofsFrom_L7 G u w (nI r) n = itP m v 1 r n := by
    intro n
    induction n with
    | zero => rfl
    | succ n ih =>
      rw [pX5_roofsFrom_L7_s, ih, e_pass (v := v) h _ _ _ 28 (Nat.le_refl _)]
      rfl
  exact (key 16).trans (it_come hr)
theorem e_roofs7 (h : RC N u w (m 0)) (hr : r < 16) : pJ6_bitCount_0f7a4 (pX5_roofsFrom G u w (nI r)) = pX7_ones (pX7_comeTo m v (nI r) 1) := by
  rw [e_from (v := v) h hr]
  refine ones_eq ?_
  have := it_M16 (m := m) (v := v) (t := 1) hr 16
  rw [it_come hr] at this
  exact this
/-! the fewest walks -/
theorem N_oth : ∀ i, i < 28 → ¬ pX7_isGangway (nI i) = 0 → pX4_greaterRoof (nI i) = pX7_otherOf (nI i) (pX7_lesserOf (nI i)) ∧ pX4_lesserRoof (nI i) = pX7_otherOf (nI i) (pX7_greaterOf (nI i)) := by decide +kernel
theorem e_further (h : RC N u w (m 0)) {o : Nat} (ho : o < 4) (x : Int32) : pX5_oneWalkFurther G u w (nI o) x = pX7_furtherFrom m v (nI o) x := by
  have key : ∀ n, n ≤ 28 → pX5_oneWalkFurther_L6 G u w (nI o) x n = pX7_furtherFrom_L5 m v (nI o) x n := by
    intro n
    induction n with
    | zero => intro _; rw [pX5_oneWalkFurther_L6_0, pX7_furtherFrom_L5_0]
    | succ n ih =>
      intro hn
      have hk : n < 28 := by omega
      rw [pX5_oneWalkFurther_L6_s, pX7_furtherFrom_L5_s, ih (by omega)]
      generalize pX7_furtherFrom_L5 m v (nI o) x n = y
      by_cases c : pX7_isGangway (nI n) = 0
      · rw [if_pos c]
        have e1 : ∀ a, ¬ pX0_reasonNotToWalk u w (nI o) (nI n) a = 0 := fun a => by
          unfold pX0_reasonNotToWalk
          rw [if_pos ((r6_there h hk).mpr (r_notG h hk c).1)]
          decide
        simp only [if_neg (e1 _), ite_self]
      · rw [if_neg c]
        obtain ⟨g1, g2⟩ := N_oth n hk c
        rw [e_walk (v := v) h ho hk _ _ g1, e_walk (v := v) h ho hk _ _ g2, N_les n hk, N_gre n hk]
        simp only [Int32.or_zero, N_isIn]
  exact key 28 (Nat.le_refl _)
theorem ff_M16 {o : Nat} {x : Int32} (hx : M16 x) : M16 (pX7_furtherFrom m v (nI o) x) := by
  have key : ∀ n, n ≤ 28 → M16 (pX7_furtherFrom_L5 m v (nI o) x n) := by
    intro n
    induction n with
    | zero => intro _; exact hx
    | succ n ih =>
      intro hn
      have hk : n < 28 := by omega
      have ih := ih (by omega)
      rw [pX7_furtherFrom_L5_s]
      generalize pX7_furtherFrom_L5 m v (nI o) x n = y at ih ⊢
      by_cases c : pX7_isGangway (nI n) = 0
      · rw [if_pos c]
        exact ih
      · rw [if_neg c]
        obtain ⟨h1, h2⟩ := N_ls16 n hk c
        obtain ⟨e1, e2⟩ := N_ls7 n hk
        rw [e1, e2]
        simp only [Int32.or_zero]
        (repeat' split) <;> first | exact ih | exact M16_or (M16_or ih (M16_shl h2)) (M16_shl h1) | exact M16_or ih (M16_shl h1) | exact M16_or ih (M16_shl h2)
  exact key 28 (Nat.le_refl _)
theorem fw_fix {o q : Nat} (h : RC N u w (m 0)) (ho : o < 4) {x : Int32} (hf : pX7_furtherFrom m v (nI o) x = x) (hn : pX6_isIn x (nI q) = 0) : ∀ k i, pX5_fewestWalks_L13 G u w (nI o) (nI q) k i x = -4 := by
  intro k
  induction k with
  | zero => intro i; rfl
  | succ k ih =>
    intro i
    rw [pX5_fewestWalks_L13_s, if_pos hn, e_further (v := v) h ho, hf]
    exact ih _
theorem e_stepsL (h : RC N u w (m 0)) {o q : Nat} (ho : o < 4) : ∀ (kc : Nat) (x : Int32) (i km : Nat), M16 x → 17 ≤ kc + fb_ct (bt x) 16 → 4294967296 - tn x + 1 ≤ km → pX5_fewestWalks_L13 G u w (nI o) (nI q) kc i x = pX7_stepsOf_L12 m v (nI o) (nI q) km x (nI i) := by
  intro kc
  induction kc with
  | zero =>
    intro x i km _ hc
    have := fb_ct_le (bt x) 16
    omega
  | succ kc ih =>
    intro x i km hx hc hk
    have hub := tn_ub x
    obtain ⟨km, rfl⟩ : ∃ z, km = z + 1 := ⟨km - 1, by omega⟩
    rw [pX5_fewestWalks_L13_s, pX7_stepsOf_L12_s, N_isIn]
    by_cases c : pX6_isIn x (nI q) = 0
    · rw [if_pos c, if_pos c, e_further (v := v) h ho]
      by_cases f : pX7_furtherFrom m v (nI o) x = x
      · rw [if_pos f, f]
        exact fw_fix (v := v) h ho f c _ _
      · rw [if_neg f, nI_1]
        have hs := ff_sub m v (nI o) x
        have h1 := tn_lt hs f
        have h2 := ct_lt hs f hx (ff_M16 hx)
        have h3 := tn_ub (pX7_furtherFrom m v (nI o) x)
        exact ih _ _ _ (ff_M16 hx) (by omega) (by omega)
    · rw [if_neg c, if_neg c]
theorem e_steps (h : RC N u w (m 0)) {o q : Nat} (ho : o < 4) : pX5_fewestWalks G u w (nI o) (nI q) = pX7_stepsOf m v (nI o) (nI q) := by
  obtain ⟨-, -, -, ⟨p, hp, e6, f6⟩, -⟩ := h.2.1 o ho
  unfold pX5_fewestWalks pX7_stepsOf
  rw [nI_clamp (show o < 2 ^ 31 by omega), e6, show pX7_ofOwner m v (nI o) 3 = nI p from (ow_k (j := 3) m v ho (by decide)).trans f6]
  refine e_stepsL h ho 16 _ 0 FU (M16_shl hp) ?_ ?_
  · have : 0 < fb_ct (bt ((1 : Int32) <<< (nI p &&& 31))) 16 := ct_pos hp (by rw [bt_shl (by omega), decide_eq_true rfl])
    omega
  · unfold FU
    omega
end CO2
