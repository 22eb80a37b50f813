/-! ===== what the class's city holds; what the reads say of it ===== -/
theorem nI_z {l : Nat} (h : l < 2147483648) : nI l = 0 ↔ l = 0 := nI_eq (b := 0) h (by decide)
theorem nI_lz {l : Nat} (h : l < 2147483648) : nI l ≤ 0 ↔ l = 0 := (nI_leI (b := 0) h (by decide)).trans Nat.le_zero
theorem nI_li {a b : Nat} (ha : a < 2147483648) (hb : b < 2147483648) : nI a < nI b ↔ a < b := ⟨fun z => by
  rcases Nat.lt_or_ge a b with q | q
  · exact q
  · exact absurd z (nI_nlt q ha), fun z => nI_lt z hb⟩
theorem nd_f {c : Prop} [Decidable c] : (!decide c) = false ↔ c := by
  by_cases h : c
  · rw [decide_eq_true h]
    exact ⟨fun _ => h, fun _ => rfl⟩
  · rw [decide_eq_false h]
    exact ⟨fun z => absurd z (by decide), fun z => absurd z h⟩
theorem nd_t {c : Prop} [Decidable c] : (!decide c) = true ↔ ¬ c := by
  by_cases h : c
  · rw [decide_eq_true h]
    exact ⟨fun z => absurd z (by decide), fun z => absurd h z⟩
  · rw [decide_eq_false h]
    exact ⟨fun _ => h, fun _ => rfl⟩
theorem if_01 {c : Prop} [Decidable c] : (if c then (0 : Int32) else 1) = 0 ↔ c := by
  by_cases h : c
  · rw [if_pos h]
    exact ⟨fun _ => h, fun _ => rfl⟩
  · rw [if_neg h]
    exact ⟨fun z => absurd z (by decide), fun z => absurd z h⟩
theorem if_10 {c : Prop} [Decidable c] : (if c then (1 : Int32) else 0) = 0 ↔ ¬ c := by
  by_cases h : c
  · rw [if_pos h]
    exact ⟨fun z => absurd z (by decide), fun z => absurd h z⟩
  · rw [if_neg h]
    exact ⟨fun _ => h, fun _ => rfl⟩
theorem if_i {α : Type} {c c' : Prop} [Decidable c] [Decidable c'] {a b : α} (h : c ↔ c') : (if c then a else b) = (if c' then a else b) := by
  by_cases q : c
  · rw [if_pos q, if_pos (h.mp q)]
  · rw [if_neg q, if_neg (fun z => q (h.mpr z))]
theorem nI_m1 {k : Nat} (h : k < 2147483648) : ¬ nI k = -1 := fun z => by
  have h1 := congrArg Int32.toInt z
  rw [nI_toInt h, show (-1 : Int32).toInt = -1 by decide] at h1
  omega
theorem nI_m4 {k : Nat} (h : k < 2147483648) : ¬ nI k = -4 := fun z => by
  have h1 := congrArg Int32.toInt z
  rw [nI_toInt h, show (-4 : Int32).toInt = -4 by decide] at h1
  omega
theorem nfa {b : Bool} : ¬ (false && b) = true := fun z => absurd z Bool.false_ne_true
theorem bf {b : Bool} : ¬ b = false ↔ b = true := by cases b <;> decide
theorem bt_f {b : Bool} : ¬ b = true ↔ b = false := by cases b <;> decide
def ln (u : Nat → Nat → Int32) (k : Nat) : Bool := !decide (u 1 k = -1)
def cl (u : Nat → Nat → Int32) (k : Nat) : Bool := ln u k && (decide (u 2 k = 0) && decide (u 3 k = 0))
def th (u : Nat → Nat → Int32) (k : Nat) : Bool := !decide (u 0 k ≤ 0)
def gw (k : Nat) : Bool := !decide (pX4_isGangway (nI k) = 0)
def ow (u : Nat → Nat → Int32) (o k : Nat) : Bool := decide (u 1 k = nI o)
def at_ (r k : Nat) : Bool := gw k && !decide (pX6_isIn (pX4_roofsOf (nI k)) (nI r) = 0)
def CG (B : Nat) (u : Nat → Nat → Int32) (k : Nat) : Prop := (∃ b, b ≤ 9 ∧ u 0 k = nI b ∧ (gw k = false → b = 0) ∧ (u 1 k = -1 ∨ (0 < b ∧ ∃ o, o < 4 ∧ u 1 k = nI o))) ∧ (∃ a, a ≤ B ∧ u 2 k = nI a) ∧ (∃ c, c ≤ B ∧ u 3 k = nI c)
def CW (B : Nat) (u : Nat → Nat → Int32) (o : Nat) : Prop := (∃ x, 1 ≤ x ∧ x ≤ 9 ∧ u 4 o = nI x) ∧ (∃ p, p < 16 ∧ u 6 o = nI p) ∧ (∃ x, x ≤ B ∧ u 7 o = nI x)
def CT (B : Nat) (u : Nat → Nat → Int32) (w : Nat → Int32) : Prop := ∃ t f, t ≤ B ∧ f ≤ B ∧ w 16 = nI t ∧ w 17 = nI f ∧ w 15 = nI (fb_ct (ln u) 28 + t + f)
def CS (B : Nat) (w : Nat → Int32) : Prop := M16 (w 9) ∧ M16 (w 10) ∧ (∃ d, d < 4 ∧ w 11 = nI d) ∧ (∃ q, q < 4 ∧ w 12 = nI q) ∧ (∃ x, x ≤ B ∧ w 13 = nI x) ∧ (∃ x, x < 10000 ∧ w 14 = nI x) ∧ (∃ x, x ≤ B ∧ w 18 = nI x)
def CI (B : Nat) (u : Nat → Nat → Int32) (w : Nat → Int32) : Prop := (∀ k, k < 28 → CG B u k) ∧ (∀ o, o < 4 → CW B u o) ∧ CT B u w ∧ CS B w
section RD
variable {B : Nat} {u : Nat → Nat → Int32} {w : Nat → Int32} {k o r : Nat}
theorem hl_iff (hk : k < 28) : pX0_hasLine u w (nI k) = 0 ↔ ln u k = false := by
  unfold pX0_hasLine ln
  rw [if_01, nd_f, nI_clamp (by omega)]
theorem th_iff (hk : k < 28) : pX0_isThere u w (nI k) = 0 ↔ th u k = false := by
  unfold pX0_isThere th
  rw [if_01, nd_f, nI_clamp (by omega)]
theorem gw_iff : pX4_isGangway (nI k) = 0 ↔ gw k = false := nd_f.symm
theorem ow_ln (ho : o < 4) (h : ow u o k = true) : ln u k = true := by
  unfold ow at h
  unfold ln
  rw [of_decide_eq_true h, decide_eq_false (nI_m1 (by omega))]
  rfl
theorem cl_ln (h : cl u k = true) : ln u k = true := (Bool.and_eq_true_iff.mp h).1
theorem CI_ln (h : CI B u w) (hk : k < 28) (hl : ln u k = true) : th u k = true ∧ gw k = true ∧ ∃ o, o < 4 ∧ u 1 k = nI o := by
  obtain ⟨⟨b, h1, h2, h3, h4⟩, -⟩ := h.1 k hk
  have hl2 : ¬ u 1 k = -1 := nd_t.mp hl
  obtain ⟨h5, h6⟩ := h4.resolve_left hl2
  refine ⟨nd_t.mpr ?_, ?_, h6⟩
  · rw [h2, nI_lz (by omega)]
    omega
  · cases q : gw k
    · have := h3 q
      omega
    · rfl
theorem CI_th (h : CI B u w) (hk : k < 28) (hl : th u k = true) : gw k = true := by
  obtain ⟨⟨b, h1, h2, h3, h4⟩, -⟩ := h.1 k hk
  have hl2 : ¬ u 0 k ≤ 0 := nd_t.mp hl
  rw [h2, nI_lz (by omega)] at hl2
  cases q : gw k
  · exact absurd (h3 q) hl2
  · rfl
theorem c_lines : ∀ k, bt (pX0_allLines u w) k = (decide (k < 28) && ln u k) := by
  refine set_loop (f := pX0_allLines_L4 u w) (N := 28) (by decide) rfl (fun i hi => ?_) 28 (Nat.le_refl _)
  rw [pX0_allLines_L4_s]
  by_cases q : ln u i = false
  · rw [if_pos ((hl_iff hi).mpr q), if_neg (by rw [q]; decide)]
  · rw [if_neg (fun z => q ((hl_iff hi).mp z)), if_pos (bf.mp q)]
theorem n_lines : pJ6_bitCount_0f7a4 (pX0_allLines u w) = nI (fb_ct (ln u) 28) := bc_set (by decide) c_lines
theorem c_clean : ∀ k, bt (pX0_cleanLines u w) k = (decide (k < 28) && cl u k) := by
  refine set_loop (f := pX0_cleanLines_L4 u w) (N := 28) (by decide) rfl (fun i hi => ?_) 28 (Nat.le_refl _)
  rw [pX0_cleanLines_L4_s]
  unfold cl
  by_cases q : ln u i = false
  · rw [if_pos ((hl_iff hi).mpr q), q, if_neg nfa]
  · rw [if_neg (fun z => q ((hl_iff hi).mp z)), bf.mp q]
    by_cases q2 : u 2 i = 0
    · rw [if_pos q2, decide_eq_true q2]
      by_cases q3 : u 3 i = 0
      · rw [if_pos q3, decide_eq_true q3]
        rfl
      · rw [if_neg q3, decide_eq_false q3]
        rfl
    · rw [if_neg q2, decide_eq_false q2]
      rfl
theorem n_clean : pJ6_bitCount_0f7a4 (pX0_cleanLines u w) = nI (fb_ct (cl u) 28) := bc_set (by decide) c_clean
theorem c_of : ∀ k, bt (pX0_linesOf u w (nI o)) k = (decide (k < 28) && ow u o k) := by
  refine set_loop (f := pX0_linesOf_L4 u w (nI o)) (N := 28) (by decide) rfl (fun i hi => ?_) 28 (Nat.le_refl _)
  rw [pX0_linesOf_L4_s]
  exact if_i decide_eq_true_iff.symm
theorem c_stand : ∀ k, bt (pX0_standingGangways u w) k = (decide (k < 28) && th u k) := by
  refine set_loop (f := pX0_standingGangways_L4 u w) (N := 28) (by decide) rfl (fun i hi => ?_) 28 (Nat.le_refl _)
  rw [pX0_standingGangways_L4_s]
  by_cases q : th u i = false
  · rw [if_pos ((th_iff hi).mpr q), if_neg (by rw [q]; decide)]
  · rw [if_neg (fun z => q ((th_iff hi).mp z)), if_pos (bf.mp q)]
theorem c_gw : ∀ k, bt (pX4_gangwaysOf (nI r)) k = (decide (k < 28) && at_ r k) := by
  refine set_loop (f := pX4_gangwaysOf_L4 (nI r)) (N := 28) (by decide) rfl (fun i hi => ?_) 28 (Nat.le_refl _)
  rw [pX4_gangwaysOf_L4_s]
  unfold at_
  by_cases q : pX4_isGangway (nI i) = 0
  · rw [if_pos q, gw_iff.mp q, if_neg nfa]
  · rw [if_neg q, bf.mp (fun z => q (gw_iff.mpr z)), Bool.true_and]
    by_cases q2 : pX6_isIn (pX4_roofsOf (nI i)) (nI r) = 0
    · rw [if_pos q2, if_neg (by rw [decide_eq_true q2]; decide)]
    · rw [if_neg q2, if_pos (nd_t.mpr q2)]
theorem n_and {x y : Int32} {P Q : Nat → Bool} (h1 : ∀ k, bt x k = (decide (k < 28) && P k)) (h2 : ∀ k, bt y k = (decide (k < 28) && Q k)) : pJ6_bitCount_0f7a4 (x &&& y) = nI (fb_ct (fun k => P k && Q k) 28) :=
  bc_set (by decide) (fun k => by
    rw [b_and, h1, h2]
    by_cases q : k < 28
    · rw [decide_eq_true q]
      rfl
    · rw [decide_eq_false q]
      rfl)
/-! gangway -/
theorem G_no (hg : pX4_isGangway (nI k) = 0) (b : Int32) : fG u w (nI k) b = -1 := if_pos hg
theorem G_0 (hk : k < 28) (hg : gw k = true) : fG u w (nI k) 0 = u 0 k := by
  unfold fG pX6_gangway
  rw [if_neg (fun z => by rw [gw_iff.mp z] at hg; exact absurd hg Bool.false_ne_true), if_neg (by decide), if_pos rfl, nI_clamp (by omega)]
theorem G_1 (hg : gw k = true) : fG u w (nI k) 1 = pX4_lesserRoof (nI k) := by
  unfold fG pX6_gangway
  rw [if_neg (fun z => by rw [gw_iff.mp z] at hg; exact absurd hg Bool.false_ne_true), if_neg (by decide), if_neg (by decide), if_pos rfl]
theorem G_2 (hg : gw k = true) : fG u w (nI k) 2 = pX4_greaterRoof (nI k) := by
  unfold fG pX6_gangway
  rw [if_neg (fun z => by rw [gw_iff.mp z] at hg; exact absurd hg Bool.false_ne_true), if_neg (by decide), if_neg (by decide), if_neg (by decide), if_pos rfl]
theorem G_3 (hk : k < 28) (hg : gw k = true) : fG u w (nI k) 3 = if ln u k = false then -4 else u 1 k := by
  unfold fG pX6_gangway
  rw [if_neg (fun z => by rw [gw_iff.mp z] at hg; exact absurd hg Bool.false_ne_true), if_neg (by decide), if_neg (by decide), if_neg (by decide), if_neg (by decide), if_pos rfl, nI_clamp (by omega)]
  exact if_i (hl_iff hk)
theorem G_4 (hk : k < 28) (hg : gw k = true) : fG u w (nI k) 4 = if ln u k = false then -4 else u 2 k := by
  unfold fG pX6_gangway
  rw [if_neg (fun z => by rw [gw_iff.mp z] at hg; exact absurd hg Bool.false_ne_true), if_neg (by decide), if_neg (by decide), if_neg (by decide), if_neg (by decide), if_neg (by decide), if_pos rfl, nI_clamp (by omega)]
  exact if_i (hl_iff hk)
theorem G_5 (hk : k < 28) (hg : gw k = true) : fG u w (nI k) 5 = if ln u k = false then -4 else u 3 k := by
  unfold fG pX6_gangway
  rw [if_neg (fun z => by rw [gw_iff.mp z] at hg; exact absurd hg Bool.false_ne_true), if_neg (by decide), if_neg (by decide), if_neg (by decide), if_neg (by decide), if_neg (by decide), if_neg (by decide), if_pos rfl, nI_clamp (by omega)]
  exact if_i (hl_iff hk)
theorem G_6 (hg : gw k = true) : fG u w (nI k) 6 = pJ6_bitCount_0f7a4 ((pX0_smokeBlown u w (w 11)) &&& (pX4_roofsOf (nI k))) := by
  unfold fG pX6_gangway
  rw [if_neg (fun z => by rw [gw_iff.mp z] at hg; exact absurd hg Bool.false_ne_true), if_neg (by decide), if_neg (by decide), if_neg (by decide), if_neg (by decide), if_neg (by decide), if_neg (by decide), if_neg (by decide)]
theorem G3_no (h : CI B u w) (hk : k < 28) (hg : gw k = true) : fG u w (nI k) 3 = -4 ↔ ln u k = false := by
  rw [G_3 hk hg]
  by_cases q : ln u k = false
  · rw [if_pos q]
    exact ⟨fun _ => q, fun _ => rfl⟩
  · rw [if_neg q]
    obtain ⟨-, -, o, ho, e⟩ := CI_ln h hk (bf.mp q)
    rw [e]
    exact ⟨fun z => absurd z (nI_m4 (by omega)), fun z => absurd z q⟩
/-! roof -/
theorem isRf : ∀ r, r < 16 → ¬ pX6_isRoof (nI r) = 0 := by decide +kernel
theorem isOw : ∀ o, o < 4 → ¬ pX6_isOwner (nI o) = 0 := by decide +kernel
theorem R_0 (hr : r < 16) : fR u w (nI r) 0 = pX6_bitOf (w 9) (nI r) := by
  unfold fR pX6_roof
  rw [if_neg (isRf r hr), if_neg (by decide), if_pos rfl]
theorem R_1 (hr : r < 16) : fR u w (nI r) 1 = pX6_bitOf (pX0_smokeBlown u w (w 11)) (nI r) := by
  unfold fR pX6_roof
  rw [if_neg (isRf r hr), if_neg (by decide), if_neg (by decide), if_pos rfl]
theorem R_2 (hr : r < 16) : fR u w (nI r) 2 = pX0_chimneysSmoking u w (nI r) := by
  unfold fR pX6_roof
  rw [if_neg (isRf r hr), if_neg (by decide), if_neg (by decide), if_neg (by decide), if_pos rfl]
theorem R_3 (hr : r < 16) : fR u w (nI r) 3 = pX6_bitOf (w 10) (nI r) := by
  unfold fR pX6_roof
  rw [if_neg (isRf r hr), if_neg (by decide), if_neg (by decide), if_neg (by decide), if_neg (by decide), if_pos rfl]
theorem R_4 (hr : r < 16) : fR u w (nI r) 4 = pX0_ownersOn u w (nI r) := by
  unfold fR pX6_roof
  rw [if_neg (isRf r hr), if_neg (by decide), if_neg (by decide), if_neg (by decide), if_neg (by decide), if_neg (by decide), if_pos rfl]
theorem R_5 (hr : r < 16) : fR u w (nI r) 5 = nI (fb_ct (fun k => th u k && at_ r k) 28) := by
  unfold fR pX6_roof
  rw [if_neg (isRf r hr), if_neg (by decide), if_neg (by decide), if_neg (by decide), if_neg (by decide), if_neg (by decide), if_neg (by decide), if_pos rfl]
  exact n_and c_stand c_gw
theorem R_6 (hr : r < 16) : fR u w (nI r) 6 = nI (fb_ct (fun k => ln u k && at_ r k) 28) := by
  unfold fR pX6_roof
  rw [if_neg (isRf r hr), if_neg (by decide), if_neg (by decide), if_neg (by decide), if_neg (by decide), if_neg (by decide), if_neg (by decide), if_neg (by decide), if_pos rfl]
  exact n_and c_lines c_gw
theorem R_7 (hr : r < 16) : fR u w (nI r) 7 = pJ6_bitCount_0f7a4 (pX5_roofsFrom (fun _ _ => 0) u w (nI r)) := by
  unfold fR pX6_roof
  rw [if_neg (isRf r hr), if_neg (by decide), if_neg (by decide), if_neg (by decide), if_neg (by decide), if_neg (by decide), if_neg (by decide), if_neg (by decide), if_neg (by decide)]
/-! owner -/
theorem O_0 (ho : o < 4) : fO u w (nI o) 0 = u 4 o := by
  unfold fO pX6_ownerOf
  rw [if_neg (isOw o ho), if_neg (by decide), if_pos rfl, nI_clamp (by omega)]
theorem O_1 (ho : o < 4) : fO u w (nI o) 1 = u 5 o := by
  unfold fO pX6_ownerOf
  rw [if_neg (isOw o ho), if_neg (by decide), if_neg (by decide), if_pos rfl, nI_clamp (by omega)]
theorem O_2 (ho : o < 4) : fO u w (nI o) 2 = pX6_bitOf (w 8) (nI o) := by
  unfold fO pX6_ownerOf
  rw [if_neg (isOw o ho), if_neg (by decide), if_neg (by decide), if_neg (by decide), if_pos rfl]
theorem O_3 (ho : o < 4) : fO u w (nI o) 3 = u 6 o := by
  unfold fO pX6_ownerOf
  rw [if_neg (isOw o ho), if_neg (by decide), if_neg (by decide), if_neg (by decide), if_neg (by decide), if_pos rfl, nI_clamp (by omega)]
theorem O_4 (ho : o < 4) : fO u w (nI o) 4 = nI (fb_ct (ow u o) 28) := by
  unfold fO pX6_ownerOf
  rw [if_neg (isOw o ho), if_neg (by decide), if_neg (by decide), if_neg (by decide), if_neg (by decide), if_neg (by decide), if_pos rfl]
  exact bc_set (by decide) c_of
theorem O_5 (ho : o < 4) : fO u w (nI o) 5 = nI (fb_ct (fun k => ow u o k && cl u k) 28) := by
  unfold fO pX6_ownerOf
  rw [if_neg (isOw o ho), if_neg (by decide), if_neg (by decide), if_neg (by decide), if_neg (by decide), if_neg (by decide), if_neg (by decide), if_pos rfl]
  exact n_and c_of c_clean
theorem O_6 (ho : o < 4) : fO u w (nI o) 6 = pX0_walksOpenTo u w (nI o) := by
  unfold fO pX6_ownerOf
  rw [if_neg (isOw o ho), if_neg (by decide), if_neg (by decide), if_neg (by decide), if_neg (by decide), if_neg (by decide), if_neg (by decide), if_neg (by decide), if_pos rfl]
theorem O_7 (ho : o < 4) : fO u w (nI o) 7 = u 7 o := by
  unfold fO pX6_ownerOf
  rw [if_neg (isOw o ho), if_neg (by decide), if_neg (by decide), if_neg (by decide), if_neg (by decide), if_neg (by decide), if_neg (by decide), if_neg (by decide), if_neg (by decide), if_pos rfl, nI_clamp (by omega)]
theorem O_8 (ho : o < 4) : fO u w (nI o) 8 = pX0_hangingsOpenTo u w (nI o) := by
  unfold fO pX6_ownerOf
  rw [if_neg (isOw o ho), if_neg (by decide), if_neg (by decide), if_neg (by decide), if_neg (by decide), if_neg (by decide), if_neg (by decide), if_neg (by decide), if_neg (by decide), if_neg (by decide)]
/-! counts -/
theorem C_0 : fC u w 0 = w 13 := by unfold fC pX0_numberOfNow; rw [if_neg (by decide), if_pos rfl]
theorem C_1 : fC u w 1 = w 11 := by unfold fC pX0_numberOfNow; rw [if_neg (by decide), if_neg (by decide), if_pos rfl]
theorem C_2 : fC u w 2 = pJ6_bitCount_0f7a4 (w 9) := by unfold fC pX0_numberOfNow; rw [if_neg (by decide), if_neg (by decide), if_neg (by decide), if_pos rfl]
theorem C_3 : fC u w 3 = pJ6_bitCount_0f7a4 (pX0_smokeBlown u w (w 11)) := by unfold fC pX0_numberOfNow; rw [if_neg (by decide), if_neg (by decide), if_neg (by decide), if_neg (by decide), if_pos rfl]
theorem C_4 : fC u w 4 = pJ6_bitCount_0f7a4 (w 10) := by unfold fC pX0_numberOfNow; rw [if_neg (by decide), if_neg (by decide), if_neg (by decide), if_neg (by decide), if_neg (by decide), if_pos rfl]
theorem C_5 : fC u w 5 = nI (fb_ct (ln u) 28) := by unfold fC pX0_numberOfNow; rw [if_neg (by decide), if_neg (by decide), if_neg (by decide), if_neg (by decide), if_neg (by decide), if_neg (by decide), if_pos rfl, n_lines]
theorem C_6 : fC u w 6 = nI (fb_ct (cl u) 28) := by unfold fC pX0_numberOfNow; rw [if_neg (by decide), if_neg (by decide), if_neg (by decide), if_neg (by decide), if_neg (by decide), if_neg (by decide), if_neg (by decide), if_pos rfl, n_clean]
theorem C_7 : fC u w 7 = pX0_sumOverLines_3 u w := by unfold fC pX0_numberOfNow; rw [if_neg (by decide), if_neg (by decide), if_neg (by decide), if_neg (by decide), if_neg (by decide), if_neg (by decide), if_neg (by decide), if_neg (by decide), if_pos rfl]
theorem C_8 : fC u w 8 = pX0_sumOverLines_4 u w := by unfold fC pX0_numberOfNow; rw [if_neg (by decide), if_neg (by decide), if_neg (by decide), if_neg (by decide), if_neg (by decide), if_neg (by decide), if_neg (by decide), if_neg (by decide), if_neg (by decide), if_pos rfl]
theorem C_9 : fC u w 9 = pX0_linesSmokedBy u w (w 11) := by unfold fC pX0_numberOfNow; rw [if_neg (by decide), if_neg (by decide), if_neg (by decide), if_neg (by decide), if_neg (by decide), if_neg (by decide), if_neg (by decide), if_neg (by decide), if_neg (by decide), if_neg (by decide)]
theorem C_10 : fC u w 10 = w 15 := by unfold fC pX0_numberSoFar; rw [if_pos (by decide), if_pos rfl]
theorem C_11 : fC u w 11 = w 16 := by unfold fC pX0_numberSoFar; rw [if_pos (by decide), if_neg (by decide), if_pos rfl]
theorem C_12 : fC u w 12 = w 17 := by unfold fC pX0_numberSoFar; rw [if_pos (by decide), if_neg (by decide), if_neg (by decide), if_pos rfl]
theorem C_13 : fC u w 13 = w 18 := by unfold fC pX0_numberSoFar; rw [if_pos (by decide), if_neg (by decide), if_neg (by decide), if_neg (by decide), if_pos rfl]
theorem C_14 : fC u w 14 = w 12 := by unfold fC pX0_numberSoFar; rw [if_pos (by decide), if_neg (by decide), if_neg (by decide), if_neg (by decide), if_neg (by decide), if_pos rfl]
theorem C_15 : fC u w 15 = w 14 := by unfold fC pX0_numberSoFar; rw [if_pos (by decide), if_neg (by decide), if_neg (by decide), if_neg (by decide), if_neg (by decide), if_neg (by decide)]
theorem br_eq : ∀ k, k < 28 → (pL_bridge (nI k) = 0 ↔ pX4_isGangway (nI k) = 0) := by decide +kernel
theorem br_iff (hk : k < 28) : pL_bridge (nI k) = 0 ↔ gw k = false := (br_eq k hk).trans gw_iff
end RD
