/-! ===== the relation between the class's city (u, w) and the model's row s ===== -/
def hg (l : Nat) : Int32 := nI l - 1
theorem hg_m1 : ∀ l, l < 5 → (hg l = -1 ↔ l = 0) := by decide +kernel
theorem hg_o : ∀ l, l < 5 → ∀ o, o < 4 → (hg l = nI o ↔ l = o + 1) := by decide +kernel
def RG (N : Nat) (u : Nat → Nat → Int32) (s : Nat → Int32) (k : Nat) : Prop := ∃ b l a c : Nat, u 0 k = nI b ∧ s (30 + 4 * k) = nI b ∧ b ≤ 9 ∧ u 1 k = hg l ∧ s (30 + 4 * k + 1) = nI l ∧ l ≤ 4 ∧ (l ≠ 0 → u 2 k = nI a ∧ s (30 + 4 * k + 2) = nI a ∧ a ≤ N ∧ u 3 k = nI c ∧ s (30 + 4 * k + 3) = nI c ∧ c ≤ N) ∧ (pX7_isGangway (nI k) = 0 → b = 0 ∧ l = 0)
def RW (u : Nat → Nat → Int32) (w : Nat → Int32) (s : Nat → Int32) (o : Nat) : Prop := u 4 o = s (10 + 5 * o) ∧ u 5 o = s (10 + 5 * o + 1) ∧ u 7 o = s (10 + 5 * o + 4) ∧ (∃ p, p < 16 ∧ u 6 o = nI p ∧ s (10 + 5 * o + 3) = nI p) ∧ s (10 + 5 * o + 2) = pX6_isIn (w 8) (nI o)
def RS (w : Nat → Int32) (s : Nat → Int32) : Prop := w 9 = s 8 ∧ w 10 = s 9 ∧ M16 (s 8) ∧ M16 (s 9) ∧ (∃ d, d < 4 ∧ w 11 = nI d ∧ s 1 = nI d) ∧ (∃ r, r < 4 ∧ w 12 = nI r ∧ s 2 = nI r) ∧ w 13 = s 0 ∧ w 14 = s 3 ∧ w 15 = s 4 ∧ w 16 = s 5 ∧ w 17 = s 6 ∧ w 18 = s 7 ∧ (∃ t, t < 16 ∧ w 8 = nI t)
def RC (N : Nat) (u : Nat → Nat → Int32) (w : Nat → Int32) (s : Nat → Int32) : Prop := (∀ k, k < 28 → RG N u s k) ∧ (∀ o, o < 4 → RW u w s o) ∧ RS w s
def lnB (s : Nat → Int32) (k : Nat) : Bool := !decide (s (30 + 4 * k + 1) = 0)
def thB (s : Nat → Int32) (k : Nat) : Bool := !decide (s (30 + 4 * k) = 0)
def clB (s : Nat → Int32) (k : Nat) : Bool := lnB s k && (decide (s (30 + 4 * k + 2) = 0) && decide (s (30 + 4 * k + 3) = 0))
def owB (s : Nat → Int32) (o k : Nat) : Bool := decide (s (30 + 4 * k + 1) = nI (o + 1))
theorem of_0 (m : Nat → Nat → Int32) (v : Nat → Int32) {k : Nat} (hk : k < 28) : pX7_of m v (nI k) 0 = m 0 (30 + 4 * k) := by
  unfold pX7_of
  rw [show (0 : Int32) = nI 0 from rfl, ix_of, nI_clamp (by omega), Nat.add_zero]
theorem of_1 (m : Nat → Nat → Int32) (v : Nat → Int32) {k : Nat} (hk : k < 28) : pX7_of m v (nI k) 1 = m 0 (30 + 4 * k + 1) := by
  unfold pX7_of
  rw [show (1 : Int32) = nI 1 from rfl, ix_of, nI_clamp (by omega)]
theorem of_2 (m : Nat → Nat → Int32) (v : Nat → Int32) {k : Nat} (hk : k < 28) : pX7_of m v (nI k) 2 = m 0 (30 + 4 * k + 2) := by
  unfold pX7_of
  rw [show (2 : Int32) = nI 2 from rfl, ix_of, nI_clamp (by omega)]
theorem of_3 (m : Nat → Nat → Int32) (v : Nat → Int32) {k : Nat} (hk : k < 28) : pX7_of m v (nI k) 3 = m 0 (30 + 4 * k + 3) := by
  unfold pX7_of
  rw [show (3 : Int32) = nI 3 from rfl, ix_of, nI_clamp (by omega)]
theorem ow_0 (m : Nat → Nat → Int32) (v : Nat → Int32) {o : Nat} (ho : o < 4) : pX7_ofOwner m v (nI o) 0 = m 0 (10 + 5 * o) := by
  unfold pX7_ofOwner
  rw [show (0 : Int32) = nI 0 from rfl, ix_ow, nI_clamp (by omega), Nat.add_zero]
theorem ow_k (m : Nat → Nat → Int32) (v : Nat → Int32) {o j : Nat} (ho : o < 4) (hj : j < 5) : pX7_ofOwner m v (nI o) (nI j) = m 0 (10 + 5 * o + j) := by
  unfold pX7_ofOwner
  rw [ix_ow, nI_clamp (by omega)]
theorem nI_z {l : Nat} (h : l < 2147483648) : nI l = 0 ↔ l = 0 := nI_eq (b := 0) h (by decide)
theorem nI_lz {l : Nat} (h : l < 2147483648) : nI l ≤ 0 ↔ l = 0 := (nI_leI (b := 0) h (by decide)).trans Nat.le_zero
theorem nd_f {c : Prop} [Decidable c] : (!decide c) = false ↔ c := by
  by_cases h : c
  · rw [decide_eq_true h]
    exact ⟨fun _ => h, fun _ => rfl⟩
  · rw [decide_eq_false h]
    exact ⟨fun z => absurd z (by decide), fun z => absurd z h⟩
theorem if_01 {c : Prop} [Decidable c] : (if c then (0 : Int32) else 1) = 0 ↔ c := by
  by_cases h : c
  · rw [if_pos h]
    exact ⟨fun _ => h, fun _ => rfl⟩
  · rw [if_neg h]
    exact ⟨fun z => absurd z (by decide), fun z => absurd z h⟩
theorem if_10 {c : Prop} [Decidable c] : (if c then (1 : Int32) else 0) = 0 ↔ ¬ c := by
  by_cases h : c
  · rw [if_pos h]
    exact ⟨fun z => absurd z (by decide), fun z => absurd h z⟩
  · rw [if_neg h]
    exact ⟨fun _ => h, fun _ => rfl⟩
theorem if_iff {α : Type} {c c' : Prop} [Decidable c] [Decidable c'] {a a' b b' : α} (h : c ↔ c') (h1 : c → a = a') (h2 : ¬ c → b = b') : (if c then a else b) = (if c' then a' else b') := by
  by_cases q : c
  · rw [if_pos q, if_pos (h.mp q), h1 q]
  · rw [if_neg q, if_neg (fun z => q (h.mpr z)), h2 q]
theorem nfa {b : Bool} : ¬ (false && b) = true := fun z => absurd z Bool.false_ne_true
theorem bf {b : Bool} : ¬ b = false ↔ b = true := by cases b <;> decide
section RR
variable {N : Nat} {u : Nat → Nat → Int32} {w : Nat → Int32} {s : Nat → Int32} {m : Nat → Nat → Int32} {v : Nat → Int32} {k o : Nat}
theorem r6_line (h : RC N u w s) (hk : k < 28) : pX0_hasLine u w (nI k) = 0 ↔ lnB s k = false := by
  obtain ⟨b, l, a, c, h1, h2, h3, h4, h5, h6, h7, h8⟩ := h.1 k hk
  unfold pX0_hasLine lnB
  rw [if_01, nd_f, nI_clamp (by omega), h4, h5, hg_m1 l (by omega), nI_z (by omega)]
theorem r7_line (h : RC N u w (m 0)) (hk : k < 28) : pX7_hasLine m v (nI k) = 0 ↔ lnB (m 0) k = false := by
  obtain ⟨b, l, a, c, h1, h2, h3, h4, h5, h6, h7, h8⟩ := h.1 k hk
  unfold pX7_hasLine lnB
  rw [if_01, nd_f, of_1 m v hk, h5, nI_lz (by omega), nI_z (by omega)]
theorem r6_there (h : RC N u w s) (hk : k < 28) : pX0_isThere u w (nI k) = 0 ↔ thB s k = false := by
  obtain ⟨b, l, a, c, h1, h2, h3, h4, h5, h6, h7, h8⟩ := h.1 k hk
  unfold pX0_isThere thB
  rw [if_01, nd_f, nI_clamp (by omega), h1, h2, nI_lz (by omega), nI_z (by omega)]
theorem r7_there (hk : k < 28) : pX7_of m v (nI k) 0 = 0 ↔ thB (m 0) k = false := by
  unfold thB
  rw [nd_f, of_0 m v hk]
theorem r7_there_sym (hk : k < 28) : thB (m 0) k = false ↔ pX7_of m v (nI k) 0 = 0 := (r7_there hk).symm
theorem r7_strong (h : RC N u w (m 0)) (hk : k < 28) : pX7_of m v (nI k) 0 ≤ 0 ↔ thB (m 0) k = false := by
  obtain ⟨b, l, a, c, h1, h2, h3, h4, h5, h6, h7, h8⟩ := h.1 k hk
  unfold thB
  rw [nd_f, of_0 m v hk, h2, nI_lz (by omega), nI_z (by omega)]
theorem r_soil (h : RC N u w s) (hk : k < 28) (hl : lnB s k = true) : u 2 k = s (30 + 4 * k + 2) ∧ u 3 k = s (30 + 4 * k + 3) ∧ ∃ a c, a ≤ N ∧ c ≤ N ∧ s (30 + 4 * k + 2) = nI a ∧ s (30 + 4 * k + 3) = nI c := by
  obtain ⟨b, l, a, c, h1, h2, h3, h4, h5, h6, h7, h8⟩ := h.1 k hk
  have hl0 : l ≠ 0 := by
    intro z
    subst z
    unfold lnB at hl
    rw [h5] at hl
    exact absurd hl (by decide)
  obtain ⟨a1, a2, a3, a4, a5, a6⟩ := h7 hl0
  exact ⟨a1.trans a2.symm, a4.trans a5.symm, a, c, a3, a6, a2, a5⟩
theorem r7_clean (h : RC N u w (m 0)) (hN : N < 1000000) (hk : k < 28) : pX7_isClean m v (nI k) = 0 ↔ clB (m 0) k = false := by
  unfold pX7_isClean clB
  by_cases hl : lnB (m 0) k = false
  · rw [if_pos ((r7_line h hk).mpr hl), hl]
    exact ⟨fun _ => rfl, fun _ => rfl⟩
  · rw [if_neg (fun z => hl ((r7_line h hk).mp z)), bf.mp hl]
    obtain ⟨-, -, a, c, h3, h4, h5, h6⟩ := r_soil h hk (bf.mp hl)
    rw [if_10, of_2 m v hk, of_3 m v hk, h5, h6, nI_add, nI_z (by omega), Bool.true_and]
    by_cases za : a = 0
    · by_cases zc : c = 0
      · subst za
        subst zc
        exact ⟨fun z => absurd rfl z, fun z => absurd z (by decide)⟩
      · rw [decide_eq_false (show ¬ nI c = 0 from fun z => zc ((nI_z (by omega)).mp z)), Bool.and_false]
        exact ⟨fun _ => rfl, fun _ => by omega⟩
    · rw [decide_eq_false (show ¬ nI a = 0 from fun z => za ((nI_z (by omega)).mp z)), Bool.false_and]
      exact ⟨fun _ => rfl, fun _ => by omega⟩
theorem r6_owner (h : RC N u w s) (hk : k < 28) (ho : o < 4) : u 1 k = nI o ↔ owB s o k = true := by
  obtain ⟨b, l, a, c, h1, h2, h3, h4, h5, h6, h7, h8⟩ := h.1 k hk
  unfold owB
  rw [decide_eq_true_iff, h4, h5, hg_o l (by omega) o ho, nI_eq (by omega) (by omega)]
theorem r7_owner (hk : k < 28) : pX7_of m v (nI k) 1 = nI o + (1 : Int32) ↔ owB (m 0) o k = true := by
  unfold owB
  rw [decide_eq_true_iff, of_1 m v hk, nI_1]
theorem ow_ln (h : owB s o k = true) (ho : o < 4) : lnB s k = true := by
  unfold owB at h
  unfold lnB
  rw [of_decide_eq_true h, decide_eq_false (nI_ne0 (by omega) (by omega))]
  rfl
/-! counts -/
theorem c6_lines (h : RC N u w s) : ∀ k, bt (pX0_allLines u w) k = (decide (k < 28) && lnB s k) := by
  refine set_loop (f := pX0_allLines_L4 u w) (N := 28) (by decide) rfl (fun i hi => ?_) 28 (Nat.le_refl _)
  rw [pX0_allLines_L4_s]
  by_cases q : lnB s i = false
  · rw [if_pos ((r6_line h hi).mpr q), if_neg (by rw [q]; decide)]
  · rw [if_neg (fun z => q ((r6_line h hi).mp z)), if_pos (bf.mp q)]
theorem c7_lines (h : RC N u w (m 0)) : pX7_linesNow m v = nI (fb_ct (lnB (m 0)) 28) := by
  refine cnt_loop (f := pX7_linesNow_L4 m v) (N := 28) rfl (fun i hi => ?_) 28 (Nat.le_refl _)
  rw [pX7_linesNow_L4_s]
  by_cases q : lnB (m 0) i = false
  · rw [if_pos ((r7_line h hi).mpr q), if_neg (by rw [q]; decide), Int32.add_zero]
  · rw [if_neg (fun z => q ((r7_line h hi).mp z)), if_pos (bf.mp q)]
theorem e_lines (h : RC N u w (m 0)) : pJ6_bitCount_0f7a4 (pX0_allLines u w) = pX7_linesNow m v := by
  rw [c7_lines h, bc_set (by decide) (c6_lines h)]
theorem c6_clean (h : RC N u w s) : ∀ k, bt (pX0_cleanLines u w) k = (decide (k < 28) && clB s k) := by
  refine set_loop (f := pX0_cleanLines_L4 u w) (N := 28) (by decide) rfl (fun i hi => ?_) 28 (Nat.le_refl _)
  rw [pX0_cleanLines_L4_s]
  unfold clB
  by_cases q : lnB s i = false
  · rw [if_pos ((r6_line h hi).mpr q), q, if_neg nfa]
  · rw [if_neg (fun z => q ((r6_line h hi).mp z)), bf.mp q]
    obtain ⟨e2, e3, -⟩ := r_soil h hi (bf.mp q)
    rw [e2, e3, Bool.true_and]
    by_cases q2 : s (30 + 4 * i + 2) = 0
    · by_cases q3 : s (30 + 4 * i + 3) = 0
      · rw [if_pos q2, if_pos q3, if_pos (by rw [decide_eq_true q2, decide_eq_true q3]; rfl)]
      · rw [if_pos q2, if_neg q3, if_neg (by rw [decide_eq_false q3, Bool.and_false]; decide)]
    · rw [if_neg q2, if_neg (by rw [decide_eq_false q2]; exact nfa)]
theorem c7_clean (h : RC N u w (m 0)) (hN : N < 1000000) : pX7_cleanNow m v = nI (fb_ct (clB (m 0)) 28) := by
  refine cnt_loop (f := pX7_cleanNow_L4 m v) (N := 28) rfl (fun i hi => ?_) 28 (Nat.le_refl _)
  rw [pX7_cleanNow_L4_s]
  by_cases q : clB (m 0) i = false
  · rw [if_pos ((r7_clean h hN hi).mpr q), if_neg (by rw [q]; decide), Int32.add_zero]
  · rw [if_neg (fun z => q ((r7_clean h hN hi).mp z)), if_pos (bf.mp q)]
theorem e_clean (h : RC N u w (m 0)) (hN : N < 1000000) : pJ6_bitCount_0f7a4 (pX0_cleanLines u w) = pX7_cleanNow m v := by
  rw [c7_clean h hN, bc_set (by decide) (c6_clean h)]
theorem c6_of (h : RC N u w s) (ho : o < 4) : ∀ k, bt (pX0_linesOf u w (nI o)) k = (decide (k < 28) && owB s o k) := by
  refine set_loop (f := pX0_linesOf_L4 u w (nI o)) (N := 28) (by decide) rfl (fun i hi => ?_) 28 (Nat.le_refl _)
  rw [pX0_linesOf_L4_s]
  by_cases q : owB s o i = true
  · rw [if_pos ((r6_owner h hi ho).mpr q), if_pos q]
  · rw [if_neg (fun z => q ((r6_owner h hi ho).mp z)), if_neg q]
theorem e_of0 (h : RC N u w (m 0)) (ho : o < 4) : pJ6_bitCount_0f7a4 (pX0_linesOf u w (nI o)) = pX7_linesOf m v (nI o) 0 := by
  rw [bc_set (by decide) (c6_of h ho)]
  refine (cnt_loop (f := pX7_linesOf_L5 m v (nI o) 0) (N := 28) rfl (fun i hi => ?_) 28 (Nat.le_refl _)).symm
  rw [pX7_linesOf_L5_s]
  by_cases q : owB (m 0) o i = true
  · rw [if_pos ((r7_owner hi).mpr q), if_pos rfl, if_pos q]
  · rw [if_neg (fun z => q ((r7_owner hi).mp z)), if_neg q, Int32.add_zero]
theorem e_of1 (h : RC N u w (m 0)) (hN : N < 1000000) (ho : o < 4) : pJ6_bitCount_0f7a4 (pX0_linesOf u w (nI o) &&& pX0_cleanLines u w) = pX7_linesOf m v (nI o) 1 := by
  rw [bc_set (n := 28) (P := fun k => owB (m 0) o k && clB (m 0) k) (by decide) (fun k => by
    rw [b_and, c6_of h ho, c6_clean h]
    cases decide (k < 28) <;> rfl)]
  refine (cnt_loop (f := pX7_linesOf_L5 m v (nI o) 1) (N := 28) rfl (fun i hi => ?_) 28 (Nat.le_refl _)).symm
  rw [pX7_linesOf_L5_s]
  by_cases q : owB (m 0) o i = true
  · rw [if_pos ((r7_owner hi).mpr q), if_neg (by decide), q, Bool.true_and]
    by_cases q2 : clB (m 0) i = false
    · rw [if_pos ((r7_clean h hN hi).mpr q2), if_neg (by rw [q2]; decide), Int32.add_zero]
    · rw [if_neg (fun z => q2 ((r7_clean h hN hi).mp z)), if_pos (bf.mp q2)]
  · rw [if_neg (fun z => q ((r7_owner hi).mp z)), if_neg (fun z => q (by rw [Bool.and_eq_true] at z; exact z.1)), Int32.add_zero]
theorem N_ofRoof : ∀ i, i < 28 → ∀ r, r < 16 → (pX7_isOfRoof (nI i) (nI r) = 0 ↔ (pX4_isGangway (nI i) = 0 ∨ pX6_isIn (pX4_roofsOf (nI i)) (nI r) = 0)) := by decide +kernel
def gwB (r i : Nat) : Bool := !decide (pX7_isOfRoof (nI i) (nI r) = 0)
theorem gw_f {r i : Nat} : gwB r i = false ↔ pX7_isOfRoof (nI i) (nI r) = 0 := nd_f
theorem c_gw {r : Nat} (hr : r < 16) : ∀ k, bt (pX4_gangwaysOf (nI r)) k = (decide (k < 28) && gwB r k) := by
  refine set_loop (f := pX4_gangwaysOf_L4 (nI r)) (N := 28) (by decide) rfl (fun i hi => ?_) 28 (Nat.le_refl _)
  rw [pX4_gangwaysOf_L4_s]
  have t := (gw_f (r := r) (i := i)).trans (N_ofRoof i hi r hr)
  by_cases q : pX4_isGangway (nI i) = 0
  · rw [if_pos q, if_neg (by rw [t.mpr (Or.inl q)]; decide)]
  · rw [if_neg q]
    by_cases q2 : pX6_isIn (pX4_roofsOf (nI i)) (nI r) = 0
    · rw [if_pos q2, if_neg (by rw [t.mpr (Or.inr q2)]; decide)]
    · rw [if_neg q2, if_pos (bf.mp (fun z => (t.mp z).elim q q2))]
theorem c6_standing (h : RC N u w s) : ∀ k, bt (pX0_standingGangways u w) k = (decide (k < 28) && thB s k) := by
  refine set_loop (f := pX0_standingGangways_L4 u w) (N := 28) (by decide) rfl (fun i hi => ?_) 28 (Nat.le_refl _)
  rw [pX0_standingGangways_L4_s]
  by_cases q : thB s i = false
  · rw [if_pos ((r6_there h hi).mpr q), if_neg (by rw [q]; decide)]
  · rw [if_neg (fun z => q ((r6_there h hi).mp z)), if_pos (bf.mp q)]
theorem e_strong (h : RC N u w (m 0)) {r : Nat} (hr : r < 16) : pJ6_bitCount_0f7a4 (pX0_standingGangways u w &&& pX4_gangwaysOf (nI r)) = pX7_strongAt m v (nI r) := by
  rw [bc_set (n := 28) (P := fun k => gwB r k && thB (m 0) k) (by decide) (fun k => by
    rw [b_and, c6_standing h, c_gw hr]
    cases decide (k < 28) <;> cases gwB r k <;> cases thB (m 0) k <;> rfl)]
  refine (cnt_loop (f := pX7_strongAt_L4 m v (nI r)) (N := 28) rfl (fun i hi => ?_) 28 (Nat.le_refl _)).symm
  rw [pX7_strongAt_L4_s]
  by_cases q : gwB r i = false
  · rw [if_pos (gw_f.mp q), if_neg (by rw [q]; exact nfa), Int32.add_zero]
  · rw [if_neg (fun z => q (gw_f.mpr z)), bf.mp q, Bool.true_and]
    by_cases q2 : thB (m 0) i = false
    · rw [if_pos ((r7_strong h hi).mpr q2), if_neg (by rw [q2]; decide), Int32.add_zero]
    · rw [if_neg (fun z => q2 ((r7_strong h hi).mp z)), if_pos (bf.mp q2)]
theorem e_linesAt (h : RC N u w (m 0)) {r : Nat} (hr : r < 16) : pJ6_bitCount_0f7a4 (pX0_allLines u w &&& pX4_gangwaysOf (nI r)) = pX7_linesAt m v (nI r) := by
  rw [bc_set (n := 28) (P := fun k => gwB r k && lnB (m 0) k) (by decide) (fun k => by
    rw [b_and, c6_lines h, c_gw hr]
    cases decide (k < 28) <;> cases gwB r k <;> cases lnB (m 0) k <;> rfl)]
  refine (cnt_loop (f := pX7_linesAt_L4 m v (nI r)) (N := 28) rfl (fun i hi => ?_) 28 (Nat.le_refl _)).symm
  rw [pX7_linesAt_L4_s]
  by_cases q : gwB r i = false
  · rw [if_pos (gw_f.mp q), if_neg (by rw [q]; exact nfa), Int32.add_zero]
  · rw [if_neg (fun z => q (gw_f.mpr z)), bf.mp q, Bool.true_and]
    by_cases q2 : lnB (m 0) i = false
    · rw [if_pos ((r7_line h hi).mpr q2), if_neg (by rw [q2]; decide), Int32.add_zero]
    · rw [if_neg (fun z => q2 ((r7_line h hi).mp z)), if_pos (bf.mp q2)]
theorem e_sum2 (h : RC N u w (m 0)) : pX0_sumOverLines_3 u w = pX7_sumOf m v 2 := by
  have key : ∀ n, n ≤ 28 → pX0_sumOverLines_3_L4 u w n = pX7_sumOf_L4 m v 2 n := by
    intro n
    induction n with
    | zero => intro _; rw [pX0_sumOverLines_3_L4_0, pX7_sumOf_L4_0]
    | succ n ih =>
      intro hn
      have hi : n < 28 := by omega
      rw [pX0_sumOverLines_3_L4_s, pX7_sumOf_L4_s, ih (by omega)]
      by_cases q : lnB (m 0) n = false
      · rw [if_pos ((r6_line h hi).mpr q), if_pos ((r7_line h hi).mpr q), Int32.add_zero]
      · rw [if_neg (fun z => q ((r6_line h hi).mp z)), if_neg (fun z => q ((r7_line h hi).mp z)), of_2 m v hi, (r_soil h hi (bf.mp q)).1]
  exact key 28 (Nat.le_refl _)
theorem e_sum3 (h : RC N u w (m 0)) : pX0_sumOverLines_4 u w = pX7_sumOf m v 3 := by
  have key : ∀ n, n ≤ 28 → pX0_sumOverLines_4_L4 u w n = pX7_sumOf_L4 m v 3 n := by
    intro n
    induction n with
    | zero => intro _; rw [pX0_sumOverLines_4_L4_0, pX7_sumOf_L4_0]
    | succ n ih =>
      intro hn
      have hi : n < 28 := by omega
      rw [pX0_sumOverLines_4_L4_s, pX7_sumOf_L4_s, ih (by omega)]
      by_cases q : lnB (m 0) n = false
      · rw [if_pos ((r6_line h hi).mpr q), if_pos ((r7_line h hi).mpr q), Int32.add_zero]
      · rw [if_neg (fun z => q ((r6_line h hi).mp z)), if_neg (fun z => q ((r7_line h hi).mp z)), of_3 m v hi, (r_soil h hi (bf.mp q)).2.1]
  exact key 28 (Nat.le_refl _)
/-! smoke -/
theorem e_smoke (h : RC N u w (m 0)) {d : Nat} (hd : d < 4) : pX0_smokeBlown u w (nI d) = pX7_smokeBy m v (nI d) := by
  obtain ⟨h9, -, -, -, -, ⟨r, hr, h12, h2⟩, -⟩ := h.2.2
  exact M_smokeBy u w m v d r hd hr h9 h12 h2
theorem e_smokeNow (h : RC N u w (m 0)) : pX0_smokeBlown u w (w 11) = pX7_smoke m v := by
  obtain ⟨-, -, -, -, ⟨d, hd, h11, h1⟩, -⟩ := h.2.2
  unfold pX7_smoke
  rw [h11, h1]
  exact e_smoke h hd
theorem N_ran16 : ∀ r, r < 16 → ∀ d, d < 4 → ∀ n, n < 4 → pX4_roofAndNext (nI r) (nI d) (nI n) &&& 65535 = pX4_roofAndNext (nI r) (nI d) (nI n) := by decide +kernel
theorem M16_of {x : Int32} (h : x &&& 65535 = x) : M16 x := fun i hi => by
  rw [← h, b_and, b_65535, decide_eq_false (by omega), Bool.and_false]
theorem smoke16 (h : RC N u w s) {d : Nat} (hd : d < 4) : M16 (pX0_smokeBlown u w (nI d)) := by
  obtain ⟨-, -, -, -, -, ⟨r, hr, h12, -⟩, -⟩ := h.2.2
  have key : ∀ n, n ≤ 16 → M16 (pX0_smokeBlown_L4 u w (nI d) n) := by
    intro n
    induction n with
    | zero => intro _; exact M16_0
    | succ n ih =>
      intro hn
      rw [pX0_smokeBlown_L4_s, h12]
      split
      · exact ih (by omega)
      · exact M16_or (ih (by omega)) (M16_of (N_ran16 n (by omega) d hd r hr))
  exact key 16 (Nat.le_refl _)
theorem smokeNow16 (h : RC N u w s) : M16 (pX0_smokeBlown u w (w 11)) := by
  obtain ⟨-, -, -, -, ⟨d, hd, h11, h1⟩, -⟩ := h.2.2
  rw [h11]
  exact smoke16 h hd
theorem e_smokedBy (h : RC N u w (m 0)) {d : Nat} (hd : d < 4) : pX0_linesSmokedBy u w (nI d) = pX7_smokedBy m v (nI d) := by
  have key : ∀ n, n ≤ 28 → pX0_linesSmokedBy_L11 u w (nI d) n = pX7_smokedBy_L11 m v (nI d) n := by
    intro n
    induction n with
    | zero => intro _; rw [pX0_linesSmokedBy_L11_0, pX7_smokedBy_L11_0]
    | succ n ih =>
      intro hn
      have hi : n < 28 := by omega
      rw [pX0_linesSmokedBy_L11_s, pX7_smokedBy_L11_s, ih (by omega), e_smoke (v := v) h hd, N_roofs m v n hi, Int32.add_zero]
      exact if_iff ((r6_line h hi).trans (r7_line h hi).symm) (fun _ => rfl) (fun _ => rfl)
  exact key 28 (Nat.le_refl _)
theorem e_winds (h : RC N u w (m 0)) (hk : k < 28) : pX0_windsSmoking u w (nI k) = pX7_windsOver m v (nI k) := by
  have key : ∀ n, n ≤ 4 → pX0_windsSmoking_L4 u w (nI k) n = pX7_windsOver_L4 m v (nI k) n := by
    intro n
    induction n with
    | zero => intro _; rw [pX0_windsSmoking_L4_0, pX7_windsOver_L4_0]
    | succ n ih =>
      intro hn
      rw [pX0_windsSmoking_L4_s, pX7_windsOver_L4_s, ih (by omega), e_smoke (v := v) h (show n < 4 by omega), N_roofs m v k hk, Int32.add_zero]
  exact key 4 (Nat.le_refl _)
theorem e_chimneys (h : RC N u w (m 0)) (a : Int32) : pX0_chimneysSmoking u w a = pX7_chimneysOver m v a := by
  obtain ⟨h9, -, -, -, ⟨d, hd, h11, h1⟩, ⟨r, hr, h12, h2⟩, -⟩ := h.2.2
  have key : ∀ n, n ≤ 16 → pX0_chimneysSmoking_L4 u w a n = pX7_chimneysOver_L4 m v a n := by
    intro n
    induction n with
    | zero => intro _; rw [pX0_chimneysSmoking_L4_0, pX7_chimneysOver_L4_0]
    | succ n ih =>
      intro hn
      rw [pX0_chimneysSmoking_L4_s, pX7_chimneysOver_L4_s, ih (by omega), h9, h11, h12, h1, N_smoke m v n d r (by omega) hd hr h2, Int32.add_zero, N_isIn, N_isIn]
  exact key 16 (Nat.le_refl _)
theorem e_owners (h : RC N u w (m 0)) (a : Int32) : pX0_ownersOn u w a = pX7_ownersAt m v a := by
  have key : ∀ n, n ≤ 4 → pX0_ownersOn_L4 u w a n = pX7_ownersAt_L4 m v a n := by
    intro n
    induction n with
    | zero => intro _; rw [pX0_ownersOn_L4_0, pX7_ownersAt_L4_0]
    | succ n ih =>
      intro hn
      obtain ⟨-, -, -, ⟨p, hp, e1, e2⟩, -⟩ := h.2.1 n (by omega)
      rw [pX0_ownersOn_L4_s, pX7_ownersAt_L4_s, ih (by omega), e1, show (3 : Int32) = nI 3 from rfl, ow_k m v (show n < 4 by omega) (by decide), e2, Int32.or_zero]
  exact key 4 (Nat.le_refl _)
/-! coops -/
def nxt (i d : Nat) : Nat := (pX7_nextTo (nI i) (nI d)).toNatClampNeg
theorem N_nxt : ∀ i, i < 16 → ∀ d, d < 4 → ¬ pX7_nextTo (nI i) (nI d) < 0 → pX7_nextTo (nI i) (nI d) = nI (nxt i d) ∧ nxt i d < 16 := by decide +kernel
def exB (P : Nat → Bool) : Nat → Bool
  | 0 => false
  | n + 1 => exB P n || P n
theorem exB_iff {P : Nat → Bool} : ∀ {n : Nat}, exB P n = true ↔ ∃ i, i < n ∧ P i = true
  | 0 => ⟨fun z => absurd z Bool.false_ne_true, fun ⟨i, h, _⟩ => absurd h (Nat.not_lt_zero i)⟩
  | n + 1 => by
    have ih := exB_iff (P := P) (n := n)
    show (exB P n || P n) = true ↔ _
    rw [Bool.or_eq_true, ih]
    constructor
    · rintro (⟨i, h, hp⟩ | hp)
      · exact ⟨i, by omega, hp⟩
      · exact ⟨n, by omega, hp⟩
    · rintro ⟨i, h, hp⟩
      rcases Nat.lt_or_ge i n with q | q
      · exact Or.inl ⟨i, q, hp⟩
      · have : i = n := by omega
        subst this
        exact Or.inr hp
def alB (P : Nat → Bool) : Nat → Bool
  | 0 => true
  | n + 1 => alB P n && P n
theorem alB_iff {P : Nat → Bool} : ∀ {n : Nat}, alB P n = true ↔ ∀ i, i < n → P i = true
  | 0 => ⟨fun _ i h => absurd h (Nat.not_lt_zero i), fun _ => rfl⟩
  | n + 1 => by
    have ih := alB_iff (P := P) (n := n)
    show (alB P n && P n) = true ↔ _
    rw [Bool.and_eq_true, ih]
    constructor
    · rintro ⟨h1, h2⟩ i hi
      rcases Nat.lt_or_ge i n with q | q
      · exact h1 i q
      · have : i = n := by omega
        subst this
        exact h2
    · intro h1
      exact ⟨fun i hi => h1 i (by omega), h1 n (by omega)⟩
def nbB (c : Int32) (i d : Nat) : Bool := !decide (pX7_nextTo (nI i) (nI d) < 0) && bt c (nxt i d)
theorem nc_in (x : Int32) {i : Nat} (hi : i < 16) : ∀ n, n ≤ 4 → ∀ k, bt (pX7_nearCoops_L18 m v i x n) k = (bt x k || (decide (k = i) && exB (nbB (m 0 9) i) n)) := by
  intro n
  induction n with
  | zero =>
    intro _ k
    rw [pX7_nearCoops_L18_0, show exB (nbB (m 0 9) i) 0 = false from rfl, Bool.and_false, Bool.or_false]
  | succ n ih =>
    intro hn k
    rw [pX7_nearCoops_L18_s, show exB (nbB (m 0 9) i) (n + 1) = (exB (nbB (m 0 9) i) n || nbB (m 0 9) i n) from rfl]
    by_cases c1 : pX7_nextTo (nI i) (nI n) < 0
    · have e2 : nbB (m 0 9) i n = false := by unfold nbB; rw [decide_eq_true c1]; rfl
      rw [if_pos c1, Int32.or_zero, ih (by omega) k, e2, Bool.or_false]
    · obtain ⟨f1, f2⟩ := N_nxt i hi n (by omega) c1
      have e2 : nbB (m 0 9) i n = bt (m 0 9) (nxt i n) := by unfold nbB; rw [decide_eq_false c1]; rfl
      rw [if_neg c1, f1, N_isIn, e2]
      by_cases c2 : bt (m 0 9) (nxt i n) = false
      · rw [if_pos ((isIn_0 _ (by omega)).mpr c2), Int32.or_zero, ih (by omega) k, c2, Bool.or_false]
      · rw [if_neg (fun z => c2 ((isIn_0 _ (by omega)).mp z)), b_or, bt_shl (by omega), ih (by omega) k, bf.mp c2, Bool.or_true, Bool.and_true]
        cases bt x k <;> cases decide (k = i) <;> cases exB (nbB (m 0 9) i) n <;> rfl
def anB (c : Int32) (i : Nat) : Bool := exB (nbB c i) 4
theorem nc_bits : ∀ k, bt (pX7_nearCoops m v) k = (bt (m 0 9) k || (decide (k < 16) && anB (m 0 9) k)) := by
  have key : ∀ n, n ≤ 16 → ∀ k, bt (pX7_nearCoops_L10 m v n) k = (bt (m 0 9) k || (decide (k < n) && anB (m 0 9) k)) := by
    intro n
    induction n with
    | zero =>
      intro _ k
      rw [pX7_nearCoops_L10_0, decide_eq_false (Nat.not_lt_zero k), Bool.false_and, Bool.or_false]
    | succ n ih =>
      intro hn k
      rw [pX7_nearCoops_L10_s, nc_in _ (by omega) 4 (Nat.le_refl _) k, ih (by omega) k]
      by_cases hk : k = n
      · subst hk
        rw [decide_eq_false (Nat.lt_irrefl k), decide_eq_true (Nat.lt_succ_self k), decide_eq_true rfl, Bool.false_and, Bool.or_false, Bool.true_and, Bool.true_and]
        rfl
      · rw [decide_eq_false hk, Bool.false_and, Bool.or_false]
        by_cases h1 : k < n
        · rw [decide_eq_true h1, decide_eq_true (show k < n + 1 by omega)]
        · rw [decide_eq_false h1, decide_eq_false (show ¬ k < n + 1 by omega)]
  exact key 16 (Nat.le_refl _)
def nearT (g : Nat) : Int32 := pX4_roofAndNeighbours (pX4_lesserRoof (nI g)) ||| pX4_roofAndNeighbours (pX4_greaterRoof (nI g))
theorem N_both16 : ∀ g, g < 28 → ¬ pX7_isGangway (nI g) = 0 → pX4_roofsOf (nI g) &&& 65535 = pX4_roofsOf (nI g) := by decide +kernel
theorem N_near16 : ∀ g, g < 28 → ¬ pX7_isGangway (nI g) = 0 → nearT g &&& 65535 = nearT g := by decide +kernel
def ngB (i d : Nat) : Bool := decide (pX7_nextTo (nI i) (nI d) < 0)
theorem T_nearA : alB (fun g => decide (pX7_isGangway (nI g) = 0) || alB (fun i => !bt (pX4_roofsOf (nI g)) i || (bt (nearT g) i && alB (fun d => ngB i d || bt (nearT g) (nxt i d)) 4)) 16) 28 = true := by decide +kernel
theorem T_nearB : alB (fun g => decide (pX7_isGangway (nI g) = 0) || alB (fun j => !bt (nearT g) j || exB (fun i => bt (pX4_roofsOf (nI g)) i && (decide (i = j) || exB (fun d => !ngB i d && decide (nxt i d = j)) 4)) 16) 16) 28 = true := by decide +kernel
theorem N_nearA {g : Nat} (hgn : g < 28) (hG : ¬ pX7_isGangway (nI g) = 0) {i : Nat} (hi : i < 16) (hb : bt (pX4_roofsOf (nI g)) i = true) : bt (nearT g) i = true ∧ ∀ d, d < 4 → ¬ pX7_nextTo (nI i) (nI d) < 0 → bt (nearT g) (nxt i d) = true := by
  have h1 := alB_iff.mp T_nearA g hgn
  rw [decide_eq_false hG, Bool.false_or] at h1
  have h2 := alB_iff.mp h1 i hi
  rw [hb, Bool.not_true, Bool.false_or, Bool.and_eq_true] at h2
  refine ⟨h2.1, fun d hd c => ?_⟩
  have h3 := alB_iff.mp h2.2 d hd
  unfold ngB at h3
  rw [decide_eq_false c, Bool.false_or] at h3
  exact h3
theorem N_nearB {g : Nat} (hgn : g < 28) (hG : ¬ pX7_isGangway (nI g) = 0) {j : Nat} (hj : j < 16) (hb : bt (nearT g) j = true) : ∃ i, i < 16 ∧ bt (pX4_roofsOf (nI g)) i = true ∧ (i = j ∨ ∃ d, d < 4 ∧ ¬ pX7_nextTo (nI i) (nI d) < 0 ∧ nxt i d = j) := by
  have h1 := alB_iff.mp T_nearB g hgn
  rw [decide_eq_false hG, Bool.false_or] at h1
  have h2 := alB_iff.mp h1 j hj
  rw [hb, Bool.not_true, Bool.false_or] at h2
  obtain ⟨i, hi, h3⟩ := exB_iff.mp h2
  rw [Bool.and_eq_true, Bool.or_eq_true] at h3
  refine ⟨i, hi, h3.1, ?_⟩
  rcases h3.2 with q | q
  · exact Or.inl (of_decide_eq_true q)
  · obtain ⟨d, hd, h4⟩ := exB_iff.mp q
    rw [Bool.and_eq_true] at h4
    exact Or.inr ⟨d, hd, nd_f.mp (show (!decide (¬ pX7_nextTo (nI i) (nI d) < 0)) = false by
      have := h4.1
      unfold ngB at this
      by_cases c : pX7_nextTo (nI i) (nI d) < 0
      · rw [decide_eq_true c] at this
        exact absurd this (by decide)
      · rw [decide_eq_true (show ¬ pX7_nextTo (nI i) (nI d) < 0 from c)]
        rfl), of_decide_eq_true h4.2⟩
theorem e_near (h : RC N u w (m 0)) (hk : k < 28) (hg : ¬ pX7_isGangway (nI k) = 0) : pX0_isNearCoop u w (nI k) = 0 ↔ pX7_nearCoops m v &&& pX7_bothOf m v (nI k) = 0 := by
  obtain ⟨-, h10, -, h16, -⟩ := h.2.2
  unfold pX0_isNearCoop
  rw [if_01, h10, N_roofs m v k hk]
  show m 0 9 &&& nearT k = 0 ↔ _
  rw [and_0, and_0]
  constructor
  · intro z i hi h1
    cases h2 : bt (pX4_roofsOf (nI k)) i
    · rfl
    · exfalso
      have hi16 : i < 16 := by
        rcases Nat.lt_or_ge i 16 with q | q
        · exact q
        · rw [M16_of (N_both16 k hk hg) i q] at h2
          exact absurd h2 (by decide)
      obtain ⟨t1, t2⟩ := N_nearA hk hg hi16 h2
      rw [nc_bits, decide_eq_true hi16, Bool.true_and, Bool.or_eq_true] at h1
      rcases h1 with h1 | h1
      · have := z i hi h1
        rw [t1] at this
        exact absurd this (by decide)
      · obtain ⟨d, hd, hb⟩ := exB_iff.mp h1
        unfold nbB at hb
        rw [Bool.and_eq_true] at hb
        have c1 : ¬ pX7_nextTo (nI i) (nI d) < 0 := fun q => by
          rw [decide_eq_true q] at hb
          exact absurd hb.1 (by decide)
        have := z (nxt i d) (by have := (N_nxt i hi16 d hd c1).2; omega) hb.2
        rw [t2 d hd c1] at this
        exact absurd this (by decide)
  · intro z j hj h1
    cases h2 : bt (nearT k) j
    · rfl
    · exfalso
      have hj16 : j < 16 := by
        rcases Nat.lt_or_ge j 16 with q | q
        · exact q
        · rw [h16 j q] at h1
          exact absurd h1 (by decide)
      obtain ⟨i, hi, hb, hc⟩ := N_nearB hk hg hj16 h2
      have : bt (pX7_nearCoops m v) i = true := by
        rw [nc_bits, decide_eq_true hi, Bool.true_and, Bool.or_eq_true]
        rcases hc with q | ⟨d, hd, c1, c2⟩
        · subst q
          exact Or.inl h1
        · refine Or.inr (exB_iff.mpr ⟨d, hd, ?_⟩)
          unfold nbB
          rw [decide_eq_false c1, c2, h1]
          rfl
      have := z i (by omega) this
      rw [hb] at this
      exact absurd this (by decide)
/-! reasons -/
theorem r_notG (h : RC N u w s) (hk : k < 28) (hg : pX7_isGangway (nI k) = 0) : thB s k = false ∧ lnB s k = false := by
  obtain ⟨b, l, a, c, h1, h2, h3, h4, h5, h6, h7, h8⟩ := h.1 k hk
  obtain ⟨rfl, rfl⟩ := h8 hg
  unfold thB lnB
  rw [h2, h5]
  exact ⟨rfl, rfl⟩
theorem e_hang (h : RC N u w (m 0)) (ho : o < 4) (hk : k < 28) : pX0_reasonNotToHang u w (nI o) (nI k) = pX7_reasonToHang m v (nI o) (nI k) := by
  obtain ⟨-, e5, -, -, e8⟩ := h.2.1 o ho
  unfold pX0_reasonNotToHang pX7_reasonToHang
  refine if_iff ((r6_there h hk).trans (r7_there_sym hk)) (fun _ => rfl) (fun c1 => ?_)
  have hg : ¬ pX7_isGangway (nI k) = 0 := fun z => c1 ((r6_there h hk).mpr (r_notG h hk z).1)
  refine if_iff ((r6_line h hk).trans (r7_line h hk).symm) (fun _ => ?_) (fun _ => rfl)
  have e1 : pX7_ofOwner m v (nI o) 1 = m 0 (10 + 5 * o + 1) := ow_k (j := 1) m v ho (by decide)
  have e2 : pX7_ofOwner m v (nI o) 2 = m 0 (10 + 5 * o + 2) := ow_k (j := 2) m v ho (by decide)
  rw [N_roofs m v k hk, nI_clamp (show o < 2 ^ 31 by omega), e5, e1, e2, e8, ← e_smokeNow (v := v) h]
  refine if_iff Iff.rfl (fun _ => ?_) (fun _ => rfl)
  refine if_iff Iff.rfl (fun _ => ?_) (fun _ => rfl)
  refine if_iff Iff.rfl (fun _ => ?_) (fun _ => rfl)
  refine if_iff ?_ (fun _ => rfl) (fun _ => rfl)
  rw [← N_roofs m v k hk]
  exact e_near h hk hg
theorem e_walk (h : RC N u w (m 0)) (ho : o < 4) (hk : k < 28) (a3 b3 : Int32) (hab : a3 = pX7_otherOf (nI k) b3) : pX0_reasonNotToWalk u w (nI o) (nI k) a3 = pX7_reasonToWalk m v (nI o) (nI k) b3 := by
  obtain ⟨e4, e5, -, -, e8⟩ := h.2.1 o ho
  have e1 : pX7_ofOwner m v (nI o) 1 = m 0 (10 + 5 * o + 1) := ow_k (j := 1) m v ho (by decide)
  have e0 : u 0 k = m 0 (30 + 4 * k) := by
    obtain ⟨b, l, a, c, h1, h2, -⟩ := h.1 k hk
    rw [h1, h2]
  subst hab
  unfold pX0_reasonNotToWalk pX7_reasonToWalk
  refine if_iff ((r6_there h hk).trans (r7_there_sym hk)) (fun _ => rfl) (fun c1 => ?_)
  rw [nI_clamp (show o < 2 ^ 31 by omega), nI_clamp (show k < 2 ^ 31 by omega), e4, e5, e1, ow_0 m v ho, of_0 m v hk, e0, N_isIn]
  refine if_iff Iff.rfl (fun _ => ?_) (fun _ => rfl)
  refine if_iff ((r6_line h hk).trans (r7_line h hk).symm) (fun _ => rfl) (fun _ => ?_)
  exact if_iff ((r6_owner h hk ho).trans (r7_owner hk).symm) (fun _ => rfl) (fun _ => rfl)
end RR
