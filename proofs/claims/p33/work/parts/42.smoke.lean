/-! ===== smoke, what can be come to, what is open ===== -/
theorem N_ran16 : ∀ r, r < 16 → ∀ d, d < 4 → ∀ n, n < 4 → pX4_roofAndNext (nI r) (nI d) (nI n) &&& 65535 = pX4_roofAndNext (nI r) (nI d) (nI n) ∧ bt (pX4_roofAndNext (nI r) (nI d) (nI n)) r = true := by decide +kernel
theorem M16_of {x : Int32} (h : x &&& 65535 = x) : M16 x := fun i hi => by
  rw [← h, b_and, b_65535, decide_eq_false (by omega), Bool.and_false]
def lsN (g : Nat) : Nat := if g < 16 then g else g - 16
def grN (g : Nat) : Nat := if g < 16 then g + 1 else g - 12
theorem N_ls : ∀ g, g < 28 → pX4_lesserRoof (nI g) = nI (lsN g) ∧ pX4_greaterRoof (nI g) = nI (grN g) ∧ lsN g < 32 ∧ grN g < 32 ∧ ¬ lsN g = grN g := by decide +kernel
theorem N_ls16 : ∀ g, g < 28 → gw g = true → lsN g < 16 ∧ grN g < 16 ∧ pX4_roofsOf (nI g) &&& 65535 = pX4_roofsOf (nI g) := by decide +kernel
theorem roofs_bt {g : Nat} (hg : g < 28) (i : Nat) : bt (pX4_roofsOf (nI g)) i = (decide (i = lsN g) || decide (i = grN g)) := by
  obtain ⟨h1, h2, h3, h4, -⟩ := N_ls g hg
  unfold pX4_roofsOf
  rw [h1, h2, b_or, bt_shl h3, bt_shl h4]
theorem at_iff {r g : Nat} (hg : g < 28) (hr : r < 32) : at_ r g = true ↔ gw g = true ∧ (r = lsN g ∨ r = grN g) := by
  unfold at_
  rw [Bool.and_eq_true_iff, nd_t, isIn_0 _ hr, bf, roofs_bt hg, Bool.or_eq_true_iff, decide_eq_true_iff, decide_eq_true_iff]
theorem ct_pt (p : Nat → Bool) (a : Nat) : ∀ n, fb_ct (fun i => p i && decide (i = a)) n = if a < n ∧ p a = true then 1 else 0 := by
  intro n
  induction n with
  | zero => rw [if_neg (by omega)]; rfl
  | succ n ih =>
    rw [fb_ct_succ, ih]
    by_cases e : n = a
    · subst e
      rw [if_neg (fun z => absurd z.1 (Nat.lt_irrefl n)), decide_eq_true rfl, Bool.and_true]
      by_cases q : p n = true
      · rw [if_pos q, if_pos ⟨Nat.lt_succ_self n, q⟩]
      · rw [if_neg q, if_neg (fun z => q z.2)]
    · rw [decide_eq_false e, Bool.and_false, if_neg Bool.false_ne_true, Nat.add_zero]
      exact if_i ⟨fun z => ⟨by omega, z.2⟩, fun z => ⟨by omega, z.2⟩⟩
def b1 (b : Bool) : Nat := if b = true then 1 else 0
theorem bc_roofs (x : Int32) {g : Nat} (hg : g < 28) : pJ6_bitCount_0f7a4 (x &&& pX4_roofsOf (nI g)) = nI (b1 (bt x (lsN g)) + b1 (bt x (grN g))) := by
  obtain ⟨-, -, h3, h4, h5⟩ := N_ls g hg
  rw [bc_eq]
  have e : fb_ct (bt (x &&& pX4_roofsOf (nI g))) 32 = fb_ct (fun k => (bt x k && decide (k = lsN g)) || (bt x k && decide (k = grN g))) 32 := fb_ct_cong (fun k _ => by
    rw [b_and, roofs_bt hg]
    cases bt x k <;> rfl)
  rw [e, fb_ct_or (p := fun k => bt x k && decide (k = lsN g)) (q := fun k => bt x k && decide (k = grN g)) (fun k _ z => h5 ((of_decide_eq_true (Bool.and_eq_true_iff.mp z.1).2).symm.trans (of_decide_eq_true (Bool.and_eq_true_iff.mp z.2).2))), ct_pt, ct_pt]
  unfold b1
  rw [if_i (show (lsN g < 32 ∧ bt x (lsN g) = true) ↔ bt x (lsN g) = true from ⟨fun z => z.2, fun z => ⟨h3, z⟩⟩), if_i (show (grN g < 32 ∧ bt x (grN g) = true) ↔ bt x (grN g) = true from ⟨fun z => z.2, fun z => ⟨h4, z⟩⟩)]
theorem bo_b1 (x : Int32) {k : Nat} (hk : k < 32) : pX6_bitOf x (nI k) = nI (b1 (bt x k)) := by
  rw [bitOf_eq x hk, isIn_bit x hk]
  unfold b1
  split <;> rfl
section SM
variable {B : Nat} {u : Nat → Nat → Int32} {w : Nat → Int32} {k o r d q : Nat}
def smP (w : Nat → Int32) (d q r i : Nat) : Bool := bt (w 9) i && bt (pX4_roofAndNext (nI i) (nI d) (nI q)) r
theorem smoke16 (hd : d < 4) (hq : q < 4) (h12 : w 12 = nI q) : M16 (pX0_smokeBlown u w (nI d)) := by
  have key : ∀ n, n ≤ 16 → M16 (pX0_smokeBlown_L4 u w (nI d) n) := by
    intro n
    induction n with
    | zero => intro _; exact M16_0
    | succ n ih =>
      intro hn
      rw [pX0_smokeBlown_L4_s, h12]
      split
      · exact ih (by omega)
      · exact M16_or (ih (by omega)) (M16_of (N_ran16 n (by omega) d hd q hq).1)
  exact key 16 (Nat.le_refl _)
theorem smoke_bt (hd : d < 4) (hq : q < 4) (h12 : w 12 = nI q) (r : Nat) : bt (pX0_smokeBlown u w (nI d)) r = decide (0 < fb_ct (smP w d q r) 16) := by
  have key : ∀ n, n ≤ 16 → bt (pX0_smokeBlown_L4 u w (nI d) n) r = decide (0 < fb_ct (smP w d q r) n) := by
    intro n
    induction n with
    | zero => intro _; exact b_0 r
    | succ n ih =>
      intro hn
      rw [pX0_smokeBlown_L4_s, h12, fb_ct_succ]
      by_cases c : pX6_isIn (w 9) (nI n) = 0
      · rw [if_pos c, ih (by omega), show smP w d q r n = false by unfold smP; rw [(isIn_0 _ (by omega)).mp c]; rfl, if_neg Bool.false_ne_true, Nat.add_zero]
      · rw [if_neg c, b_or, ih (by omega), show smP w d q r n = bt (pX4_roofAndNext (nI n) (nI d) (nI q)) r by unfold smP; rw [bf.mp (fun z => c ((isIn_0 _ (by omega)).mpr z)), Bool.true_and]]
        by_cases e : bt (pX4_roofAndNext (nI n) (nI d) (nI q)) r = true
        · rw [e, if_pos rfl, Bool.or_true, decide_eq_true (Nat.succ_pos _)]
        · rw [bt_f.mp e, if_neg Bool.false_ne_true, Bool.or_false, Nat.add_zero]
  exact key 16 (Nat.le_refl _)
theorem chim_n (hr : r < 16) (h11 : w 11 = nI d) (h12 : w 12 = nI q) : pX0_chimneysSmoking u w (nI r) = nI (fb_ct (smP w d q r) 16) := by
  refine cnt_loop (f := pX0_chimneysSmoking_L4 u w (nI r)) (N := 16) rfl (fun i hi => ?_) 16 (Nat.le_refl _)
  rw [pX0_chimneysSmoking_L4_s, h11, h12]
  unfold smP
  by_cases c : pX6_isIn (w 9) (nI i) = 0
  · rw [if_pos c, (isIn_0 _ (by omega)).mp c, if_neg nfa]
  · rw [if_neg c, bf.mp (fun z => c ((isIn_0 _ (by omega)).mpr z)), Bool.true_and]
    by_cases c2 : pX6_isIn (pX4_roofAndNext (nI i) (nI d) (nI q)) (nI r) = 0
    · rw [if_pos c2, (isIn_0 _ (by omega)).mp c2, if_neg Bool.false_ne_true]
    · rw [if_neg c2, if_pos (bf.mp (fun z => c2 ((isIn_0 _ (by omega)).mpr z)))]
theorem chim_own (hr : r < 16) (hd : d < 4) (hq : q < 4) (hc : bt (w 9) r = true) : 0 < fb_ct (smP w d q r) 16 := by
  rcases Nat.eq_zero_or_pos (fb_ct (smP w d q r) 16) with z | z
  · have h1 := fb_ct_zero.mp z r hr
    unfold smP at h1
    rw [hc, (N_ran16 r hr d hd q hq).2] at h1
    exact absurd h1 (by decide)
  · exact z
/-! what can be come to from a roof -/
theorem rf_mono (g : Nat → Nat → Int32) (a2 : Int32) (i : Nat) (x : Int32) {j : Nat} (hj : bt x j = true) : ∀ n, bt (pX5_roofsFrom_L17 g u w a2 i x n) j = true := by
  intro n
  induction n with
  | zero => exact hj
  | succ n ih =>
    rw [pX5_roofsFrom_L17_s]
    (repeat' split)
    · exact ih
    · exact ih
    · rw [b_or, ih]
      rfl
theorem rf_after (g : Nat → Nat → Int32) (a2 : Int32) (i : Nat) (x : Int32) {j k : Nat} (hk : k < 28) (ht : th u k = true) (hx : bt x r = true) (hr : r = lsN k ∨ r = grN k) (hj : j = lsN k ∨ j = grN k) : ∀ n, k < n → bt (pX5_roofsFrom_L17 g u w a2 i x n) j = true := by
  intro n
  induction n with
  | zero => intro z; omega
  | succ n ih =>
    intro hn
    by_cases e : n = k
    · subst e
      rw [pX5_roofsFrom_L17_s, if_neg (fun z => by rw [(th_iff hk).mp z] at ht; exact absurd ht Bool.false_ne_true)]
      have hrb : bt (pX4_roofsOf (nI n)) r = true := by
        rw [roofs_bt hk]
        rcases hr with z | z
        · rw [decide_eq_true z]
          rfl
        · rw [decide_eq_true z, Bool.or_true]
      have hr32 : r < 32 := by
        obtain ⟨-, -, h3, h4, -⟩ := N_ls n hk
        rcases hr with z | z <;> omega
      rw [if_neg (fun z => by
        have h1 := (and_0 _ _).mp z r hr32 (rf_mono g a2 i x hx n)
        rw [hrb] at h1
        exact absurd h1 (by decide)), b_or, roofs_bt hk]
      rcases hj with z | z
      · rw [decide_eq_true z]
        simp
      · rw [decide_eq_true z]
        simp
    · have h1 := ih (by omega)
      rw [pX5_roofsFrom_L17_s]
      (repeat' split)
      · exact h1
      · exact h1
      · rw [b_or, h1]
        rfl
theorem rf_stay (g : Nat → Nat → Int32) (a2 : Int32) (i : Nat) (hr : r < 16) (hB : CI B u w) (hn : ∀ k, k < 28 → (th u k && at_ r k) = false) : ∀ n, n ≤ 28 → pX5_roofsFrom_L17 g u w a2 i ((1 : Int32) <<< (nI r &&& 31)) n = (1 : Int32) <<< (nI r &&& 31) := by
  intro n
  induction n with
  | zero => intro _; rfl
  | succ n ih =>
    intro h1
    rw [pX5_roofsFrom_L17_s, ih (by omega)]
    by_cases c : pX0_isThere u w (nI n) = 0
    · rw [if_pos c]
    · have ht := bf.mp (fun z => c ((th_iff (by omega)).mpr z))
      have hg := CI_th hB (by omega) ht
      have h2 := hn n (by omega)
      rw [ht, Bool.true_and] at h2
      rw [if_neg c, if_pos ((and_0 _ _).mpr (fun j hj hb => by
        rw [bt_shl (by omega)] at hb
        have e := of_decide_eq_true hb
        subst e
        refine bt_f.mp (fun z => ?_)
        rw [roofs_bt (by omega), Bool.or_eq_true_iff, decide_eq_true_iff, decide_eq_true_iff] at z
        have := (at_iff (by omega) (by omega)).mpr ⟨hg, z⟩
        rw [this] at h2
        exact absurd h2 (by decide)))]
theorem rf_16 (g : Nat → Nat → Int32) (a2 : Int32) (i : Nat) (hB : CI B u w) {x : Int32} (hx : M16 x) : ∀ n, n ≤ 28 → M16 (pX5_roofsFrom_L17 g u w a2 i x n) := by
  intro n
  induction n with
  | zero => intro _; exact hx
  | succ n ih =>
    intro h1
    rw [pX5_roofsFrom_L17_s]
    by_cases c : pX0_isThere u w (nI n) = 0
    · rw [if_pos c]
      exact ih (by omega)
    · rw [if_neg c]
      split
      · exact ih (by omega)
      · exact M16_or (ih (by omega)) (M16_of (N_ls16 n (by omega) (CI_th hB (by omega) (bf.mp (fun z => c ((th_iff (by omega)).mpr z))))).2.2)
theorem n16 {x : Int32} (h : M16 x) : pJ6_bitCount_0f7a4 x = nI (fb_ct (bt x) 16) := by
  rw [bc_eq]
  have e := fb_ct_split (bt x) 16 16
  rw [show fb_ct (bt x) 32 = fb_ct (bt x) (16 + 16) from rfl, e, show fb_ct (fun k => bt x (16 + k)) 16 = 0 from fb_ct_zero.mpr (fun k _ => h _ (by omega)), Nat.add_zero]
theorem rf_ans (g : Nat → Nat → Int32) (hr : r < 16) (hB : CI B u w) : ∃ n, pJ6_bitCount_0f7a4 (pX5_roofsFrom g u w (nI r)) = nI n ∧ 1 ≤ n ∧ n ≤ 16 ∧ (n = 1 ↔ fb_ct (fun k => th u k && at_ r k) 28 = 0) := by
  have h16 : ∀ n, M16 (pX5_roofsFrom_L7 g u w (nI r) n) := by
    intro n
    induction n with
    | zero => exact M16_shl hr
    | succ n ih =>
      rw [pX5_roofsFrom_L7_s]
      exact rf_16 g (nI r) n hB ih 28 (Nat.le_refl _)
  have hself : ∀ n, bt (pX5_roofsFrom_L7 g u w (nI r) n) r = true := by
    intro n
    induction n with
    | zero =>
      show bt ((1 : Int32) <<< (nI r &&& 31)) r = true
      rw [bt_shl (by omega), decide_eq_true rfl]
    | succ n ih =>
      rw [pX5_roofsFrom_L7_s]
      exact rf_mono g (nI r) n _ ih 28
  refine ⟨fb_ct (bt (pX5_roofsFrom g u w (nI r))) 16, n16 (h16 16), ?_, fb_ct_le _ _, ?_⟩
  · rcases Nat.eq_zero_or_pos (fb_ct (bt (pX5_roofsFrom g u w (nI r))) 16) with z | z
    · have h1 := fb_ct_zero.mp z r hr
      rw [show bt (pX5_roofsFrom g u w (nI r)) r = true from hself 16] at h1
      exact absurd h1 (by decide)
    · exact z
  · by_cases c : fb_ct (fun k => th u k && at_ r k) 28 = 0
    · have hn := fb_ct_zero.mp c
      have e : ∀ n, pX5_roofsFrom_L7 g u w (nI r) n = (1 : Int32) <<< (nI r &&& 31) := by
        intro n
        induction n with
        | zero => rfl
        | succ n ih =>
          rw [pX5_roofsFrom_L7_s, ih]
          exact rf_stay g (nI r) n hr hB hn 28 (Nat.le_refl _)
      refine ⟨fun _ => c, fun _ => ?_⟩
      rw [show pX5_roofsFrom g u w (nI r) = (1 : Int32) <<< (nI r &&& 31) from e 16]
      rw [show fb_ct (bt ((1 : Int32) <<< (nI r &&& 31))) 16 = fb_ct (fun i => (fun _ => true) i && decide (i = r)) 16 from fb_ct_cong (fun i _ => by rw [bt_shl (by omega)]; rfl), ct_pt, if_pos ⟨hr, rfl⟩]
    · refine ⟨fun z => ?_, fun z => absurd z c⟩
      exfalso
      obtain ⟨k, hk, hp⟩ : ∃ k, k < 28 ∧ (th u k && at_ r k) = true := by
        apply Classical.byContradiction
        intro z2
        exact c (fb_ct_zero.mpr (fun k hk => bt_f.mp (fun z3 => z2 ⟨k, hk, z3⟩)))
      obtain ⟨hp1, hp2⟩ := Bool.and_eq_true_iff.mp hp
      obtain ⟨hg, hrr⟩ := (at_iff hk (by omega)).mp hp2
      obtain ⟨hl16, hg16, -⟩ := N_ls16 k hk hg
      obtain ⟨-, -, -, -, hne⟩ := N_ls k hk
      have hb : ∀ j, (j = lsN k ∨ j = grN k) → bt (pX5_roofsFrom g u w (nI r)) j = true := by
        intro j hj
        show bt (pX5_roofsFrom_L7 g u w (nI r) 16) j = true
        rw [show (16 : Nat) = 15 + 1 from rfl, pX5_roofsFrom_L7_s]
        exact rf_after g (nI r) 15 _ hk hp1 (hself 15) hrr hj 28 hk
      have h2 : fb_ct (fun i => ((fun _ => true) i && decide (i = lsN k)) || ((fun _ => true) i && decide (i = grN k))) 16 ≤ fb_ct (bt (pX5_roofsFrom g u w (nI r))) 16 := fb_ct_sub (fun i _ hi => by
        refine hb i ?_
        rcases Bool.or_eq_true_iff.mp hi with z | z
        · exact Or.inl (of_decide_eq_true (Bool.and_eq_true_iff.mp z).2)
        · exact Or.inr (of_decide_eq_true (Bool.and_eq_true_iff.mp z).2))
      rw [fb_ct_or (p := fun i => (fun _ => true) i && decide (i = lsN k)) (q := fun i => (fun _ => true) i && decide (i = grN k)) (fun i _ z => hne ((of_decide_eq_true (Bool.and_eq_true_iff.mp z.1).2).symm.trans (of_decide_eq_true (Bool.and_eq_true_iff.mp z.2).2))), ct_pt, ct_pt, if_pos ⟨hl16, rfl⟩, if_pos ⟨hg16, rfl⟩] at h2
      omega
end SM
