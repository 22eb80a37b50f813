/-! ===== holds: every check of it is true of a city that is in order ===== -/
theorem bc_z (x : Int32) : pJ6_bitCount_0f7a4 x ≤ 0 ↔ x = 0 := by
  rw [bc_eq, nI_lz (by have := fb_ct_le (bt x) 32; omega), fb_ct_zero]
  refine ⟨fun z => b_ext (fun i hi => by rw [z i hi, b_0]), fun z i _ => by rw [z, b_0]⟩
theorem n_add0 {c : Prop} [Decidable c] {a : Nat} {p : Bool} (h : c ↔ p = false) : nI a + (if c then (0 : Int32) else 1) = nI (a + if p then 1 else 0) := by
  by_cases q : c
  · rw [if_pos q, h.mp q, if_neg Bool.false_ne_true, Int32.add_zero, Nat.add_zero]
  · rw [if_neg q, if_pos (bf.mp (fun z => q (h.mpr z))), nI_1]
section HO
variable {B : Nat} {rt : Nat → Int32} {sg : Nat → Nat → Int32} {pw : Nat → Int32} {rd : Nat → Int32} {u : Nat → Nat → Int32} {w : Nat → Int32} {h : Nat → (Nat → Nat → Int32) × (Nat → Int32)} {r : Nat} {v : Nat → Int32} {tu : Nat → Nat → Int32} {tw : Nat → Int32} {su : Nat → Nat → Int32} {sw : Nat → Int32} {g : Nat → Nat → Int32} {k o : Nat}
theorem CI_no (H : CI B u w) (hk : k < 28) (hg : gw k = false) : ln u k = false := bt_f.mp (fun z => by rw [(CI_ln H hk z).2.1] at hg; exact absurd hg (by decide))
theorem h_124 (H : CI B u w) : ∀ n, n ≤ 28 → (pL_holds_L124 rt sg pw rd u w h r v tu tw su sw g n).1 = nI (fb_ct (ln u) n) ∧ (pL_holds_L124 rt sg pw rd u w h r v tu tw su sw g n).2.1 = nI (fb_ct (cl u) n) ∧ (pL_holds_L124 rt sg pw rd u w h r v tu tw su sw g n).2.2.1 = pX0_sumOverLines_3_L4 u w n ∧ (pL_holds_L124 rt sg pw rd u w h r v tu tw su sw g n).2.2.2.1 = pX0_sumOverLines_4_L4 u w n ∧ (pL_holds_L124 rt sg pw rd u w h r v tu tw su sw g n).2.2.2.2 = pX0_linesSmokedBy_L11 u w (w 11) n := by
  intro n
  induction n with
  | zero => intro _; exact ⟨rfl, rfl, rfl, rfl, rfl⟩
  | succ n ih =>
    intro hn
    obtain ⟨i1, i2, i3, i4, i5⟩ := ih (by omega)
    rw [pL_holds_L124_s, pX0_sumOverLines_3_L4_s, pX0_sumOverLines_4_L4_s, pX0_linesSmokedBy_L11_s, fb_ct_succ, fb_ct_succ]
    generalize pL_holds_L124 rt sg pw rd u w h r v tu tw su sw g n = X at i1 i2 i3 i4 i5 ⊢
    have hk : n < 28 := by omega
    by_cases c : pL_bridge (nI n) = 0
    · have hg := (br_iff hk).mp c
      have hl := CI_no H hk hg
      have hc : cl u n = false := by unfold cl; rw [hl]; rfl
      rw [if_pos c, if_pos ((hl_iff hk).mpr hl), if_pos ((hl_iff hk).mpr hl), if_pos ((hl_iff hk).mpr hl), hl, hc, if_neg Bool.false_ne_true]
      exact ⟨i1, i2, i3, i4, i5⟩
    · have hg := bf.mp (fun z => c ((br_iff hk).mpr z))
      rw [if_neg c]
      by_cases hl : ln u n = false
      · have hc : cl u n = false := by unfold cl; rw [hl]; rfl
        have e3 : fG u w (nI n) 3 = -4 := (G3_no H hk hg).mpr hl
        rw [if_pos e3, if_pos e3, if_pos e3, if_pos e3, if_pos e3, if_pos ((hl_iff hk).mpr hl), if_pos ((hl_iff hk).mpr hl), if_pos ((hl_iff hk).mpr hl), hl, hc, if_neg Bool.false_ne_true]
        refine ⟨?_, ?_, ?_, ?_, ?_⟩ <;> dsimp only <;> rw [Int32.add_zero] <;> assumption
      · have e3 : ¬ fG u w (nI n) 3 = -4 := fun z => hl ((G3_no H hk hg).mp z)
        have hn0 : ¬ pX0_hasLine u w (nI n) = 0 := fun z => hl ((hl_iff hk).mp z)
        rw [if_neg e3, if_neg e3, if_neg e3, if_neg e3, if_neg e3, if_neg hn0, if_neg hn0, if_neg hn0, G_4 hk hg, G_5 hk hg, if_neg hl, if_neg hl, bf.mp hl, if_pos rfl, G_6 hg]
        refine ⟨?_, ?_, ?_, ?_, ?_⟩
        · dsimp only
          rw [i1, nI_1]
        · dsimp only
          rw [i2]
          unfold cl
          rw [bf.mp hl, Bool.true_and]
          by_cases q2 : u 2 n = 0
          · rw [if_pos q2, decide_eq_true q2, Bool.true_and]
            by_cases q3 : u 3 n = 0
            · rw [if_pos q3, decide_eq_true q3, if_pos rfl, nI_1]
            · rw [if_neg q3, decide_eq_false q3, if_neg Bool.false_ne_true, Int32.add_zero, Nat.add_zero]
          · rw [if_neg q2, decide_eq_false q2, if_neg nfa, Int32.add_zero, Nat.add_zero]
        · dsimp only
          rw [i3]
        · dsimp only
          rw [i4]
        · dsimp only
          rw [i5]
          by_cases q : pX0_smokeBlown u w (w 11) &&& pX4_roofsOf (nI n) = 0
          · rw [if_pos ((bc_z _).mpr q), if_pos q, Int32.add_zero]
          · rw [if_neg (fun z => q ((bc_z _).mp z)), if_neg q]
theorem h_499 : ∀ n, n ≤ 16 → (pL_holds_L499 rt sg pw rd u w h r v tu tw su sw g n).1 = nI (fb_ct (bt (pX0_smokeBlown u w (w 11))) n) ∧ (pL_holds_L499 rt sg pw rd u w h r v tu tw su sw g n).2.1 = nI (fb_ct (bt (w 9)) n) ∧ (pL_holds_L499 rt sg pw rd u w h r v tu tw su sw g n).2.2 = nI (fb_ct (bt (w 10)) n) := by
  intro n
  induction n with
  | zero => intro _; exact ⟨rfl, rfl, rfl⟩
  | succ n ih =>
    intro hn
    obtain ⟨i1, i2, i3⟩ := ih (by omega)
    rw [pL_holds_L499_s, R_0 (by omega), R_1 (by omega), R_3 (by omega), bo_b1 _ (by omega), bo_b1 _ (by omega), bo_b1 _ (by omega)]
    generalize pL_holds_L499 rt sg pw rd u w h r v tu tw su sw g n = X at i1 i2 i3 ⊢
    refine ⟨?_, ?_, ?_⟩
    · dsimp only
      rw [i1, nI_add]
      rfl
    · dsimp only
      rw [i2, nI_add]
      rfl
    · dsimp only
      rw [i3, nI_add]
      rfl
theorem its_iff (hk : k < 28) {q : Nat} (hq : q < 16) : ((if (pL_bridge (nI k)) = 0 then 0 else (if (fG u w (nI k) 1) = (nI q) then 1 else (if (fG u w (nI k) 2) = (nI q) then 1 else 0)) : Int32)) = 0 ↔ at_ q k = false := by
  by_cases c : pL_bridge (nI k) = 0
  · rw [if_pos c]
    refine ⟨fun _ => ?_, fun _ => rfl⟩
    unfold at_
    rw [(br_iff hk).mp c]
    rfl
  · have hg := bf.mp (fun z => c ((br_iff hk).mpr z))
    obtain ⟨h1, h2, h3, h4, -⟩ := N_ls k hk
    rw [if_neg c, G_1 hg, G_2 hg, h1, h2, ← bt_f, at_iff hk (by omega)]
    by_cases q1 : lsN k = q
    · rw [if_pos (show nI (lsN k) = nI q by rw [q1])]
      exact ⟨fun z => absurd z (by decide), fun z => absurd ⟨hg, Or.inl q1.symm⟩ z⟩
    · rw [if_neg (fun z => q1 ((nI_eq (by omega) (by omega)).mp z))]
      by_cases q2 : grN k = q
      · rw [if_pos (show nI (grN k) = nI q by rw [q2])]
        exact ⟨fun z => absurd z (by decide), fun z => absurd ⟨hg, Or.inr q2.symm⟩ z⟩
      · rw [if_neg (fun z => q2 ((nI_eq (by omega) (by omega)).mp z))]
        exact ⟨fun _ z => z.2.elim (fun z => q1 z.symm) (fun z => q2 z.symm), fun _ => rfl⟩
theorem h_523 (H : CI B u w) {q : Nat} (hq : q < 16) (x : Int32 × Int32 × Int32) : ∀ n, n ≤ 28 → (pL_holds_L523 rt sg pw rd u w h r v tu tw su sw g q x n).1 = nI (fb_ct (fun k => th u k && at_ q k) n) ∧ (pL_holds_L523 rt sg pw rd u w h r v tu tw su sw g q x n).2 = nI (fb_ct (fun k => ln u k && at_ q k) n) := by
  intro n
  induction n with
  | zero => intro _; exact ⟨rfl, rfl⟩
  | succ n ih =>
    intro hn
    obtain ⟨i1, i2⟩ := ih (by omega)
    have hk : n < 28 := by omega
    have t := its_iff (u := u) (w := w) hk hq
    rw [pL_holds_L523_s, fb_ct_succ, fb_ct_succ]
    generalize pL_holds_L523 rt sg pw rd u w h r v tu tw su sw g q x n = X at i1 i2 ⊢
    generalize ((if (pL_bridge (nI n)) = 0 then 0 else (if (fG u w (nI n) 1) = (nI q) then 1 else (if (fG u w (nI n) 2) = (nI q) then 1 else 0)) : Int32)) = Y at t ⊢
    by_cases c : Y = 0
    · rw [if_pos c, if_pos c, t.mp c, Bool.and_false, Bool.and_false, if_neg Bool.false_ne_true]
      dsimp only
      rw [i1, i2, Int32.add_zero, Int32.add_zero]
      exact ⟨rfl, rfl⟩
    · have ha := bf.mp (fun z => c (t.mpr z))
      have hg := ((at_iff hk (by omega)).mp ha).1
      rw [if_neg c, if_neg c, ha, Bool.and_true, Bool.and_true]
      dsimp only
      rw [i1, i2, G_0 hk hg]
      exact ⟨n_add0 nd_f.symm, n_add0 (G3_no H hk hg)⟩
theorem h_630 {q : Nat} (x : Int32 × Int32 × Int32) : ∀ n, n ≤ 4 → pL_holds_L630 rt sg pw rd u w h r v tu tw su sw g q x n = pX0_ownersOn_L4 u w (nI q) n := by
  intro n
  induction n with
  | zero => intro _; rfl
  | succ n ih =>
    intro hn
    rw [pL_holds_L630_s, pX0_ownersOn_L4_s, ih (by omega), O_3 (by omega)]
    split
    · rfl
    · exact Int32.or_zero
/-! owners: what is open -/
def pwB (u : Nat → Nat → Int32) (w : Nat → Int32) (o k : Nat) : Bool := !decide (pX0_standsAt u w (nI o) (nI k) = 0) && decide (pX0_reasonNotToWalk u w (nI o) (nI k) (pX4_otherRoof (nI k) (u 6 o)) = 0)
theorem n_walks (ho : o < 4) : pX0_walksOpenTo u w (nI o) = nI (fb_ct (pwB u w o) 28) := by
  refine cnt_loop (f := pX0_walksOpenTo_L4 u w (nI o)) (N := 28) rfl (fun i hi => ?_) 28 (Nat.le_refl _)
  rw [pX0_walksOpenTo_L4_s, nI_clamp (by omega)]
  unfold pwB
  by_cases c : pX0_standsAt u w (nI o) (nI i) = 0
  · rw [if_pos c, decide_eq_true c]
    rfl
  · rw [if_neg c, decide_eq_false c]
    by_cases c2 : pX0_reasonNotToWalk u w (nI o) (nI i) (pX4_otherRoof (nI i) (u 6 o)) = 0
    · rw [if_pos c2, decide_eq_true c2]
      rfl
    · rw [if_neg c2, decide_eq_false c2]
      rfl
def phB (u : Nat → Nat → Int32) (w : Nat → Int32) (o k : Nat) : Bool := decide (pX0_reasonNotToHang u w (nI o) (nI k) = 0)
theorem n_hangs : pX0_hangingsOpenTo u w (nI o) = nI (fb_ct (phB u w o) 28) := by
  refine cnt_loop (f := pX0_hangingsOpenTo_L4 u w (nI o)) (N := 28) rfl (fun i hi => ?_) 28 (Nat.le_refl _)
  rw [pX0_hangingsOpenTo_L4_s]
  exact if_i decide_eq_true_iff.symm
theorem rw_th {a b c : Int32} (h0 : pX0_reasonNotToWalk u w a b c = 0) : ¬ pX0_isThere u w b = 0 := fun z => by
  unfold pX0_reasonNotToWalk at h0
  rw [if_pos z] at h0
  exact absurd h0 (by decide)
theorem rh_th {a b : Int32} (h0 : pX0_reasonNotToHang u w a b = 0) : ¬ pX0_isThere u w b = 0 ∧ pX0_hasLine u w b = 0 := by
  unfold pX0_reasonNotToHang at h0
  by_cases c : pX0_isThere u w b = 0
  · rw [if_pos c] at h0
    exact absurd h0 (by decide)
  · rw [if_neg c] at h0
    refine ⟨c, ?_⟩
    by_cases c2 : pX0_hasLine u w b = 0
    · exact c2
    · rw [if_neg c2] at h0
      exact absurd h0 (by decide)
theorem gw_24 : fb_ct gw 28 = 24 := by decide +kernel
theorem ph_le (H : CI B u w) : fb_ct (phB u w o) 28 + fb_ct (ln u) 28 ≤ 24 := by
  rw [← fb_ct_or (p := phB u w o) (q := ln u) (fun k hk z => by
    have h1 := (rh_th (of_decide_eq_true z.1)).2
    rw [(hl_iff hk).mp h1] at z
    exact absurd z.2 (by decide)), ← gw_24]
  refine fb_ct_sub (fun k hk z => ?_)
  rcases Bool.or_eq_true_iff.mp z with z | z
  · exact CI_th H hk (bf.mp (fun q => (rh_th (of_decide_eq_true z)).1 ((th_iff hk).mpr q)))
  · exact (CI_ln H hk z).2.1
theorem pw_le (H : CI B u w) (ho : o < 4) {q : Nat} (hq : q < 16) (e : u 6 o = nI q) : fb_ct (pwB u w o) 28 ≤ fb_ct (fun k => th u k && at_ q k) 28 := by
  refine fb_ct_sub (fun k hk z => ?_)
  obtain ⟨z1, z2⟩ := Bool.and_eq_true_iff.mp z
  have ht := bf.mp (fun q => rw_th (of_decide_eq_true z2) ((th_iff hk).mpr q))
  rw [ht, Bool.true_and]
  unfold at_
  rw [CI_th H hk ht, Bool.true_and]
  unfold pX0_standsAt at z1
  rw [nI_clamp (by omega), e] at z1
  exact z1
theorem w_le4 (hk : k < 28) : ∃ n, n ≤ 4 ∧ pX0_windsSmoking u w (nI k) = nI n := by
  refine ⟨fb_ct (fun i => !decide ((pX0_smokeBlown u w (nI i)) &&& (pX4_roofsOf (nI k)) = 0)) 4, fb_ct_le _ _, ?_⟩
  refine cnt_loop (f := pX0_windsSmoking_L4 u w (nI k)) (N := 4) rfl (fun i hi => ?_) 4 (Nat.le_refl _)
  rw [pX0_windsSmoking_L4_s]
  by_cases c : (pX0_smokeBlown u w (nI i)) &&& (pX4_roofsOf (nI k)) = 0
  · rw [if_pos c, decide_eq_true c]
    rfl
  · rw [if_neg c, decide_eq_false c]
    rfl
theorem best_inv : ∀ n, n ≤ 28 → ((pX6_bestPlace_L17 rt sg pw rd u w h r v tu tw su sw g (nI o) n).1 = -4 ∧ (pX6_bestPlace_L17 rt sg pw rd u w h r v tu tw su sw g (nI o) n).2 = 5 ∧ fb_ct (phB u w o) n = 0) ∨ (∃ k, k < 28 ∧ (pX6_bestPlace_L17 rt sg pw rd u w h r v tu tw su sw g (nI o) n).1 = nI k ∧ 0 < fb_ct (phB u w o) n) := by
  intro n
  induction n with
  | zero => intro _; exact Or.inl ⟨rfl, rfl, rfl⟩
  | succ n ih =>
    intro hn
    have ih := ih (by omega)
    rw [pX6_bestPlace_L17_s, fb_ct_succ]
    generalize pX6_bestPlace_L17 rt sg pw rd u w h r v tu tw su sw g (nI o) n = X at ih ⊢
    by_cases c : pX0_reasonNotToHang u w (nI o) (nI n) = 0
    · rw [if_pos c, show phB u w o n = true from decide_eq_true c, if_pos rfl]
      obtain ⟨m, hm, em⟩ := w_le4 (u := u) (w := w) (show n < 28 by omega)
      by_cases c2 : X.2 ≤ pX0_windsSmoking u w (nI n)
      · rw [if_pos c2]
        rcases ih with ⟨-, h2, -⟩ | ⟨k, hk, h1, h2⟩
        · rw [h2, em] at c2
          exact absurd c2 (show ¬ (5 : Int32) ≤ nI m from nI_ge (a := m) (b := 5) (by omega) (by decide))
        · exact Or.inr ⟨k, hk, h1, by omega⟩
      · rw [if_neg c2]
        exact Or.inr ⟨n, by omega, rfl, by omega⟩
    · rw [if_neg c, show phB u w o n = false from decide_eq_false c, if_neg Bool.false_ne_true, Nat.add_zero]
      exact ih
theorem best_iff (ho : o < 4) : fP u w (nI o) = -4 ↔ fb_ct (phB u w o) 28 = 0 := by
  unfold fP pX6_bestPlace
  rw [if_neg (isOw o ho)]
  rcases best_inv (rt := fun _ => 0) (sg := fun _ _ => 0) (pw := fun _ => 0) (rd := fun _ => 0) (u := u) (w := w) (h := fun _ => ((fun _ _ => 0), (fun _ => 0))) (r := 0) (v := fun _ => 0) (tu := fun _ _ => 0) (tw := fun _ => 0) (su := fun _ _ => 0) (sw := fun _ => 0) (g := fun _ _ => 0) (o := o) 28 (Nat.le_refl _) with ⟨h1, -, h3⟩ | ⟨k, hk, h1, h3⟩
  · exact ⟨fun _ => h3, fun _ => h1⟩
  · rw [h1]
    exact ⟨fun z => absurd z (nI_m4 (by omega)), fun z => by omega⟩
/-! cleanness -/
theorem T_dv : ∀ a, a < 29 → ∀ b, b < 29 → ¬ b = 0 → vf_n64 (FP.ddiv (FP.i2d (nI a)) (FP.i2d (nI b))) ∧ Op.cmpValue (FP.dcmp (FP.ddiv (FP.i2d (nI a)) (FP.i2d (nI b))) (FP.ddiv (FP.i2d (nI a)) (FP.i2d (nI b)))) .l = 0 := by
  unfold vf_n64
  decide +kernel
theorem T_d1 : Op.cmpValue (FP.dcmp FP.dconst1 FP.dconst1) .l = 0 := by decide +kernel
theorem ct29 (p : Nat → Bool) : fb_ct p 28 < 29 := by have := fb_ct_le p 28; omega
theorem L_hne : ¬ (pJ6_bitCount_0f7a4 (pX0_allLines u w)) = 0 → vf_n64 (FP.ddiv (FP.i2d (pJ6_bitCount_0f7a4 (pX0_cleanLines u w))) (FP.i2d (pJ6_bitCount_0f7a4 (pX0_allLines u w)))) := by
  rw [n_lines, n_clean]
  intro z
  exact (T_dv _ (ct29 _) _ (ct29 _) (fun q => z (by rw [q]; rfl))).1
theorem L_val : fL u w = if nI (fb_ct (ln u) 28) = 0 then FP.dconst1 else FP.ddiv (FP.i2d (nI (fb_ct (cl u) 28))) (FP.i2d (nI (fb_ct (ln u) 28))) := by
  unfold fL pX6_cleanness
  rw [n_lines, n_clean]
end HO
