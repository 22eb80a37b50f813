/-! ===== the calls that look ===== -/
section RDS
variable {N N' : Nat} {rt : Nat → Int32} {sg : Nat → Nat → Int32} {pw : Nat → Int32} {rd : Nat → Int32} {u : Nat → Nat → Int32} {w : Nat → Int32} {h : Nat → (Nat → Nat → Int32) × (Nat → Int32)} {r : Nat} {v : Nat → Int32} {tu : Nat → Nat → Int32} {tw : Nat → Int32} {su : Nat → Nat → Int32} {sw : Nat → Int32} {g : Nat → Nat → Int32} {m : Nat → Nat → Int32} {x : Nat → Int32} {kn n : Nat}
theorem e_walks (H : RC N u w (m 0)) {o : Nat} (ho : o < 4) : pX0_walksOpenTo u w (nI o) = pX7_walksNow m x (nI o) := by
  obtain ⟨-, -, -, ⟨p, hp, e6, f6⟩, -⟩ := H.2.1 o ho
  have f3 : pX7_ofOwner m x (nI o) 3 = nI p := (ow_k (j := 3) m x ho (by decide)).trans f6
  have key : ∀ n, n ≤ 28 → pX0_walksOpenTo_L4 u w (nI o) n = pX7_walksNow_L12 m x (nI o) n := by
    intro n
    induction n with
    | zero => intro _; rw [pX0_walksOpenTo_L4_0, pX7_walksNow_L12_0]
    | succ n ih =>
      intro hn
      have hk : n < 28 := by omega
      have es := e_stands (x := x) H ho hk
      rw [pX0_walksOpenTo_L4_s, pX7_walksNow_L12_s, ih (by omega), nI_clamp (show o < 2 ^ 31 by omega), e6, e_walk (v := x) H ho hk _ (nI p) (N_other n hk p hp), Int32.add_zero]
      rw [f3] at es ⊢
      generalize pX7_walksNow_L12 m x (nI o) n = y
      by_cases c : pX7_isGangway (nI n) = 0
      · have e1 : pX7_isOfRoof (nI n) (nI p) = 0 := by unfold pX7_isOfRoof; rw [if_pos c]
        have e2 : ¬ pX7_reasonToWalk m x (nI o) (nI n) (nI p) = 0 := by
          unfold pX7_reasonToWalk
          rw [if_pos ((r7_there hk).mpr (r_notG H hk c).1)]
          decide
        rw [if_pos e1, if_neg e2]
        split <;> rfl
      · have es := es (by rw [isG_eq]; exact c)
        by_cases c2 : pX0_standsAt u w (nI o) (nI n) = 0
        · rw [if_pos c2, if_pos (es.mp c2)]
        · rw [if_neg c2, if_neg (fun z => c2 (es.mpr z))]
  exact key 28 (Nat.le_refl _)
theorem e_hangs (H : RC N u w (m 0)) {o : Nat} (ho : o < 4) : pX0_hangingsOpenTo u w (nI o) = pX7_hangsNow m x (nI o) := by
  have key : ∀ n, n ≤ 28 → pX0_hangingsOpenTo_L4 u w (nI o) n = pX7_hangsNow_L4 m x (nI o) n := by
    intro n
    induction n with
    | zero => intro _; rw [pX0_hangingsOpenTo_L4_0, pX7_hangsNow_L4_0]
    | succ n ih =>
      intro hn
      have hk : n < 28 := by omega
      rw [pX0_hangingsOpenTo_L4_s, pX7_hangsNow_L4_s, ih (by omega), e_hang (v := x) H ho hk, Int32.add_zero]
      generalize pX7_hangsNow_L4 m x (nI o) n = y
      by_cases c : pX7_isGangway (nI n) = 0
      · have e2 : ¬ pX7_reasonToHang m x (nI o) (nI n) = 0 := by
          unfold pX7_reasonToHang
          rw [if_pos ((r7_there hk).mpr (r_notG H hk c).1)]
          decide
        rw [if_pos c, if_neg e2]
      · rw [if_neg c]
  exact key 28 (Nat.le_refl _)
theorem q_whyNotHang (H : RA N rt sg pw u w h r v su sw m x kn n) (a b : Int32) : pX6_whyNotHang rt sg pw rd u w h r v tu tw su sw g a b = pX7_whyNotHang m x a b := by
  unfold pX6_whyNotHang pX7_whyNotHang
  rw [← isG_eq b]
  by_cases c : pX6_isOwner a = 0
  · rw [if_pos c, if_pos (show pX7_isOwner a = 0 from c)]
  · rw [if_neg c, if_neg (show ¬ pX7_isOwner a = 0 from c)]
    by_cases c2 : pX4_isGangway b = 0
    · rw [if_pos c2, if_pos c2]
    · rw [if_neg c2, if_neg c2]
      obtain ⟨o, ho, rfl⟩ := wi_own c
      obtain ⟨k, hk, rfl⟩ := wi_gang c2
      exact e_hang H.1 ho hk
theorem q_strongest (H : RA N rt sg pw u w h r v su sw m x kn n) (a b c : Int32) : (pX6_strongest rt sg pw rd u w h r v tu tw su sw g a b c).1 = pX7_strongest m x a b c := by
  unfold pX6_strongest pX7_strongest
  rw [in_eq]
  by_cases c1 : pX6_isRoof a = 0
  · rw [if_pos c1, if_pos (show pX7_isRoof a = 0 from c1)]
  · rw [if_neg c1, if_neg (show ¬ pX7_isRoof a = 0 from c1)]
    by_cases c2 : pX6_isRoof b = 0
    · rw [if_pos c2, if_pos (show pX7_isRoof b = 0 from c2)]
    · rw [if_neg c2, if_neg (show ¬ pX7_isRoof b = 0 from c2)]
      by_cases c3 : pX6_isWithin c 0 1 = 0
      · rw [if_pos c3, if_pos c3]
      · rw [if_neg c3, if_neg c3]
        obtain ⟨i, hi, rfl⟩ := wi_roof c1
        obtain ⟨k, hk, rfl⟩ := wi_roof c2
        by_cases c4 : c = 0
        · rw [if_pos c4]
          exact e_joining H.1 hi hk
        · rw [if_neg c4]
          have e := e_spreading (G := g) (v := x) H.1 hi hk
          generalize pX5_strongestBySpreading g u w (nI i) (nI k) = z at e ⊢
          exact e
theorem q_steps (H : RA N rt sg pw u w h r v su sw m x kn n) (a b : Int32) : pX6_steps rt sg pw rd u w h r v tu tw su sw g a b = pX7_steps m x a b := by
  unfold pX6_steps pX7_steps
  by_cases c1 : pX6_isOwner a = 0
  · rw [if_pos c1, if_pos (show pX7_isOwner a = 0 from c1)]
  · rw [if_neg c1, if_neg (show ¬ pX7_isOwner a = 0 from c1)]
    by_cases c2 : pX6_isRoof b = 0
    · rw [if_pos c2, if_pos (show pX7_isRoof b = 0 from c2)]
    · rw [if_neg c2, if_neg (show ¬ pX7_isRoof b = 0 from c2)]
      obtain ⟨i, hi, rfl⟩ := wi_own c1
      obtain ⟨k, hk, rfl⟩ := wi_roof c2
      exact e_steps H.1 hi
theorem q_ifWind (H : RA N rt sg pw u w h r v su sw m x kn n) (a : Int32) : pX6_ifWind rt sg pw rd u w h r v tu tw su sw g a = pX7_ifWind m x a := by
  unfold pX6_ifWind pX7_ifWind
  rw [in_eq]
  by_cases c : pX6_isWithin a 0 3 = 0
  · rw [if_pos c, if_pos c]
  · rw [if_neg c, if_neg c]
    obtain ⟨d, hd, rfl⟩ := wi_n (b := 3) (M := 3) rfl (by decide) c
    exact e_smokedBy H.1 (by omega)
theorem q_bestWind (H : RA N rt sg pw u w h r v su sw m x kn n) : pX6_bestWind rt sg pw rd u w h r v tu tw su sw g = pX7_bestWind m x := by
  have key : ∀ n, n ≤ 3 → ∃ d, d < 4 ∧ pX6_bestWind_L4 rt sg pw rd u w h r v tu tw su sw g n = nI d ∧ pX7_bestWind_L4 m x n = nI d := by
    intro n
    induction n with
    | zero => intro _; exact ⟨0, by decide, rfl, rfl⟩
    | succ n ih =>
      intro hn
      obtain ⟨d, hd, e1, e2⟩ := ih (by omega)
      rw [pX6_bestWind_L4_s, pX7_bestWind_L4_s, e1, e2, e_smokedBy (v := x) H.1 hd, e_smokedBy (v := x) H.1 (show n + 1 < 4 by omega)]
      by_cases c : pX7_smokedBy m x (nI d) ≤ pX7_smokedBy m x (nI (n + 1))
      · rw [if_pos c]
        exact ⟨d, hd, rfl, rfl⟩
      · rw [if_neg c]
        exact ⟨n + 1, by omega, rfl, rfl⟩
  obtain ⟨d, -, e1, e2⟩ := key 3 (Nat.le_refl _)
  exact e1.trans e2.symm
theorem q_bestPlace (H : RA N rt sg pw u w h r v su sw m x kn n) (a : Int32) : pX6_bestPlace rt sg pw rd u w h r v tu tw su sw g a = pX7_bestPlace m x a := by
  unfold pX6_bestPlace pX7_bestPlace
  by_cases c : pX6_isOwner a = 0
  · rw [if_pos c, if_pos (show pX7_isOwner a = 0 from c)]
  · rw [if_neg c, if_neg (show ¬ pX7_isOwner a = 0 from c)]
    obtain ⟨o, ho, rfl⟩ := wi_own c
    have key : ∀ n, n ≤ 28 → pX6_bestPlace_L17 rt sg pw rd u w h r v tu tw su sw g (nI o) n = pX7_bestPlace_L17 m x (nI o) n ∧ (pX7_bestPlace_L17 m x (nI o) n).2 ≤ 5 := by
      intro n
      induction n with
      | zero => intro _; exact ⟨rfl, show (5 : Int32) ≤ 5 by decide⟩
      | succ n ih =>
        intro hn
        obtain ⟨ih1, ih2⟩ := ih (by omega)
        have hk : n < 28 := by omega
        rw [pX6_bestPlace_L17_s, pX7_bestPlace_L17_s, ih1, e_hang (v := x) H.1 ho hk, e_winds (v := x) H.1 hk]
        generalize pX7_bestPlace_L17 m x (nI o) n = y at ih2 ⊢
        by_cases c1 : pX7_isGangway (nI n) = 0
        · have e2 : ¬ pX7_reasonToHang m x (nI o) (nI n) = 0 := by
            unfold pX7_reasonToHang
            rw [if_pos ((r7_there hk).mpr (r_notG H.1 hk c1).1)]
            decide
          rw [if_pos c1, if_neg e2, if_pos ih2]
          exact ⟨rfl, ih2⟩
        · rw [if_neg c1]
          by_cases c2 : pX7_reasonToHang m x (nI o) (nI n) = 0
          · rw [if_pos c2, if_pos c2]
            by_cases c3 : y.2 ≤ pX7_windsOver m x (nI n)
            · rw [if_pos c3]
              exact ⟨rfl, ih2⟩
            · rw [if_neg c3]
              exact ⟨rfl, Int32.le_trans (Int32.le_of_lt (Int32.not_le.mp c3)) ih2⟩
          · rw [if_neg c2, if_neg c2, if_pos ih2]
            exact ⟨rfl, ih2⟩
    have k := (key 28 (Nat.le_refl _)).1
    rw [k]
/-! cleanness -/
theorem T_dv : ∀ a, a < 29 → ∀ b, b < 29 → ¬ b = 0 → vf_n64 (FP.ddiv (FP.i2d (nI a)) (FP.i2d (nI b))) ∧ FP.dcmp (FP.ddiv (FP.i2d (nI a)) (FP.i2d (nI b))) (FP.ddiv (FP.i2d (nI a)) (FP.i2d (nI b))) = some .eq := by
  unfold vf_n64
  decide +kernel
theorem T_d1 : FP.dcmp FP.dconst1 FP.dconst1 = some .eq := by decide +kernel
theorem q_cleanness (H : RA N rt sg pw u w h r v su sw m x kn n) (hN : N < 900000) : pX6_cleanness rt sg pw rd u w h r v tu tw su sw g = pX7_cleanness m x ∧ FP.dcmp (pX7_cleanness m x) (pX7_cleanness m x) = some .eq ∧ (¬ pJ6_bitCount_0f7a4 (pX0_allLines u w) = 0 → vf_n64 (FP.ddiv (FP.i2d (pJ6_bitCount_0f7a4 (pX0_cleanLines u w))) (FP.i2d (pJ6_bitCount_0f7a4 (pX0_allLines u w))))) ∧ (¬ pX7_linesNow m x = 0 → vf_n64 (FP.ddiv (FP.i2d (pX7_cleanNow m x)) (FP.i2d (pX7_linesNow m x)))) := by
  have e1 := e_lines (v := x) H.1
  have e2 := e_clean (v := x) H.1 (by omega)
  have l1 := fb_ct_le (lnB (m 0)) 28
  have l2 := fb_ct_le (clB (m 0)) 28
  have q : ¬ pX7_linesNow m x = 0 → vf_n64 (FP.ddiv (FP.i2d (pX7_cleanNow m x)) (FP.i2d (pX7_linesNow m x))) ∧ FP.dcmp (FP.ddiv (FP.i2d (pX7_cleanNow m x)) (FP.i2d (pX7_linesNow m x))) (FP.ddiv (FP.i2d (pX7_cleanNow m x)) (FP.i2d (pX7_linesNow m x))) = some .eq := by
    rw [c7_lines H.1, c7_clean H.1 (by omega)]
    intro c
    exact T_dv _ (by omega) _ (by omega) (fun z => c (by rw [z]; rfl))
  refine ⟨?_, ?_, ?_, fun c => (q c).1⟩
  · unfold pX6_cleanness pX7_cleanness
    rw [e1, e2]
  · unfold pX7_cleanness
    by_cases c : pX7_linesNow m x = 0
    · rw [if_pos c]
      exact T_d1
    · rw [if_neg c]
      exact (q c).2
  · rw [e1, e2]
    exact fun c => (q c).1
/-! what days would bring -/
theorem days_sim {m0 : Nat → Nat → Int32} {x0 : Nat → Int32} {d : Nat} {a2 : Int32} (hd1 : 1 ≤ d) (hd : d ≤ 30) : ∀ (k p N1 : Nat) (u1 : Nat → Nat → Int32) (w1 : Nat → Int32) (m1 : Nat → Nat → Int32) (cl : Int32), p ≤ d → d + 1 ≤ p + k → RC N1 u1 w1 (m1 0) → N1 + 2 * k < 900000 → (p = 0 ∨ cl = pX7_cleanNow m1 x) → (pX6_ifDays_L34 rt sg pw rd u w h r v tu tw su sw g (nI d) a2 k (nI p) u1 w1).1 = (pX7_ifDays_L39 m0 x0 (nI d) a2 k cl (nI p) m1 x).1 ∧ (∀ j, j ≠ 0 → (pX7_ifDays_L39 m0 x0 (nI d) a2 k cl (nI p) m1 x).2.1 j = m1 j) ∧ (∀ q, q < 142 → (pX7_ifDays_L39 m0 x0 (nI d) a2 k cl (nI p) m1 x).2.1 0 q = m1 1 q) ∧ (pX7_ifDays_L39 m0 x0 (nI d) a2 k cl (nI p) m1 x).2.2 = x := by
  intro k
  induction k with
  | zero => intro p N1 u1 w1 m1 cl h1 h2; omega
  | succ k ih =>
    intro p N1 u1 w1 m1 cl h1 h2 hR hN hc
    rw [pX6_ifDays_L34_s, pX7_ifDays_L39_s]
    by_cases c : nI d ≤ nI p
    · have hp : d ≤ p := (nI_leI (by omega) (by omega)).mp c
      have hc : cl = pX7_cleanNow m1 x := hc.resolve_left (by omega)
      rw [if_pos c, if_pos c]
      have fin : ∀ z : Int32, (∀ j, j ≠ 0 → ((z, va_up m1 0 (pX7_copies (fun _ => m1 1) (fun _ => m1 0) 0 0 142 142 0), x) : Int32 × (Nat → Nat → Int32) × (Nat → Int32)).2.1 j = m1 j) ∧ (∀ q, q < 142 → ((z, va_up m1 0 (pX7_copies (fun _ => m1 1) (fun _ => m1 0) 0 0 142 142 0), x) : Int32 × (Nat → Nat → Int32) × (Nat → Int32)).2.1 0 q = m1 1 q) ∧ ((z, va_up m1 0 (pX7_copies (fun _ => m1 1) (fun _ => m1 0) 0 0 142 142 0), x) : Int32 × (Nat → Nat → Int32) × (Nat → Int32)).2.2 = x := fun z => by
        refine ⟨fun j hj => va_up_ne _ _ hj, fun q hq => ?_, rfl⟩
        show pX7_copies (fun _ => m1 1) (fun _ => m1 0) 0 0 142 142 0 q = m1 1 q
        rw [cp_at, if_pos (show 0 ≤ q ∧ q < 0 + 142 by omega), show 0 + (q - 0) = q by omega]
      by_cases a0 : a2 = 0
      · rw [if_pos a0, if_pos a0]
        exact ⟨(e_clean hR (by omega)).trans hc.symm, fin _⟩
      · rw [if_neg a0, if_neg a0]
        by_cases a1 : a2 = 1
        · rw [if_pos a1, if_pos a1]
          exact ⟨e_sum2 hR, fin _⟩
        · rw [if_neg a1, if_neg a1]
          by_cases a22 : a2 = 2
          · rw [if_pos a22, if_pos a22]
            exact ⟨e_sum3 hR, fin _⟩
          · rw [if_neg a22, if_neg a22]
            obtain ⟨-, -, -, -, ⟨e, he, h11, h1⟩, -⟩ := hR.2.2
            exact ⟨h11.trans h1.symm, fin _⟩
    · have hp : ¬ d ≤ p := fun z => c (nI_le z (by omega))
      rw [if_neg c, if_neg c, nI_1]
      obtain ⟨q1, q2, q3⟩ := w_day (v := x) hR (by omega)
      have k0 := K0_day m1 x
      generalize pX7_goDay m1 x = z at q1 q2 q3 k0 ⊢
      generalize pX0_passDay u1 w1 = y at q1 ⊢
      obtain ⟨z1, z2, z3⟩ := z
      dsimp only at q1 q2 q3 k0 ⊢
      subst q3
      obtain ⟨i1, i2, i3, i4⟩ := ih (p + 1) (N1 + 2) y.1 y.2 z2 z1 (by omega) (by omega) q1 (by omega) (Or.inr q2)
      exact ⟨i1, fun j hj => (i2 j hj).trans (k0.2 j hj), fun q hq => by rw [i3 q hq, k0.2 1 (by decide)], i4⟩
theorem q_ifDays (H : RA N rt sg pw u w h r v su sw m x kn n) (hN : N < 800000) (a b : Int32) : (pX6_ifDays rt sg pw rd u w h r v tu tw su sw g a b).1 = (pX7_ifDays m x a b).1 ∧ RA N rt sg pw u w h r v su sw (pX7_ifDays m x a b).2.1 (pX7_ifDays m x a b).2.2 kn n := by
  unfold pX6_ifDays pX7_ifDays
  rw [in_eq, in_eq]
  by_cases c : pX6_isWithin a 1 30 = 0
  · rw [if_pos c, if_pos c]
    exact ⟨rfl, H⟩
  · rw [if_neg c, if_neg c]
    by_cases c2 : pX6_isWithin b 0 3 = 0
    · rw [if_pos c2, if_pos c2]
      exact ⟨rfl, H⟩
    · rw [if_neg c2, if_neg c2]
      obtain ⟨d, hd1, hd, rfl⟩ : ∃ d, 1 ≤ d ∧ d ≤ 30 ∧ a = nI d := by
        unfold pX6_isWithin at c
        by_cases c1 : a < 1
        · rw [if_pos c1] at c
          exact absurd rfl c
        · rw [if_neg c1] at c
          by_cases c2 : 30 < a
          · rw [if_pos c2] at c
            exact absurd rfl c
          · have h1 := Int32.le_iff_toInt_le.mp (Int32.not_lt.mp c1)
            rw [show (1 : Int32).toInt = 1 from rfl] at h1
            have h0 : ¬ a < 0 := fun z => by
              have := Int32.lt_iff_toInt_lt.mp z
              rw [show (0 : Int32).toInt = 0 from rfl] at this
              omega
            obtain ⟨k, hk, rfl⟩ := nI_of2 (M := 30) (n := 30) rfl h0 (Int32.not_lt.mp c2)
            rw [nI_toInt (by omega)] at h1
            exact ⟨k, by omega, hk, rfl⟩
      obtain ⟨ha, hb, hc, hd', he⟩ := H
      have hR : RC N u w ((va_up m 1 (pX7_copies (fun _ => m 0) (fun _ => m 1) 0 0 142 142 0)) 0) := ha
      have S := days_sim (rt := rt) (sg := sg) (pw := pw) (rd := rd) (u := u) (w := w) (h := h) (r := r) (v := v) (tu := tu) (tw := tw) (su := su) (sw := sw) (g := g) (x := x) (m0 := m) (x0 := x) (a2 := b) hd1 hd 31 0 N u w _ 0 (by omega) (by omega) hR (by omega) (Or.inl rfl)
      rw [nI_0] at S
      have hq : ∀ q, q < 142 → (va_up m 1 (pX7_copies (fun _ => m 0) (fun _ => m 1) 0 0 142 142 0)) 1 q = m 0 q := fun q hq => by
        show pX7_copies (fun _ => m 0) (fun _ => m 1) 0 0 142 142 0 q = m 0 q
        rw [cp_at, if_pos (show 0 ≤ q ∧ q < 0 + 142 by omega), show 0 + (q - 0) = q by omega]
      have h2 : (va_up m 1 (pX7_copies (fun _ => m 0) (fun _ => m 1) 0 0 142 142 0)) 2 = m 2 := rfl
      have h3 : (va_up m 1 (pX7_copies (fun _ => m 0) (fun _ => m 1) 0 0 142 142 0)) 3 = m 3 := rfl
      have h4 : (va_up m 1 (pX7_copies (fun _ => m 0) (fun _ => m 1) 0 0 142 142 0)) 4 = m 4 := rfl
      have h5 : (va_up m 1 (pX7_copies (fun _ => m 0) (fun _ => m 1) 0 0 142 142 0)) 5 = m 5 := rfl
      generalize va_up m 1 (pX7_copies (fun _ => m 0) (fun _ => m 1) 0 0 142 142 0) = m1 at S hq h2 h3 h4 h5 ⊢
      show (pX6_ifDays_L34 rt sg pw rd u w h r v tu tw su sw g (nI d) b 31 0 u w).1 = _ ∧ _
      generalize pX7_ifDays_L39 m x (nI d) b 31 0 0 m1 x = z at S ⊢
      obtain ⟨s1, s2, s3, s4⟩ := S
      refine ⟨s1, RC_cg ha (Nat.le_refl _) (fun q hq2 => (s3 q hq2).trans (hq q hq2)), ?_, ?_, ?_, ?_⟩
      · rw [s4, s2 2 (by decide), h2]
        exact hb
      · rw [s4, s2 3 (by decide), h3]
        exact hc
      · rw [s4, s2 4 (by decide), h4]
        exact hd'
      · rw [s4, s2 5 (by decide), h5]
        exact he
theorem q_roof (H : RA N rt sg pw u w h r v su sw m x kn n) (hN : N < 900000) (a b : Int32) : pX6_roof rt sg pw rd u w h r v tu tw su sw g a b = pX7_roof m x a b := by
  unfold pX6_roof pX7_roof
  by_cases c : pX6_isRoof a = 0
  · rw [if_pos c, if_pos (show pX7_isRoof a = 0 from c)]
  · rw [if_neg c, if_neg (show ¬ pX7_isRoof a = 0 from c)]
    by_cases c2 : pX6_isWithin b 0 7 = 0
    · have hne : ∀ k : Int32, 0 ≤ k → k ≤ 7 → ¬ b = k := fun k h1 h2 z => by
        rw [z] at c2
        refine absurd ?_ (show ¬ (1 : Int32) = 0 by decide)
        rw [← c2]
        unfold pX6_isWithin
        rw [if_neg (Int32.not_lt.mpr h1), if_neg (Int32.not_lt.mpr h2)]
      rw [if_pos c2, if_neg (show ¬ b = 0 from fun z => hne 0 (by decide) (by decide) z), if_neg (show ¬ b = 1 from fun z => hne 1 (by decide) (by decide) z), if_neg (show ¬ b = 2 from fun z => hne 2 (by decide) (by decide) z), if_neg (show ¬ b = 3 from fun z => hne 3 (by decide) (by decide) z), if_neg (show ¬ b = 4 from fun z => hne 4 (by decide) (by decide) z), if_neg (show ¬ b = 5 from fun z => hne 5 (by decide) (by decide) z), if_neg (show ¬ b = 6 from fun z => hne 6 (by decide) (by decide) z), if_neg (show ¬ b = 7 from fun z => hne 7 (by decide) (by decide) z)]
    · rw [if_neg c2]
      obtain ⟨q, hq, rfl⟩ := wi_n (b := 7) (M := 7) rfl (by decide) c2
      obtain ⟨k, hk, rfl⟩ := wi_roof c
      rcases (show q = 0 ∨ q = 1 ∨ q = 2 ∨ q = 3 ∨ q = 4 ∨ q = 5 ∨ q = 6 ∨ q = 7 by omega) with rfl | rfl | rfl | rfl | rfl | rfl | rfl | rfl
      · rw [if_pos (show nI 0 = 0 from rfl), if_pos (show nI 0 = 0 from rfl)]
        rw [(H.1).2.2.1]
        exact bitOf_eq _ (by omega) |>.trans (by rw [isIn_bit _ (by omega), sh_bit _ (by omega)])
      · rw [if_neg (show ¬ nI 1 = 0 by decide), if_neg (show ¬ nI 1 = 0 by decide), if_pos (show nI 1 = 1 from rfl), if_pos (show nI 1 = 1 from rfl)]
        rw [e_smokeNow (v := x) H.1]
        exact bitOf_eq _ (by omega) |>.trans (by rw [isIn_bit _ (by omega), sh_bit _ (by omega)])
      · rw [if_neg (show ¬ nI 2 = 0 by decide), if_neg (show ¬ nI 2 = 0 by decide), if_neg (show ¬ nI 2 = 1 by decide), if_neg (show ¬ nI 2 = 1 by decide), if_pos (show nI 2 = 2 from rfl), if_pos (show nI 2 = 2 from rfl)]
        exact e_chimneys H.1 _
      · rw [if_neg (show ¬ nI 3 = 0 by decide), if_neg (show ¬ nI 3 = 0 by decide), if_neg (show ¬ nI 3 = 1 by decide), if_neg (show ¬ nI 3 = 1 by decide), if_neg (show ¬ nI 3 = 2 by decide), if_neg (show ¬ nI 3 = 2 by decide), if_pos (show nI 3 = 3 from rfl), if_pos (show nI 3 = 3 from rfl)]
        rw [(H.1).2.2.2.1]
        exact bitOf_eq _ (by omega) |>.trans (by rw [isIn_bit _ (by omega), sh_bit _ (by omega)])
      · rw [if_neg (show ¬ nI 4 = 0 by decide), if_neg (show ¬ nI 4 = 0 by decide), if_neg (show ¬ nI 4 = 1 by decide), if_neg (show ¬ nI 4 = 1 by decide), if_neg (show ¬ nI 4 = 2 by decide), if_neg (show ¬ nI 4 = 2 by decide), if_neg (show ¬ nI 4 = 3 by decide), if_neg (show ¬ nI 4 = 3 by decide), if_pos (show nI 4 = 4 from rfl), if_pos (show nI 4 = 4 from rfl)]
        exact e_owners H.1 _
      · rw [if_neg (show ¬ nI 5 = 0 by decide), if_neg (show ¬ nI 5 = 0 by decide), if_neg (show ¬ nI 5 = 1 by decide), if_neg (show ¬ nI 5 = 1 by decide), if_neg (show ¬ nI 5 = 2 by decide), if_neg (show ¬ nI 5 = 2 by decide), if_neg (show ¬ nI 5 = 3 by decide), if_neg (show ¬ nI 5 = 3 by decide), if_neg (show ¬ nI 5 = 4 by decide), if_neg (show ¬ nI 5 = 4 by decide), if_pos (show nI 5 = 5 from rfl), if_pos (show nI 5 = 5 from rfl)]
        exact e_strong H.1 hk
      · rw [if_neg (show ¬ nI 6 = 0 by decide), if_neg (show ¬ nI 6 = 0 by decide), if_neg (show ¬ nI 6 = 1 by decide), if_neg (show ¬ nI 6 = 1 by decide), if_neg (show ¬ nI 6 = 2 by decide), if_neg (show ¬ nI 6 = 2 by decide), if_neg (show ¬ nI 6 = 3 by decide), if_neg (show ¬ nI 6 = 3 by decide), if_neg (show ¬ nI 6 = 4 by decide), if_neg (show ¬ nI 6 = 4 by decide), if_neg (show ¬ nI 6 = 5 by decide), if_neg (show ¬ nI 6 = 5 by decide), if_pos (show nI 6 = 6 from rfl), if_pos (show nI 6 = 6 from rfl)]
        exact e_linesAt H.1 hk
      · rw [if_neg (show ¬ nI 7 = 0 by decide), if_neg (show ¬ nI 7 = 0 by decide), if_neg (show ¬ nI 7 = 1 by decide), if_neg (show ¬ nI 7 = 1 by decide), if_neg (show ¬ nI 7 = 2 by decide), if_neg (show ¬ nI 7 = 2 by decide), if_neg (show ¬ nI 7 = 3 by decide), if_neg (show ¬ nI 7 = 3 by decide), if_neg (show ¬ nI 7 = 4 by decide), if_neg (show ¬ nI 7 = 4 by decide), if_neg (show ¬ nI 7 = 5 by decide), if_neg (show ¬ nI 7 = 5 by decide), if_neg (show ¬ nI 7 = 6 by decide), if_neg (show ¬ nI 7 = 6 by decide), if_pos (show nI 7 = 7 from rfl)]
        exact e_roofs7 H.1 hk
theorem q_gangway (H : RA N rt sg pw u w h r v su sw m x kn n) (hN : N < 900000) (a b : Int32) : pX6_gangway rt sg pw rd u w h r v tu tw su sw g a b = pX7_gangway m x a b := by
  unfold pX6_gangway pX7_gangway
  rw [← isG_eq a]
  by_cases c : pX4_isGangway a = 0
  · rw [if_pos c, if_pos c]
  · rw [if_neg c, if_neg c]
    by_cases c2 : pX6_isWithin b 0 6 = 0
    · have hne : ∀ k : Int32, 0 ≤ k → k ≤ 6 → ¬ b = k := fun k h1 h2 z => by
        rw [z] at c2
        refine absurd ?_ (show ¬ (1 : Int32) = 0 by decide)
        rw [← c2]
        unfold pX6_isWithin
        rw [if_neg (Int32.not_lt.mpr h1), if_neg (Int32.not_lt.mpr h2)]
      rw [if_pos c2, if_neg (show ¬ b = 0 from fun z => hne 0 (by decide) (by decide) z), if_neg (show ¬ b = 1 from fun z => hne 1 (by decide) (by decide) z), if_neg (show ¬ b = 2 from fun z => hne 2 (by decide) (by decide) z), if_neg (show ¬ b = 3 from fun z => hne 3 (by decide) (by decide) z), if_neg (show ¬ b = 4 from fun z => hne 4 (by decide) (by decide) z), if_neg (show ¬ b = 5 from fun z => hne 5 (by decide) (by decide) z), if_neg (show ¬ b = 6 from fun z => hne 6 (by decide) (by decide) z)]
    · rw [if_neg c2]
      obtain ⟨q, hq, rfl⟩ := wi_n (b := 6) (M := 6) rfl (by decide) c2
      obtain ⟨k, hk, rfl⟩ := wi_gang c
      rcases (show q = 0 ∨ q = 1 ∨ q = 2 ∨ q = 3 ∨ q = 4 ∨ q = 5 ∨ q = 6 by omega) with rfl | rfl | rfl | rfl | rfl | rfl | rfl
      · rw [if_pos (show nI 0 = 0 from rfl), if_pos (show nI 0 = 0 from rfl)]
        rw [nI_clamp (show k < 2 ^ 31 by omega), of_0 m x hk]
        exact u0_eq H.1 hk
      · rw [if_neg (show ¬ nI 1 = 0 by decide), if_neg (show ¬ nI 1 = 0 by decide), if_pos (show nI 1 = 1 from rfl), if_pos (show nI 1 = 1 from rfl)]
        exact N_les k hk
      · rw [if_neg (show ¬ nI 2 = 0 by decide), if_neg (show ¬ nI 2 = 0 by decide), if_neg (show ¬ nI 2 = 1 by decide), if_neg (show ¬ nI 2 = 1 by decide), if_pos (show nI 2 = 2 from rfl), if_pos (show nI 2 = 2 from rfl)]
        exact N_gre k hk
      · rw [if_neg (show ¬ nI 3 = 0 by decide), if_neg (show ¬ nI 3 = 0 by decide), if_neg (show ¬ nI 3 = 1 by decide), if_neg (show ¬ nI 3 = 1 by decide), if_neg (show ¬ nI 3 = 2 by decide), if_neg (show ¬ nI 3 = 2 by decide), if_pos (show nI 3 = 3 from rfl), if_pos (show nI 3 = 3 from rfl)]
        by_cases ln : lnB (m 0) k = false
        · rw [if_pos ((r6_line H.1 hk).mpr ln), if_pos ((r7_line H.1 hk).mpr ln)]
        · rw [if_neg (fun z => ln ((r6_line H.1 hk).mp z)), if_neg (fun z => ln ((r7_line H.1 hk).mp z))]
          obtain ⟨b0, l, a0, c0, e0, f0, b9, e1, f1, l4, -⟩ := (H.1).1 k hk
          rw [nI_clamp (show k < 2 ^ 31 by omega), of_1 m x hk, e1, f1]
          rfl
      · rw [if_neg (show ¬ nI 4 = 0 by decide), if_neg (show ¬ nI 4 = 0 by decide), if_neg (show ¬ nI 4 = 1 by decide), if_neg (show ¬ nI 4 = 1 by decide), if_neg (show ¬ nI 4 = 2 by decide), if_neg (show ¬ nI 4 = 2 by decide), if_neg (show ¬ nI 4 = 3 by decide), if_neg (show ¬ nI 4 = 3 by decide), if_pos (show nI 4 = 4 from rfl), if_pos (show nI 4 = 4 from rfl)]
        by_cases ln : lnB (m 0) k = false
        · rw [if_pos ((r6_line H.1 hk).mpr ln), if_pos ((r7_line H.1 hk).mpr ln)]
        · rw [if_neg (fun z => ln ((r6_line H.1 hk).mp z)), if_neg (fun z => ln ((r7_line H.1 hk).mp z))]
          rw [nI_clamp (show k < 2 ^ 31 by omega), show nI 4 - (2 : Int32) = 2 by decide, of_2 m x hk]
          exact (r_soil H.1 hk (bf.mp ln)).1
      · rw [if_neg (show ¬ nI 5 = 0 by decide), if_neg (show ¬ nI 5 = 0 by decide), if_neg (show ¬ nI 5 = 1 by decide), if_neg (show ¬ nI 5 = 1 by decide), if_neg (show ¬ nI 5 = 2 by decide), if_neg (show ¬ nI 5 = 2 by decide), if_neg (show ¬ nI 5 = 3 by decide), if_neg (show ¬ nI 5 = 3 by decide), if_neg (show ¬ nI 5 = 4 by decide), if_neg (show ¬ nI 5 = 4 by decide), if_pos (show nI 5 = 5 from rfl), if_pos (show nI 5 = 5 from rfl)]
        by_cases ln : lnB (m 0) k = false
        · rw [if_pos ((r6_line H.1 hk).mpr ln), if_pos ((r7_line H.1 hk).mpr ln)]
        · rw [if_neg (fun z => ln ((r6_line H.1 hk).mp z)), if_neg (fun z => ln ((r7_line H.1 hk).mp z))]
          rw [nI_clamp (show k < 2 ^ 31 by omega), show nI 5 - (2 : Int32) = 3 by decide, of_3 m x hk]
          exact (r_soil H.1 hk (bf.mp ln)).2.1
      · rw [if_neg (show ¬ nI 6 = 0 by decide), if_neg (show ¬ nI 6 = 0 by decide), if_neg (show ¬ nI 6 = 1 by decide), if_neg (show ¬ nI 6 = 1 by decide), if_neg (show ¬ nI 6 = 2 by decide), if_neg (show ¬ nI 6 = 2 by decide), if_neg (show ¬ nI 6 = 3 by decide), if_neg (show ¬ nI 6 = 3 by decide), if_neg (show ¬ nI 6 = 4 by decide), if_neg (show ¬ nI 6 = 4 by decide), if_neg (show ¬ nI 6 = 5 by decide), if_neg (show ¬ nI 6 = 5 by decide), if_pos (show nI 6 = 6 from rfl)]
        rw [← e_smokeNow (v := x) H.1, N_roofs m x k hk]
        exact ones_eq (M16_and (smokeNow16 H.1))
theorem q_ownerOf (H : RA N rt sg pw u w h r v su sw m x kn n) (hN : N < 900000) (a b : Int32) : pX6_ownerOf rt sg pw rd u w h r v tu tw su sw g a b = pX7_ownerOf m x a b := by
  unfold pX6_ownerOf pX7_ownerOf
  by_cases c : pX6_isOwner a = 0
  · rw [if_pos c, if_pos (show pX7_isOwner a = 0 from c)]
  · rw [if_neg c, if_neg (show ¬ pX7_isOwner a = 0 from c)]
    by_cases c2 : pX6_isWithin b 0 8 = 0
    · have hne : ∀ k : Int32, 0 ≤ k → k ≤ 8 → ¬ b = k := fun k h1 h2 z => by
        rw [z] at c2
        refine absurd ?_ (show ¬ (1 : Int32) = 0 by decide)
        rw [← c2]
        unfold pX6_isWithin
        rw [if_neg (Int32.not_lt.mpr h1), if_neg (Int32.not_lt.mpr h2)]
      rw [if_pos c2, if_neg (show ¬ b = 0 from fun z => hne 0 (by decide) (by decide) z), if_neg (show ¬ b = 1 from fun z => hne 1 (by decide) (by decide) z), if_neg (show ¬ b = 2 from fun z => hne 2 (by decide) (by decide) z), if_neg (show ¬ b = 3 from fun z => hne 3 (by decide) (by decide) z), if_neg (show ¬ b = 4 from fun z => hne 4 (by decide) (by decide) z), if_neg (show ¬ b = 5 from fun z => hne 5 (by decide) (by decide) z), if_neg (show ¬ b = 6 from fun z => hne 6 (by decide) (by decide) z), if_neg (show ¬ b = 7 from fun z => hne 7 (by decide) (by decide) z), if_neg (show ¬ b = 8 from fun z => hne 8 (by decide) (by decide) z)]
    · rw [if_neg c2]
      obtain ⟨q, hq, rfl⟩ := wi_n (b := 8) (M := 8) rfl (by decide) c2
      obtain ⟨k, hk, rfl⟩ := wi_own c
      obtain ⟨w4, w5, w7, ⟨p, hp, w6, f6⟩, w8⟩ := (H.1).2.1 k hk
      rcases (show q = 0 ∨ q = 1 ∨ q = 2 ∨ q = 3 ∨ q = 4 ∨ q = 5 ∨ q = 6 ∨ q = 7 ∨ q = 8 by omega) with rfl | rfl | rfl | rfl | rfl | rfl | rfl | rfl | rfl
      · rw [if_pos (show nI 0 = 0 from rfl), if_pos (show nI 0 = 0 from rfl)]
        rw [nI_clamp (show k < 2 ^ 31 by omega)]
        exact w4.trans (ow_0 m x hk).symm
      · rw [if_neg (show ¬ nI 1 = 0 by decide), if_neg (show ¬ nI 1 = 0 by decide), if_pos (show nI 1 = 1 from rfl), if_pos (show nI 1 = 1 from rfl)]
        rw [nI_clamp (show k < 2 ^ 31 by omega)]
        exact w5.trans (ow_k (j := 1) m x hk (by decide)).symm
      · rw [if_neg (show ¬ nI 2 = 0 by decide), if_neg (show ¬ nI 2 = 0 by decide), if_neg (show ¬ nI 2 = 1 by decide), if_neg (show ¬ nI 2 = 1 by decide), if_pos (show nI 2 = 2 from rfl), if_pos (show nI 2 = 2 from rfl)]
        rw [bitOf_eq _ (by omega), ← w8]
        exact (ow_k (j := 2) m x hk (by decide)).symm
      · rw [if_neg (show ¬ nI 3 = 0 by decide), if_neg (show ¬ nI 3 = 0 by decide), if_neg (show ¬ nI 3 = 1 by decide), if_neg (show ¬ nI 3 = 1 by decide), if_neg (show ¬ nI 3 = 2 by decide), if_neg (show ¬ nI 3 = 2 by decide), if_pos (show nI 3 = 3 from rfl), if_pos (show nI 3 = 3 from rfl)]
        rw [nI_clamp (show k < 2 ^ 31 by omega), w6, ← f6]
        exact (ow_k (j := 3) m x hk (by decide)).symm
      · rw [if_neg (show ¬ nI 4 = 0 by decide), if_neg (show ¬ nI 4 = 0 by decide), if_neg (show ¬ nI 4 = 1 by decide), if_neg (show ¬ nI 4 = 1 by decide), if_neg (show ¬ nI 4 = 2 by decide), if_neg (show ¬ nI 4 = 2 by decide), if_neg (show ¬ nI 4 = 3 by decide), if_neg (show ¬ nI 4 = 3 by decide), if_pos (show nI 4 = 4 from rfl), if_pos (show nI 4 = 4 from rfl)]
        exact e_of0 H.1 hk
      · rw [if_neg (show ¬ nI 5 = 0 by decide), if_neg (show ¬ nI 5 = 0 by decide), if_neg (show ¬ nI 5 = 1 by decide), if_neg (show ¬ nI 5 = 1 by decide), if_neg (show ¬ nI 5 = 2 by decide), if_neg (show ¬ nI 5 = 2 by decide), if_neg (show ¬ nI 5 = 3 by decide), if_neg (show ¬ nI 5 = 3 by decide), if_neg (show ¬ nI 5 = 4 by decide), if_neg (show ¬ nI 5 = 4 by decide), if_pos (show nI 5 = 5 from rfl), if_pos (show nI 5 = 5 from rfl)]
        exact e_of1 H.1 (by omega) hk
      · rw [if_neg (show ¬ nI 6 = 0 by decide), if_neg (show ¬ nI 6 = 0 by decide), if_neg (show ¬ nI 6 = 1 by decide), if_neg (show ¬ nI 6 = 1 by decide), if_neg (show ¬ nI 6 = 2 by decide), if_neg (show ¬ nI 6 = 2 by decide), if_neg (show ¬ nI 6 = 3 by decide), if_neg (show ¬ nI 6 = 3 by decide), if_neg (show ¬ nI 6 = 4 by decide), if_neg (show ¬ nI 6 = 4 by decide), if_neg (show ¬ nI 6 = 5 by decide), if_neg (show ¬ nI 6 = 5 by decide), if_pos (show nI 6 = 6 from rfl), if_pos (show nI 6 = 6 from rfl)]
        exact e_walks H.1 hk
      · rw [if_neg (show ¬ nI 7 = 0 by decide), if_neg (show ¬ nI 7 = 0 by decide), if_neg (show ¬ nI 7 = 1 by decide), if_neg (show ¬ nI 7 = 1 by decide), if_neg (show ¬ nI 7 = 2 by decide), if_neg (show ¬ nI 7 = 2 by decide), if_neg (show ¬ nI 7 = 3 by decide), if_neg (show ¬ nI 7 = 3 by decide), if_neg (show ¬ nI 7 = 4 by decide), if_neg (show ¬ nI 7 = 4 by decide), if_neg (show ¬ nI 7 = 5 by decide), if_neg (show ¬ nI 7 = 5 by decide), if_neg (show ¬ nI 7 = 6 by decide), if_neg (show ¬ nI 7 = 6 by decide), if_pos (show nI 7 = 7 from rfl), if_pos (show nI 7 = 7 from rfl)]
        rw [nI_clamp (show k < 2 ^ 31 by omega)]
        exact w7.trans (ow_k (j := 4) m x hk (by decide)).symm
      · rw [if_neg (show ¬ nI 8 = 0 by decide), if_neg (show ¬ nI 8 = 0 by decide), if_neg (show ¬ nI 8 = 1 by decide), if_neg (show ¬ nI 8 = 1 by decide), if_neg (show ¬ nI 8 = 2 by decide), if_neg (show ¬ nI 8 = 2 by decide), if_neg (show ¬ nI 8 = 3 by decide), if_neg (show ¬ nI 8 = 3 by decide), if_neg (show ¬ nI 8 = 4 by decide), if_neg (show ¬ nI 8 = 4 by decide), if_neg (show ¬ nI 8 = 5 by decide), if_neg (show ¬ nI 8 = 5 by decide), if_neg (show ¬ nI 8 = 6 by decide), if_neg (show ¬ nI 8 = 6 by decide), if_neg (show ¬ nI 8 = 7 by decide), if_neg (show ¬ nI 8 = 7 by decide), if_pos (show nI 8 = 8 from rfl)]
        exact e_hangs H.1 hk
theorem q_count (H : RA N rt sg pw u w h r v su sw m x kn n) (hN : N < 900000) (a : Int32) : pX6_count rt sg pw rd u w h r v tu tw su sw g a = pX7_count m x a := by
  unfold pX6_count pX7_count
  by_cases c2 : pX6_isWithin a 0 17 = 0
  · have hne : ∀ k : Int32, 0 ≤ k → k ≤ 17 → ¬ a = k := fun k h1 h2 z => by
        rw [z] at c2
        refine absurd ?_ (show ¬ (1 : Int32) = 0 by decide)
        rw [← c2]
        unfold pX6_isWithin
        rw [if_neg (Int32.not_lt.mpr h1), if_neg (Int32.not_lt.mpr h2)]
    rw [if_pos c2, if_neg (show ¬ a = 0 from fun z => hne 0 (by decide) (by decide) z), if_neg (show ¬ a = 1 from fun z => hne 1 (by decide) (by decide) z), if_neg (show ¬ a = 2 from fun z => hne 2 (by decide) (by decide) z), if_neg (show ¬ a = 3 from fun z => hne 3 (by decide) (by decide) z), if_neg (show ¬ a = 4 from fun z => hne 4 (by decide) (by decide) z), if_neg (show ¬ a = 5 from fun z => hne 5 (by decide) (by decide) z), if_neg (show ¬ a = 6 from fun z => hne 6 (by decide) (by decide) z), if_neg (show ¬ a = 7 from fun z => hne 7 (by decide) (by decide) z), if_neg (show ¬ a = 8 from fun z => hne 8 (by decide) (by decide) z), if_neg (show ¬ a = 9 from fun z => hne 9 (by decide) (by decide) z), if_neg (show ¬ a = 10 from fun z => hne 10 (by decide) (by decide) z), if_neg (show ¬ a = 11 from fun z => hne 11 (by decide) (by decide) z), if_neg (show ¬ a = 12 from fun z => hne 12 (by decide) (by decide) z), if_neg (show ¬ a = 13 from fun z => hne 13 (by decide) (by decide) z), if_neg (show ¬ a = 14 from fun z => hne 14 (by decide) (by decide) z), if_neg (show ¬ a = 15 from fun z => hne 15 (by decide) (by decide) z), if_neg (show ¬ a = 16 from fun z => hne 16 (by decide) (by decide) z), if_neg (show ¬ a = 17 from fun z => hne 17 (by decide) (by decide) z)]
  · rw [if_neg c2]
    obtain ⟨q, hq, rfl⟩ := wi_n (b := 17) (M := 17) rfl (by decide) c2
    obtain ⟨h9, h10, m8, m9, ⟨d, hd, h11, h1⟩, ⟨e, he, h12, h2⟩, h13, h14, h15, h16, h17, h18, -⟩ := (H.1).2.2
    rcases (show q = 0 ∨ q = 1 ∨ q = 2 ∨ q = 3 ∨ q = 4 ∨ q = 5 ∨ q = 6 ∨ q = 7 ∨ q = 8 ∨ q = 9 ∨ q = 10 ∨ q = 11 ∨ q = 12 ∨ q = 13 ∨ q = 14 ∨ q = 15 ∨ q = 16 ∨ q = 17 by omega) with rfl | rfl | rfl | rfl | rfl | rfl | rfl | rfl | rfl | rfl | rfl | rfl | rfl | rfl | rfl | rfl | rfl | rfl
    · rw [if_neg (show ¬ nI 0 = 16 by decide), if_neg (show ¬ nI 0 = 17 by decide), if_neg (show ¬ (10 : Int32) ≤ nI 0 by decide)]
      unfold pX0_numberOfNow
      rw [if_pos (show nI 0 = 0 from rfl)]
      rw [if_pos (show nI 0 = 0 from rfl)]
      exact h13
    · rw [if_neg (show ¬ nI 1 = 16 by decide), if_neg (show ¬ nI 1 = 17 by decide), if_neg (show ¬ (10 : Int32) ≤ nI 1 by decide)]
      unfold pX0_numberOfNow
      rw [if_neg (show ¬ nI 1 = 0 by decide), if_pos (show nI 1 = 1 from rfl)]
      rw [if_neg (show ¬ nI 1 = 0 by decide), if_pos (show nI 1 = 1 from rfl)]
      exact h11.trans h1.symm
    · rw [if_neg (show ¬ nI 2 = 16 by decide), if_neg (show ¬ nI 2 = 17 by decide), if_neg (show ¬ (10 : Int32) ≤ nI 2 by decide)]
      unfold pX0_numberOfNow
      rw [if_neg (show ¬ nI 2 = 0 by decide), if_neg (show ¬ nI 2 = 1 by decide), if_pos (show nI 2 = 2 from rfl)]
      rw [if_neg (show ¬ nI 2 = 0 by decide), if_neg (show ¬ nI 2 = 1 by decide), if_pos (show nI 2 = 2 from rfl)]
      rw [h9]
      exact ones_eq m8
    · rw [if_neg (show ¬ nI 3 = 16 by decide), if_neg (show ¬ nI 3 = 17 by decide), if_neg (show ¬ (10 : Int32) ≤ nI 3 by decide)]
      unfold pX0_numberOfNow
      rw [if_neg (show ¬ nI 3 = 0 by decide), if_neg (show ¬ nI 3 = 1 by decide), if_neg (show ¬ nI 3 = 2 by decide), if_pos (show nI 3 = 3 from rfl)]
      rw [if_neg (show ¬ nI 3 = 0 by decide), if_neg (show ¬ nI 3 = 1 by decide), if_neg (show ¬ nI 3 = 2 by decide), if_pos (show nI 3 = 3 from rfl)]
      exact e_onesSmoke H.1
    · rw [if_neg (show ¬ nI 4 = 16 by decide), if_neg (show ¬ nI 4 = 17 by decide), if_neg (show ¬ (10 : Int32) ≤ nI 4 by decide)]
      unfold pX0_numberOfNow
      rw [if_neg (show ¬ nI 4 = 0 by decide), if_neg (show ¬ nI 4 = 1 by decide), if_neg (show ¬ nI 4 = 2 by decide), if_neg (show ¬ nI 4 = 3 by decide), if_pos (show nI 4 = 4 from rfl)]
      rw [if_neg (show ¬ nI 4 = 0 by decide), if_neg (show ¬ nI 4 = 1 by decide), if_neg (show ¬ nI 4 = 2 by decide), if_neg (show ¬ nI 4 = 3 by decide), if_pos (show nI 4 = 4 from rfl)]
      rw [h10]
      exact ones_eq m9
    · rw [if_neg (show ¬ nI 5 = 16 by decide), if_neg (show ¬ nI 5 = 17 by decide), if_neg (show ¬ (10 : Int32) ≤ nI 5 by decide)]
      unfold pX0_numberOfNow
      rw [if_neg (show ¬ nI 5 = 0 by decide), if_neg (show ¬ nI 5 = 1 by decide), if_neg (show ¬ nI 5 = 2 by decide), if_neg (show ¬ nI 5 = 3 by decide), if_neg (show ¬ nI 5 = 4 by decide), if_pos (show nI 5 = 5 from rfl)]
      rw [if_neg (show ¬ nI 5 = 0 by decide), if_neg (show ¬ nI 5 = 1 by decide), if_neg (show ¬ nI 5 = 2 by decide), if_neg (show ¬ nI 5 = 3 by decide), if_neg (show ¬ nI 5 = 4 by decide), if_pos (show nI 5 = 5 from rfl)]
      exact e_lines H.1
    · rw [if_neg (show ¬ nI 6 = 16 by decide), if_neg (show ¬ nI 6 = 17 by decide), if_neg (show ¬ (10 : Int32) ≤ nI 6 by decide)]
      unfold pX0_numberOfNow
      rw [if_neg (show ¬ nI 6 = 0 by decide), if_neg (show ¬ nI 6 = 1 by decide), if_neg (show ¬ nI 6 = 2 by decide), if_neg (show ¬ nI 6 = 3 by decide), if_neg (show ¬ nI 6 = 4 by decide), if_neg (show ¬ nI 6 = 5 by decide), if_pos (show nI 6 = 6 from rfl)]
      rw [if_neg (show ¬ nI 6 = 0 by decide), if_neg (show ¬ nI 6 = 1 by decide), if_neg (show ¬ nI 6 = 2 by decide), if_neg (show ¬ nI 6 = 3 by decide), if_neg (show ¬ nI 6 = 4 by decide), if_neg (show ¬ nI 6 = 5 by decide), if_pos (show nI 6 = 6 from rfl)]
      exact e_clean H.1 (by omega)
    · rw [if_neg (show ¬ nI 7 = 16 by decide), if_neg (show ¬ nI 7 = 17 by decide), if_neg (show ¬ (10 : Int32) ≤ nI 7 by decide)]
      unfold pX0_numberOfNow
      rw [if_neg (show ¬ nI 7 = 0 by decide), if_neg (show ¬ nI 7 = 1 by decide), if_neg (show ¬ nI 7 = 2 by decide), if_neg (show ¬ nI 7 = 3 by decide), if_neg (show ¬ nI 7 = 4 by decide), if_neg (show ¬ nI 7 = 5 by decide), if_neg (show ¬ nI 7 = 6 by decide), if_pos (show nI 7 = 7 from rfl)]
      rw [if_neg (show ¬ nI 7 = 0 by decide), if_neg (show ¬ nI 7 = 1 by decide), if_neg (show ¬ nI 7 = 2 by decide), if_neg (show ¬ nI 7 = 3 by decide), if_neg (show ¬ nI 7 = 4 by decide), if_neg (show ¬ nI 7 = 5 by decide), if_neg (show ¬ nI 7 = 6 by decide), if_pos (show nI 7 = 7 from rfl)]
      exact e_sum2 H.1
    · rw [if_neg (show ¬ nI 8 = 16 by decide), if_neg (show ¬ nI 8 = 17 by decide), if_neg (show ¬ (10 : Int32) ≤ nI 8 by decide)]
      unfold pX0_numberOfNow
      rw [if_neg (show ¬ nI 8 = 0 by decide), if_neg (show ¬ nI 8 = 1 by decide), if_neg (show ¬ nI 8 = 2 by decide), if_neg (show ¬ nI 8 = 3 by decide), if_neg (show ¬ nI 8 = 4 by decide), if_neg (show ¬ nI 8 = 5 by decide), if_neg (show ¬ nI 8 = 6 by decide), if_neg (show ¬ nI 8 = 7 by decide), if_pos (show nI 8 = 8 from rfl)]
      rw [if_neg (show ¬ nI 8 = 0 by decide), if_neg (show ¬ nI 8 = 1 by decide), if_neg (show ¬ nI 8 = 2 by decide), if_neg (show ¬ nI 8 = 3 by decide), if_neg (show ¬ nI 8 = 4 by decide), if_neg (show ¬ nI 8 = 5 by decide), if_neg (show ¬ nI 8 = 6 by decide), if_neg (show ¬ nI 8 = 7 by decide), if_pos (show nI 8 = 8 from rfl)]
      exact e_sum3 H.1
    · rw [if_neg (show ¬ nI 9 = 16 by decide), if_neg (show ¬ nI 9 = 17 by decide), if_neg (show ¬ (10 : Int32) ≤ nI 9 by decide)]
      unfold pX0_numberOfNow
      rw [if_neg (show ¬ nI 9 = 0 by decide), if_neg (show ¬ nI 9 = 1 by decide), if_neg (show ¬ nI 9 = 2 by decide), if_neg (show ¬ nI 9 = 3 by decide), if_neg (show ¬ nI 9 = 4 by decide), if_neg (show ¬ nI 9 = 5 by decide), if_neg (show ¬ nI 9 = 6 by decide), if_neg (show ¬ nI 9 = 7 by decide), if_neg (show ¬ nI 9 = 8 by decide)]
      rw [if_neg (show ¬ nI 9 = 0 by decide), if_neg (show ¬ nI 9 = 1 by decide), if_neg (show ¬ nI 9 = 2 by decide), if_neg (show ¬ nI 9 = 3 by decide), if_neg (show ¬ nI 9 = 4 by decide), if_neg (show ¬ nI 9 = 5 by decide), if_neg (show ¬ nI 9 = 6 by decide), if_neg (show ¬ nI 9 = 7 by decide), if_neg (show ¬ nI 9 = 8 by decide), if_pos (show nI 9 = 9 from rfl)]
      rw [h11, h1]
      exact e_smokedBy H.1 hd
    · rw [if_neg (show ¬ nI 10 = 16 by decide), if_neg (show ¬ nI 10 = 17 by decide), if_pos (show (10 : Int32) ≤ nI 10 by decide)]
      unfold pX0_numberSoFar
      rw [if_pos (show nI 10 = 10 from rfl)]
      rw [if_neg (show ¬ nI 10 = 0 by decide), if_neg (show ¬ nI 10 = 1 by decide), if_neg (show ¬ nI 10 = 2 by decide), if_neg (show ¬ nI 10 = 3 by decide), if_neg (show ¬ nI 10 = 4 by decide), if_neg (show ¬ nI 10 = 5 by decide), if_neg (show ¬ nI 10 = 6 by decide), if_neg (show ¬ nI 10 = 7 by decide), if_neg (show ¬ nI 10 = 8 by decide), if_neg (show ¬ nI 10 = 9 by decide), if_pos (show nI 10 = 10 from rfl)]
      rw [show (((4 : Int32) + nI 10) - (10 : Int32)).toNatClampNeg = 4 by decide]
      exact h15
    · rw [if_neg (show ¬ nI 11 = 16 by decide), if_neg (show ¬ nI 11 = 17 by decide), if_pos (show (10 : Int32) ≤ nI 11 by decide)]
      unfold pX0_numberSoFar
      rw [if_neg (show ¬ nI 11 = 10 by decide), if_pos (show nI 11 = 11 from rfl)]
      rw [if_neg (show ¬ nI 11 = 0 by decide), if_neg (show ¬ nI 11 = 1 by decide), if_neg (show ¬ nI 11 = 2 by decide), if_neg (show ¬ nI 11 = 3 by decide), if_neg (show ¬ nI 11 = 4 by decide), if_neg (show ¬ nI 11 = 5 by decide), if_neg (show ¬ nI 11 = 6 by decide), if_neg (show ¬ nI 11 = 7 by decide), if_neg (show ¬ nI 11 = 8 by decide), if_neg (show ¬ nI 11 = 9 by decide), if_neg (show ¬ nI 11 = 10 by decide), if_pos (show nI 11 = 11 from rfl)]
      rw [show (((4 : Int32) + nI 11) - (10 : Int32)).toNatClampNeg = 5 by decide]
      exact h16
    · rw [if_neg (show ¬ nI 12 = 16 by decide), if_neg (show ¬ nI 12 = 17 by decide), if_pos (show (10 : Int32) ≤ nI 12 by decide)]
      unfold pX0_numberSoFar
      rw [if_neg (show ¬ nI 12 = 10 by decide), if_neg (show ¬ nI 12 = 11 by decide), if_pos (show nI 12 = 12 from rfl)]
      rw [if_neg (show ¬ nI 12 = 0 by decide), if_neg (show ¬ nI 12 = 1 by decide), if_neg (show ¬ nI 12 = 2 by decide), if_neg (show ¬ nI 12 = 3 by decide), if_neg (show ¬ nI 12 = 4 by decide), if_neg (show ¬ nI 12 = 5 by decide), if_neg (show ¬ nI 12 = 6 by decide), if_neg (show ¬ nI 12 = 7 by decide), if_neg (show ¬ nI 12 = 8 by decide), if_neg (show ¬ nI 12 = 9 by decide), if_neg (show ¬ nI 12 = 10 by decide), if_neg (show ¬ nI 12 = 11 by decide), if_pos (show nI 12 = 12 from rfl)]
      rw [show (((4 : Int32) + nI 12) - (10 : Int32)).toNatClampNeg = 6 by decide]
      exact h17
    · rw [if_neg (show ¬ nI 13 = 16 by decide), if_neg (show ¬ nI 13 = 17 by decide), if_pos (show (10 : Int32) ≤ nI 13 by decide)]
      unfold pX0_numberSoFar
      rw [if_neg (show ¬ nI 13 = 10 by decide), if_neg (show ¬ nI 13 = 11 by decide), if_neg (show ¬ nI 13 = 12 by decide), if_pos (show nI 13 = 13 from rfl)]
      rw [if_neg (show ¬ nI 13 = 0 by decide), if_neg (show ¬ nI 13 = 1 by decide), if_neg (show ¬ nI 13 = 2 by decide), if_neg (show ¬ nI 13 = 3 by decide), if_neg (show ¬ nI 13 = 4 by decide), if_neg (show ¬ nI 13 = 5 by decide), if_neg (show ¬ nI 13 = 6 by decide), if_neg (show ¬ nI 13 = 7 by decide), if_neg (show ¬ nI 13 = 8 by decide), if_neg (show ¬ nI 13 = 9 by decide), if_neg (show ¬ nI 13 = 10 by decide), if_neg (show ¬ nI 13 = 11 by decide), if_neg (show ¬ nI 13 = 12 by decide), if_pos (show nI 13 = 13 from rfl)]
      rw [show (((4 : Int32) + nI 13) - (10 : Int32)).toNatClampNeg = 7 by decide]
      exact h18
    · rw [if_neg (show ¬ nI 14 = 16 by decide), if_neg (show ¬ nI 14 = 17 by decide), if_pos (show (10 : Int32) ≤ nI 14 by decide)]
      unfold pX0_numberSoFar
      rw [if_neg (show ¬ nI 14 = 10 by decide), if_neg (show ¬ nI 14 = 11 by decide), if_neg (show ¬ nI 14 = 12 by decide), if_neg (show ¬ nI 14 = 13 by decide), if_pos (show nI 14 = 14 from rfl)]
      rw [if_neg (show ¬ nI 14 = 0 by decide), if_neg (show ¬ nI 14 = 1 by decide), if_neg (show ¬ nI 14 = 2 by decide), if_neg (show ¬ nI 14 = 3 by decide), if_neg (show ¬ nI 14 = 4 by decide), if_neg (show ¬ nI 14 = 5 by decide), if_neg (show ¬ nI 14 = 6 by decide), if_neg (show ¬ nI 14 = 7 by decide), if_neg (show ¬ nI 14 = 8 by decide), if_neg (show ¬ nI 14 = 9 by decide), if_neg (show ¬ nI 14 = 10 by decide), if_neg (show ¬ nI 14 = 11 by decide), if_neg (show ¬ nI 14 = 12 by decide), if_neg (show ¬ nI 14 = 13 by decide), if_pos (show nI 14 = 14 from rfl)]
      exact h12.trans h2.symm
    · rw [if_neg (show ¬ nI 15 = 16 by decide), if_neg (show ¬ nI 15 = 17 by decide), if_pos (show (10 : Int32) ≤ nI 15 by decide)]
      unfold pX0_numberSoFar
      rw [if_neg (show ¬ nI 15 = 10 by decide), if_neg (show ¬ nI 15 = 11 by decide), if_neg (show ¬ nI 15 = 12 by decide), if_neg (show ¬ nI 15 = 13 by decide), if_neg (show ¬ nI 15 = 14 by decide)]
      rw [if_neg (show ¬ nI 15 = 0 by decide), if_neg (show ¬ nI 15 = 1 by decide), if_neg (show ¬ nI 15 = 2 by decide), if_neg (show ¬ nI 15 = 3 by decide), if_neg (show ¬ nI 15 = 4 by decide), if_neg (show ¬ nI 15 = 5 by decide), if_neg (show ¬ nI 15 = 6 by decide), if_neg (show ¬ nI 15 = 7 by decide), if_neg (show ¬ nI 15 = 8 by decide), if_neg (show ¬ nI 15 = 9 by decide), if_neg (show ¬ nI 15 = 10 by decide), if_neg (show ¬ nI 15 = 11 by decide), if_neg (show ¬ nI 15 = 12 by decide), if_neg (show ¬ nI 15 = 13 by decide), if_neg (show ¬ nI 15 = 14 by decide), if_pos (show nI 15 = 15 from rfl)]
      exact h14
    · rw [if_pos (show nI 16 = 16 from rfl)]
      rw [if_neg (show ¬ nI 16 = 0 by decide), if_neg (show ¬ nI 16 = 1 by decide), if_neg (show ¬ nI 16 = 2 by decide), if_neg (show ¬ nI 16 = 3 by decide), if_neg (show ¬ nI 16 = 4 by decide), if_neg (show ¬ nI 16 = 5 by decide), if_neg (show ¬ nI 16 = 6 by decide), if_neg (show ¬ nI 16 = 7 by decide), if_neg (show ¬ nI 16 = 8 by decide), if_neg (show ¬ nI 16 = 9 by decide), if_neg (show ¬ nI 16 = 10 by decide), if_neg (show ¬ nI 16 = 11 by decide), if_neg (show ¬ nI 16 = 12 by decide), if_neg (show ¬ nI 16 = 13 by decide), if_neg (show ¬ nI 16 = 14 by decide), if_neg (show ¬ nI 16 = 15 by decide), if_pos (show nI 16 = 16 from rfl)]
      exact H.2.2.2.1.2.1.trans H.2.2.2.1.2.2.1.symm
    · rw [if_neg (show ¬ nI 17 = 16 by decide), if_pos (show nI 17 = 17 from rfl)]
      rw [if_neg (show ¬ nI 17 = 0 by decide), if_neg (show ¬ nI 17 = 1 by decide), if_neg (show ¬ nI 17 = 2 by decide), if_neg (show ¬ nI 17 = 3 by decide), if_neg (show ¬ nI 17 = 4 by decide), if_neg (show ¬ nI 17 = 5 by decide), if_neg (show ¬ nI 17 = 6 by decide), if_neg (show ¬ nI 17 = 7 by decide), if_neg (show ¬ nI 17 = 8 by decide), if_neg (show ¬ nI 17 = 9 by decide), if_neg (show ¬ nI 17 = 10 by decide), if_neg (show ¬ nI 17 = 11 by decide), if_neg (show ¬ nI 17 = 12 by decide), if_neg (show ¬ nI 17 = 13 by decide), if_neg (show ¬ nI 17 = 14 by decide), if_neg (show ¬ nI 17 = 15 by decide), if_neg (show ¬ nI 17 = 16 by decide), if_pos (show nI 17 = 17 from rfl)]
      exact H.2.1.2.1.trans H.2.1.2.2.1.symm
end RDS
