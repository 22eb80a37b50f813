/-! ===== the bundle of facts that would asks for ===== -/
theorem T_n30 : ∀ n, n < 30 → (pL_bridge (nI n - (1 : Int32)) = 0 ∧ pX4_isGangway (nI n - (1 : Int32)) = 0) ∨ (0 < n ∧ n ≤ 28 ∧ nI n - (1 : Int32) = nI (n - 1) ∧ gw (n - 1) = true ∧ ¬ pL_bridge (nI n - (1 : Int32)) = 0) := by decide +kernel
theorem T_n6 : ∀ n, n < 6 → (n = 0 ∧ nI n - (1 : Int32) < 0 ∧ pX6_isWithin (nI n - (1 : Int32)) 0 3 = 0) ∨ (n = 5 ∧ ¬ nI n - (1 : Int32) < 0 ∧ ¬ nI n - (1 : Int32) ≤ 3 ∧ pX6_isWithin (nI n - (1 : Int32)) 0 3 = 0) ∨ (0 < n ∧ n < 5 ∧ nI n - (1 : Int32) = nI (n - 1) ∧ ¬ nI n - (1 : Int32) < 0 ∧ nI n - (1 : Int32) ≤ 3 ∧ ¬ pX6_isWithin (nI n - (1 : Int32)) 0 3 = 0) := by decide +kernel
theorem T_no : ∀ o, o < 5 → (o = 4 ∨ o < 4) := by decide
theorem sel_0 {c1 c2 : Prop} [Decidable c1] [Decidable c2] : ((if c1 then 1 else (if c2 then 1 else 0)) : Int32) = 0 ↔ ¬ c1 ∧ ¬ c2 := by
  by_cases h1 : c1
  · rw [if_pos h1]
    exact ⟨fun z => absurd z (by decide), fun z => absurd h1 z.1⟩
  · rw [if_neg h1]
    by_cases h2 : c2
    · rw [if_pos h2]
      exact ⟨fun z => absurd z (by decide), fun z => absurd h2 z.2⟩
    · rw [if_neg h2]
      exact ⟨fun _ => ⟨h1, h2⟩, fun _ => rfl⟩
section FW
variable {B : Nat} {u : Nat → Nat → Int32} {w : Nat → Int32} {k o r : Nat}
theorem isR16 : ∀ r, r < 17 → (r = 16 ∧ pX6_isRoof (nI r) = 0) ∨ r < 16 := by decide +kernel
theorem S_no {rt : Nat → Int32} {sg : Nat → Nat → Int32} {pw : Nat → Int32} {rd : Nat → Int32} {h : Nat → (Nat → Nat → Int32) × (Nat → Int32)} {r0 : Nat} {v : Nat → Int32} {tu : Nat → Nat → Int32} {tw : Nat → Int32} {su : Nat → Nat → Int32} {sw : Nat → Int32} {g : Nat → Nat → Int32} {a b c : Int32} (hn : pX6_isRoof a = 0 ∨ pX6_isRoof b = 0) : (pX6_strongest rt sg pw rd u w h r0 v tu tw su sw g a b c).1 = -1 := by
  unfold pX6_strongest
  by_cases z : pX6_isRoof a = 0
  · rw [if_pos z]
  · rw [if_neg z, if_pos (hn.resolve_left z)]
theorem S_yes {rt : Nat → Int32} {sg : Nat → Nat → Int32} {pw : Nat → Int32} {rd : Nat → Int32} {h : Nat → (Nat → Nat → Int32) × (Nat → Int32)} {r0 : Nat} {v : Nat → Int32} {tu : Nat → Nat → Int32} {tw : Nat → Int32} {su : Nat → Nat → Int32} {sw : Nat → Int32} {g : Nat → Nat → Int32} (H : CI B u w) {a b c : Nat} (ha : a < 16) (hb : b < 16) (hc : c < 2) : (a = b → (pX6_strongest rt sg pw rd u w h r0 v tu tw su sw g (nI a) (nI b) (nI c)).1 = 10) ∧ (¬ a = b → WV (pX6_strongest rt sg pw rd u w h r0 v tu tw su sw g (nI a) (nI b) (nI c)).1) := by
  have hw : ∀ c, c < 2 → ¬ pX6_isWithin (nI c) 0 1 = 0 := by decide +kernel
  unfold pX6_strongest
  rw [if_neg (isRf a ha), if_neg (isRf b hb), if_neg (hw c hc)]
  by_cases z : nI c = 0
  · rw [if_pos z]
    refine ⟨fun e => ?_, fun e => ?_⟩
    · subst e
      unfold pX5_strongestByJoining
      rw [if_pos rfl]
    · have hs := join_val (G := g) (u := u) (w := w) (a := nI a) (b := nI b) (fun z => e ((nI_eq (by omega) (by omega)).mp z))
      generalize pX5_strongestByJoining g u w (nI a) (nI b) = Z at hs ⊢
      exact hs
  · rw [if_neg z]
    refine ⟨fun e => ?_, fun e => ?_⟩
    · subst e
      have hs := spread_self (G := g) H ha
      generalize pX5_strongestBySpreading g u w (nI a) (nI a) = Z at hs ⊢
      exact hs
    · have hs := spread_val (G := g) H ha hb (fun z => e z.symm)
      generalize pX5_strongestBySpreading g u w (nI a) (nI b) = Z at hs ⊢
      exact hs
theorem o4 : ∀ o, o < 5 → ¬ nI o = 4 → o < 4 := by decide +kernel
theorem why_f (H : CI B u w) {n : Nat} (ho : o < 5) (hn : n < 30) : ((¬ nI o = 4 ∧ ¬ pL_bridge (nI n - (1 : Int32)) = 0) → ∃ m, m ≤ 5 ∧ fY u w (nI o) (nI n - (1 : Int32)) = nI m ∧ (m = 1 ↔ fG u w (nI n - (1 : Int32)) 0 = 0) ∧ (m = 2 → ¬ fG u w (nI n - (1 : Int32)) 3 = -4)) ∧ (¬ (¬ nI o = 4 ∧ ¬ pL_bridge (nI n - (1 : Int32)) = 0) → fY u w (nI o) (nI n - (1 : Int32)) = -1) := by
  rcases T_n30 n hn with ⟨t1, t2⟩ | ⟨t1, t2, t3, t4, t5⟩
  · refine ⟨fun z => absurd t1 z.2, fun _ => ?_⟩
    unfold fY pX6_whyNotHang
    by_cases q : pX6_isOwner (nI o) = 0
    · rw [if_pos q]
    · rw [if_neg q, if_pos t2]
  · refine ⟨fun z => ?_, fun z => ?_⟩
    · have ho4 := o4 o ho z.1
      have hg : ¬ pX4_isGangway (nI (n - 1)) = 0 := fun q => by rw [gw_iff.mp q] at t4; exact absurd t4 (by decide)
      have hk : n - 1 < 28 := by omega
      obtain ⟨m, m5, e, e1, e2⟩ := rh_val (u := u) (w := w) (nI o) (nI (n - 1))
      rw [t3, Y_val ho4 hg]
      refine ⟨m, m5, e, e1.trans ?_, fun q => ?_⟩
      · obtain ⟨⟨b, b9, eb, -⟩, -⟩ := H.1 (n - 1) hk
        rw [th_iff hk, G_0 hk t4, eb, nI_z (by omega)]
        unfold th
        rw [nd_f, eb, nI_lz (by omega)]
      · exact fun y => e2 q ((hl_iff hk).mpr ((G3_no H hk t4).mp y))
    · have hx : nI o = 4 := Classical.byContradiction (fun q => z ⟨q, t5⟩)
      unfold fY pX6_whyNotHang
      rw [hx, if_pos (by decide)]
theorem WV_f {x : Int32} (h : WV x) (hn : ¬ x = -4) : ∃ n, 1 ≤ n ∧ n ≤ 9 ∧ x = nI n := h.resolve_left hn
theorem F_would (H : CI B u w) (hB : B < 700000) (rt : Nat → Int32) (sg : Nat → Nat → Int32) (pw : Nat → Int32) (rd : Nat → Int32) (h : Nat → (Nat → Nat → Int32) × (Nat → Int32)) (r0 : Nat) (v : Nat → Int32) (tu : Nat → Nat → Int32) (tw : Nat → Int32) (su : Nat → Nat → Int32) (sw : Nat → Int32) (g : Nat → Nat → Int32) (a2 : Int32) : HF_L_would rt sg pw rd u w h r0 v tu tw su sw g a2 := by
  obtain ⟨o, ho, e1⟩ := low_r a2 (n := 5) (by decide) (by decide)
  obtain ⟨n, hn, e2⟩ := low_r (a2 >>> ((3 : Int32) &&& 31)) (n := 30) (by decide) (by decide)
  obtain ⟨fr, hfr, e3⟩ := low_r (a2 >>> ((5 : Int32) &&& 31)) (n := 17) (by decide) (by decide)
  obtain ⟨to, hto, e4⟩ := low_r (a2 >>> ((9 : Int32) &&& 31)) (n := 17) (by decide) (by decide)
  obtain ⟨wy, hwy, e5⟩ := low_r (a2 >>> ((4 : Int32) &&& 31)) (n := 2) (by decide) (by decide)
  obtain ⟨wd, hwd, e6⟩ := low_r (a2 >>> ((7 : Int32) &&& 31)) (n := 6) (by decide) (by decide)
  obtain ⟨dy, hdy, e7⟩ := low_r (a2 >>> ((6 : Int32) &&& 31)) (n := 32) (by decide) (by decide)
  obtain ⟨wh, hwh, e8⟩ := low_r (a2 >>> ((11 : Int32) &&& 31)) (n := 6) (by decide) (by decide)
  have e1 : pL_low a2 5 = nI o := e1
  have e2 : pL_low (a2 >>> ((3 : Int32) &&& 31)) 30 = nI n := e2
  have e3 : pL_low (a2 >>> ((5 : Int32) &&& 31)) 17 = nI fr := e3
  have e4 : pL_low (a2 >>> ((9 : Int32) &&& 31)) 17 = nI to := e4
  have e5 : pL_low (a2 >>> ((4 : Int32) &&& 31)) 2 = nI wy := e5
  have e6 : pL_low (a2 >>> ((7 : Int32) &&& 31)) 6 = nI wd := e6
  have e7 : pL_low (a2 >>> ((6 : Int32) &&& 31)) 32 = nI dy := e7
  have e8 : pL_low (a2 >>> ((11 : Int32) &&& 31)) 6 = nI wh := e8
  unfold HF_L_would
  rw [e1, e2, e3, e4, e5, e6, e7, e8]
  generalize hZ : pX6_strongest rt sg pw rd u w h r0 v tu tw su sw g (nI fr) (nI to) (nI wy) = Z
  obtain ⟨y1, y2⟩ := why_f H ho hn
  have off0 : ∀ q, q < 17 → ¬ nI q = 16 → q < 16 := by decide +kernel
  have offs : ((if nI fr = 16 then 1 else if nI to = 16 then 1 else 0) : Int32) = 0 → fr < 16 ∧ to < 16 := fun z => ⟨off0 fr hfr (sel_0.mp z).1, off0 to hto (sel_0.mp z).2⟩
  have hst : ((if nI fr = 16 then 1 else if nI to = 16 then 1 else 0) : Int32) = 0 → (nI fr = nI to → Z.1 = 10) ∧ (¬ nI fr = nI to → WV Z.1) := fun z => by
    obtain ⟨h1, h2⟩ := offs z
    obtain ⟨s1, s2⟩ := S_yes (rt := rt) (sg := sg) (pw := pw) (rd := rd) (h := h) (r0 := r0) (v := v) (tu := tu) (tw := tw) (su := su) (sw := sw) (g := g) H h1 h2 hwy
    rw [hZ] at s1 s2
    exact ⟨fun q => s1 ((nI_eq (by omega) (by omega)).mp q), fun q => s2 (fun y => q (by rw [y]))⟩
  have hsp : ¬ nI o = 4 → ¬ nI to = 16 → _ := fun z1 z2 => steps_val (G := Z.2) H (o4 o ho z1) (off0 to hto z2)
  obtain ⟨bm, hbm, ebm, hmin⟩ := bw_val (u := u) (w := w)
  have bads : ((if nI dy = 0 then 1 else (if nI dy = 31 then 1 else (if (nI wh - (1 : Int32)) < 0 then 1 else (if (nI wh - (1 : Int32)) ≤ 3 then 0 else 1)))) : Int32) = 0 → 1 ≤ dy ∧ dy ≤ 30 ∧ ¬ pX6_isWithin (nI wh - (1 : Int32)) 0 3 = 0 := fun z => by
    have hd0 : ∀ d, d < 32 → ¬ nI d = 0 → ¬ nI d = 31 → 1 ≤ d ∧ d ≤ 30 := by decide +kernel
    have hp : ∀ {c1 c2 c3 c4 : Prop} [Decidable c1] [Decidable c2] [Decidable c3] [Decidable c4], ((if c1 then 1 else (if c2 then 1 else (if c3 then 1 else (if c4 then 0 else 1)))) : Int32) = 0 → ¬ c1 ∧ ¬ c2 ∧ ¬ c3 ∧ c4 := by
      intro c1 c2 c3 c4 _ _ _ _ z
      by_cases k1 : c1
      · rw [if_pos k1] at z; exact absurd z (by decide)
      · rw [if_neg k1] at z
        by_cases k2 : c2
        · rw [if_pos k2] at z; exact absurd z (by decide)
        · rw [if_neg k2] at z
          by_cases k3 : c3
          · rw [if_pos k3] at z; exact absurd z (by decide)
          · rw [if_neg k3] at z
            by_cases k4 : c4
            · exact ⟨k1, k2, k3, k4⟩
            · rw [if_neg k4] at z; exact absurd z (by decide)
    obtain ⟨k1, k2, k3, k4⟩ := hp z
    obtain ⟨d1, d2⟩ := hd0 dy hdy k1 k2
    refine ⟨d1, d2, ?_⟩
    rcases T_n6 wh hwh with ⟨-, t, -⟩ | ⟨-, -, t, -⟩ | ⟨-, -, -, -, -, t⟩
    · exact absurd t k3
    · exact absurd k4 t
    · exact t
  have days : ((if nI dy = 0 then 1 else (if nI dy = 31 then 1 else (if (nI wh - (1 : Int32)) < 0 then 1 else (if (nI wh - (1 : Int32)) ≤ 3 then 0 else 1)))) : Int32) = 0 → ∃ u2 w2, DR (B + 2 * dy) u w u2 w2 ∧ (pX6_ifDays rt sg pw rd u w h r0 v tu tw su sw Z.2 (nI dy) (nI wh - (1 : Int32))).1 = dV (nI wh - (1 : Int32)) u2 w2 := fun z => by
    obtain ⟨d1, d2, d3⟩ := bads z
    exact days_all (by omega) H d1 d2 d3
  have hdy2 : ((if nI dy = 0 then 1 else (if nI dy = 31 then 1 else (if (nI wh - (1 : Int32)) < 0 then 1 else (if (nI wh - (1 : Int32)) ≤ 3 then 0 else 1)))) : Int32) = 0 → B + 2 * dy < 800000 := fun z => by
    obtain ⟨d1, d2, d3⟩ := bads z
    omega
  refine ⟨?_, ?_, ?_, ?_, ?_, ?_, ?_, ?_, ?_, ?_, ?_, ?_, ?_, ?_, ?_, ?_, ?_, ?_, ?_, ?_, ?_, ?_, ?_, ?_, ?_, ?_, ?_, ?_⟩
  · intro z
    obtain ⟨m, m5, e, -, -⟩ := y1 (sel_0.mp z)
    rw [e]; exact nn (by omega)
  · intro z
    obtain ⟨m, m5, e, -, -⟩ := y1 (sel_0.mp z)
    rw [e]; exact nI_nlt (a := 5) m5 (by decide)
  · intro z
    obtain ⟨m, m5, e, e9, -⟩ := y1 (sel_0.mp z)
    rw [e]
    exact if_i ((nI_eq (b := 1) (by omega) (by decide)).trans e9)
  · intro z z2
    obtain ⟨m, m5, e, -, e9⟩ := y1 (sel_0.mp z)
    rw [e] at z2
    exact e9 ((nI_eq (b := 2) (by omega) (by decide)).mp z2)
  · intro z
    exact y2 (fun q => z (sel_0.mpr q))
  · intro z z1 z2
    obtain ⟨m, m1, m9, e⟩ := WV_f ((hst z).2 z1) z2
    rw [e]; exact nI_nlt (b := 1) m1 (by omega)
  · intro z z1 z2
    obtain ⟨m, m1, m9, e⟩ := WV_f ((hst z).2 z1) z2
    rw [e]; exact nI_nlt (a := 9) m9 (by decide)
  · intro z z1
    exact (hst z).1 z1
  · intro z
    rw [← hZ]
    refine S_no ?_
    have hr : ∀ q, q < 17 → nI q = 16 → pX6_isRoof (nI q) = 0 := by decide +kernel
    by_cases q : nI fr = 16
    · exact Or.inl (hr fr hfr q)
    · exact Or.inr (hr to hto (Classical.byContradiction (fun y => z (sel_0.mpr ⟨q, y⟩))))
  · intro z
    unfold fS pX6_steps
    rw [z, if_pos (by decide)]
  · intro z z1
    rw [O_3 (o4 o ho z)]
    exact if_i (hsp z z1).2
  · intro z z1 z2
    obtain ⟨m, m15, e⟩ := (hsp z z1).1.resolve_left z2
    rw [e]; exact nn (by omega)
  · intro z z1 z2
    obtain ⟨m, m15, e⟩ := (hsp z z1).1.resolve_left z2
    rw [e]; exact nI_nlt (a := 15) m15 (by decide)
  · intro z z1
    unfold fS pX6_steps
    rw [if_neg (isOw o (o4 o ho z)), z1, if_pos (by decide)]
  · intro z
    rcases T_n6 wd hwd with ⟨-, -, t⟩ | ⟨-, t, -, -⟩ | ⟨-, -, -, t, -, -⟩
    · unfold fW pX6_ifWind
      rw [if_pos t]
    · exact absurd z t
    · exact absurd z t
  · intro z z1
    rcases T_n6 wd hwd with ⟨-, t, -⟩ | ⟨-, -, t, -⟩ | ⟨t1, t2, t3, -, -, -⟩
    · exact absurd t z
    · exact absurd z1 t
    · have := ct29 (lsB u w (nI (wd - 1)))
      rw [t3, W_val (by omega)]
      exact nn (by omega)
  · intro z z1
    rcases T_n6 wd hwd with ⟨-, t, -⟩ | ⟨-, -, t, -⟩ | ⟨t1, t2, t3, -, -, -⟩
    · exact absurd t z
    · exact absurd z1 t
    · have := ct29 (ln u)
      rw [t3, W_val (by omega), C_5]
      exact nI_nlt (fb_ct_sub (fun k _ q => (Bool.and_eq_true_iff.mp q).1)) (by omega)
  · intro z z1
    rcases T_n6 wd hwd with ⟨-, t, -⟩ | ⟨-, -, t, -⟩ | ⟨t1, t2, t3, -, -, -⟩
    · exact absurd t z
    · exact absurd z1 t
    · have := ct29 (lsB u w (nI (wd - 1)))
      rw [t3, ebm, W_val (by omega), W_val hbm]
      exact nI_nlt (hmin _ (by omega)) (by omega)
  · intro z z1
    rcases T_n6 wd hwd with ⟨-, t, -⟩ | ⟨-, -, -, t⟩ | ⟨-, -, -, -, t, -⟩
    · exact absurd t z
    · unfold fW pX6_ifWind
      rw [if_pos t]
    · exact absurd t z1
  · rw [ebm]; exact nn (by omega)
  · rw [ebm]; exact nI_ge (b := 4) hbm (by decide)
  · intro z z0 z1 z2
    obtain ⟨u2, w2, d, e⟩ := days z
    obtain ⟨-, -, ⟨x, hx, ex⟩, -⟩ := d.1.2.2.2
    rw [e]
    unfold dV
    rw [if_neg z0, if_neg z1, if_neg z2, ex]
    exact nn (by omega)
  · intro z z0 z1 z2
    obtain ⟨u2, w2, d, e⟩ := days z
    obtain ⟨-, -, ⟨x, hx, ex⟩, -⟩ := d.1.2.2.2
    rw [e]
    unfold dV
    rw [if_neg z0, if_neg z1, if_neg z2, ex]
    exact nI_ge (b := 4) hx (by decide)
  · intro z z0 z1 z2
    obtain ⟨u2, w2, d, e⟩ := days z
    have hb := hdy2 z
    rw [e]
    unfold dV
    rw [if_neg z0, if_neg z1, if_pos z2, C_8]
    exact (DR_sum (by omega) (by omega) H d).2
  · intro z z0 z1
    obtain ⟨u2, w2, d, e⟩ := days z
    have hb := hdy2 z
    rw [e]
    unfold dV
    rw [if_neg z0, if_pos z1, C_7]
    exact (DR_sum (by omega) (by omega) H d).1
  · intro z z0
    obtain ⟨u2, w2, d, e⟩ := days z
    have := ct29 (cl u2)
    rw [e]
    unfold dV
    rw [if_pos z0, n_clean]
    exact nn (by omega)
  · intro z z0
    obtain ⟨u2, w2, d, e⟩ := days z
    have hb := hdy2 z
    have := ct29 (cl u)
    rw [e]
    unfold dV
    rw [if_pos z0, n_clean, C_6]
    exact nI_nlt (DR_cl (by omega) d) (by omega)
  · intro z
    have hx : pX6_isWithin (nI dy) 1 30 = 0 ∨ pX6_isWithin (nI wh - (1 : Int32)) 0 3 = 0 := by
      have hd0 : ∀ d, d < 32 → (nI d = 0 ∨ nI d = 31) → pX6_isWithin (nI d) 1 30 = 0 := by decide +kernel
      rcases T_n6 wh hwh with ⟨-, -, t⟩ | ⟨-, -, -, t⟩ | ⟨-, -, -, t1, t2, t⟩
      · exact Or.inr t
      · exact Or.inr t
      · left
        apply hd0 dy hdy
        apply Classical.byContradiction
        intro y
        apply z
        rw [if_neg (fun q => y (Or.inl q)), if_neg (fun q => y (Or.inr q)), if_neg t1, if_pos t2]
    unfold pX6_ifDays
    by_cases q : pX6_isWithin (nI dy) 1 30 = 0
    · rw [if_pos q]
    · rw [if_neg q, if_pos (hx.resolve_left q)]
end FW
