/-! ===== walk; the bundles of the deeds ===== -/
theorem T_oth : ∀ k, k < 28 → gw k = true → ∀ p, p < 16 → (p = lsN k ∨ p = grN k) → pX4_otherRoof (nI k) (nI p) = nI (lsN k + grN k - p) ∧ (nI (lsN k) + nI (grN k)) - nI p = nI (lsN k + grN k - p) ∧ lsN k + grN k - p < 16 := by decide +kernel
theorem isIn_iff (x y : Int32) : pX6_isIn x y = 0 ↔ ¬ ((x >>> (y &&& 31)) &&& (1 : Int32)) = 1 := by
  unfold pX6_isIn
  exact if_10
section WK
variable {B : Nat} {rt : Nat → Int32} {sg : Nat → Nat → Int32} {pw : Nat → Int32} {rd : Nat → Int32} {u : Nat → Nat → Int32} {w : Nat → Int32} {h : Nat → (Nat → Nat → Int32) × (Nat → Int32)} {r : Nat} {v : Nat → Int32} {tu : Nat → Nat → Int32} {tw : Nat → Int32} {su : Nat → Nat → Int32} {sw : Nat → Int32} {g : Nat → Nat → Int32} {k o : Nat}
theorem key_sel (x y : Int32) : (if (pX6_isIn x y) = 0 then 3 else 0 : Int32) = (if ((x >>> (y &&& 31)) &&& (1 : Int32)) = 1 then 0 else 3) := by
  by_cases c : ((x >>> (y &&& 31)) &&& (1 : Int32)) = 1
  · rw [if_pos c, if_neg (fun q => (isIn_iff x y).mp q c)]
  · rw [if_neg c, if_pos ((isIn_iff x y).mpr c)]
theorem ww_eq (H : CI B u w) (ho : o < 4) (hk : k < 28) (hg : gw k = true) (T : Int32) : (if (fG u w (nI k) 0) = 0 then 1 else (if (fO u w (nI o) 0) ≤ (fG u w (nI k) 0) then (if (fG u w (nI k) 3) = (-4) then (if (((fO u w (nI o) 1) >>> (T &&& 31)) &&& (1 : Int32)) = 1 then 0 else 3) else (if (fG u w (nI k) 3) = nI o then (if (((fO u w (nI o) 1) >>> (T &&& 31)) &&& (1 : Int32)) = 1 then 0 else 3) else 9)) else 8) : Int32) = pX0_reasonNotToWalk u w (nI o) (nI k) T := by
  unfold pX0_reasonNotToWalk
  rw [nI_clamp (by omega), nI_clamp (by omega), G_0 hk hg, O_0 ho, O_1 ho, key_sel, G_3 hk hg]
  obtain ⟨⟨b, b9, eb, -⟩, -⟩ := H.1 k hk
  have e0 : u 0 k = 0 ↔ pX0_isThere u w (nI k) = 0 := by
    rw [th_iff hk, eb, nI_z (by omega)]
    unfold th
    rw [nd_f, eb, nI_lz (by omega)]
  by_cases c0 : pX0_isThere u w (nI k) = 0
  · rw [if_pos c0, if_pos (e0.mpr c0)]
  · rw [if_neg c0, if_neg (fun q => c0 (e0.mp q))]
    by_cases c1 : u 4 o ≤ u 0 k
    · rw [if_pos c1, if_pos c1]
      by_cases c2 : ln u k = false
      · rw [if_pos c2, if_pos rfl, if_pos ((hl_iff hk).mpr c2)]
      · obtain ⟨-, -, p, hp, ep⟩ := CI_ln H hk (bf.mp c2)
        rw [if_neg c2, if_neg (by rw [ep]; exact nI_m4 (by omega)), if_neg (fun q => c2 ((hl_iff hk).mp q))]
    · rw [if_neg c1, if_neg c1]
theorem rw_val (a b c : Int32) : pX0_reasonNotToWalk u w a b c = 0 ∨ (¬ pX0_reasonNotToWalk u w a b c ≤ 0 ∧ pX0_reasonNotToWalk u w a b c < 10) := by
  unfold pX0_reasonNotToWalk
  (repeat' split) <;> first | exact Or.inl rfl | exact Or.inr ⟨by decide, by decide⟩
def kU (u : Nat → Nat → Int32) (o p : Nat) : Nat → Nat → Int32 := va_up (va_up u 6 (upd (u 6) o (nI p))) 7 (upd (u 7) o ((u 7 o) + (1 : Int32)))
theorem CI_walk (H : CI B u w) (ho : o < 4) {p : Nat} (hp : p < 16) : CI (B + 1) (kU u o p) w := by
  refine ⟨fun j hj => ?_, fun q hq => ?_, ?_, CS_mono (by omega) H.2.2.2⟩
  · obtain ⟨a, ⟨b, hb, eb⟩, ⟨c, hc, ec⟩⟩ := H.1 j hj
    exact ⟨a, ⟨b, by omega, eb⟩, ⟨c, by omega, ec⟩⟩
  · obtain ⟨a, b, ⟨x, hx, e⟩⟩ := H.2.1 q hq
    by_cases c : q = o
    · subst c
      refine ⟨a, ⟨p, hp, pk_us⟩, ⟨x + 1, by omega, ?_⟩⟩
      show upd (u 7) q (u 7 q + (1 : Int32)) q = _
      rw [pk_us, e, nI_1]
    · refine ⟨a, ?_, ⟨x, by omega, (show upd (u 7) o _ q = _ from pk_un c).trans e⟩⟩
      obtain ⟨y, hy, ey⟩ := b
      exact ⟨y, hy, (show upd (u 6) o _ q = _ from pk_un c).trans ey⟩
  · obtain ⟨t, f, a, b, c, d, e⟩ := H.2.2.1
    exact ⟨t, f, by omega, by omega, c, d, e⟩
theorem walk_all (H : CI B u w) {n : Nat} (ho : o < 5) (hn : n = 28 ∨ (n < 28 ∧ gw n = true)) : ∀ NO LINE AT LE MO AWAY WHY WK : Int32, (NO = 0 ↔ o < 4 ∧ n < 28 ∧ gw n = true) → LINE = (if nI n = 28 then (-4) else (fG u w (nI n) 3)) → AT = (if nI o = 4 then 0 else (fO u w (nI o) 3)) → LE = (if nI n = 28 then 0 else (fG u w (nI n) 1)) → MO = (if nI n = 28 then 0 else (fG u w (nI n) 2)) → AWAY = (if NO = 0 then (if AT = LE then 0 else (if AT = MO then 0 else 1)) else 0) → WK = (if nI o = 4 then 0 else (fO u w (nI o) 7)) →
    WHY = (if NO = 0 then (if AWAY = 0 then (if (fG u w (nI n) 0) = 0 then 1 else (if (fO u w (nI o) 0) ≤ (fG u w (nI n) 0) then (if LINE = (-4) then (if (((fO u w (nI o) 1) >>> (((LE + MO) - AT) &&& 31)) &&& (1 : Int32)) = 1 then 0 else 3) else (if LINE = nI o then (if (((fO u w (nI o) 1) >>> (((LE + MO) - AT) &&& 31)) &&& (1 : Int32)) = 1 then 0 else 3) else 9)) else 8)) else 0) else 0) →
    ∀ Q, Q = pX6_walk rt sg pw rd u w h r v tu tw su sw g (nI o) (nI n) → (Q.1 = ((if NO = 0 then (if AWAY = 0 then (if WHY ≤ 0 then ((10 : Int32) + ((LE + MO) - AT)) else WHY) else (-2)) else (-1)) : Int32) ∧ (fC Q.2.2.2.2.1 Q.2.2.2.2.2 13) = ((fC u w 13) + ((if WHY ≤ 0 then 0 else 1) : Int32)) ∧ (¬ nI o = 4 → (fO Q.2.2.2.2.1 Q.2.2.2.2.2 (nI o) 3) = ((if Q.1 < 10 then AT else ((LE + MO) - AT)) : Int32) ∧ (fO Q.2.2.2.2.1 Q.2.2.2.2.2 (nI o) 7) = (WK + ((if Q.1 < 10 then 0 else 1) : Int32)))) ∧ PU (B + 1) h r v u w Q.2.1 Q.2.2.1 Q.2.2.2.1 Q.2.2.2.2.1 Q.2.2.2.2.2 := by
  intro NO LINE AT LE MO AWAY WHY WK hNO hL hA hLE hMO hAW hWK hW Q hQ
  unfold pX6_walk at hQ
  by_cases z : NO = 0
  · obtain ⟨ho4, hk, hg⟩ := hNO.mp z
    have hgw : ¬ pX4_isGangway (nI n) = 0 := fun q => by rw [gw_iff.mp q] at hg; exact absurd hg (by decide)
    have n28 : ¬ nI n = 28 := fun q => by have := (nI_eq (b := 28) (by omega) (by decide)).mp q; omega
    have o4' : ¬ nI o = 4 := fun q => by have := (nI_eq (b := 4) (by omega) (by decide)).mp q; omega
    obtain ⟨-, ⟨p, hp, ep⟩, ⟨x7, hx7, e7⟩⟩ := H.2.1 o ho4
    obtain ⟨g1, g2, g3, g4, -⟩ := N_ls n hk
    rw [if_neg (isOw o ho4), if_neg hgw] at hQ
    rw [if_neg o4', O_3 ho4, ep] at hA
    rw [if_neg o4', O_7 ho4] at hWK
    rw [if_neg n28, G_1 hg, g1] at hLE
    rw [if_neg n28, G_2 hg, g2] at hMO
    rw [if_neg n28] at hL
    rw [if_pos z] at hAW hW
    have est : pX0_standsAt u w (nI o) (nI n) = 0 ↔ ¬ (p = lsN n ∨ p = grN n) := by
      unfold pX0_standsAt
      rw [nI_clamp (by omega), ep, isIn_0 _ (by omega), roofs_bt hk, ← bt_f, Bool.or_eq_true_iff, decide_eq_true_iff, decide_eq_true_iff]
    by_cases c : p = lsN n ∨ p = grN n
    · have hAW0 : AWAY = 0 := by
        rw [hAW, hA, hLE, hMO]
        rcases c with q | q
        · rw [if_pos (show nI p = nI (lsN n) by rw [q])]
        · split
          · rfl
          · rw [if_pos (show nI p = nI (grN n) by rw [q])]
      obtain ⟨t1, t2, t3⟩ := T_oth n hk hg p hp c
      have hTO : (LE + MO) - AT = nI (lsN n + grN n - p) := by rw [hLE, hMO, hA]; exact t2
      rw [if_pos hAW0, hL, hTO, ww_eq H ho4 hk hg] at hW
      rw [if_neg (fun q => est.mp q c)] at hQ
      unfold pX0_walkOver at hQ
      rw [nI_clamp (by omega), ep, t1] at hQ
      rw [hTO, if_pos z, if_pos hAW0]
      rcases rw_val (u := u) (w := w) (nI o) (nI n) (nI (lsN n + grN n - p)) with y | ⟨y1, y2⟩
      · rw [if_pos y] at hQ
        rw [y] at hW
        obtain ⟨E1, E2, E3, E4, E5, E6⟩ := q6 hQ
        have hge : ¬ (10 : Int32) + nI (lsN n + grN n - p) < 10 := by
          rw [show (10 : Int32) = nI 10 from rfl, nI_add]
          exact nI_nlt (by omega) (by omega)
        rw [E1, E2, E3, E4, E5, E6, hW]
        refine ⟨⟨?_, ?_, fun _ => ⟨?_, ?_⟩⟩, Or.inr ⟨rfl, rfl, rfl, CI_walk H ho4 t3⟩⟩
        · rw [if_pos (by decide)]
        · rw [C_13, C_13, if_pos (by decide), Int32.add_zero]
        · rw [O_3 ho4, if_neg hge]
          exact pk_us
        · rw [O_7 ho4, if_neg hge, hWK]
          exact pk_us
      · have y0 : ¬ pX0_reasonNotToWalk u w (nI o) (nI n) (nI (lsN n + grN n - p)) = 0 := fun q => y1 (by rw [q]; decide)
        rw [if_neg y0] at hQ
        obtain ⟨E1, E2, E3, E4, E5, E6⟩ := q6 hQ
        rw [E1, E2, E3, E4, E5, E6, hW]
        refine ⟨⟨?_, ?_, fun _ => ⟨?_, ?_⟩⟩, Or.inr ⟨rfl, rfl, rfl, CI_ref H⟩⟩
        · rw [if_neg y1]
        · rw [C_13, C_13, if_neg y1]
          rfl
        · rw [O_3 ho4, if_pos y2, hA]
          exact ep
        · rw [O_7 ho4, if_pos y2, hWK, Int32.add_zero]
    · have hAW1 : ¬ AWAY = 0 := by
        rw [hAW, hA, hLE, hMO, if_neg (fun q => c (Or.inl ((nI_eq (by omega) (by omega)).mp q))), if_neg (fun q => c (Or.inr ((nI_eq (by omega) (by omega)).mp q)))]
        decide
      rw [if_neg hAW1] at hW
      rw [if_pos (est.mpr c)] at hQ
      obtain ⟨E1, E2, E3, E4, E5, E6⟩ := q6 hQ
      rw [E1, E2, E3, E4, E5, E6, hW, if_pos z, if_neg hAW1]
      refine ⟨⟨rfl, ?_, fun _ => ⟨?_, ?_⟩⟩, Or.inl ⟨rfl, rfl, rfl, rfl, rfl⟩⟩
      · rw [if_pos (by decide), Int32.add_zero]
      · rw [O_3 ho4, if_pos (by decide), hA, ep]
      · rw [O_7 ho4, if_pos (by decide), hWK, Int32.add_zero]
  · rw [if_neg z] at hW hAW
    have e : Q = ((-1 : Int32), h, r, v, u, w) := by
      rw [hQ]
      rcases no_cases ho hn (fun q => z (hNO.mpr q)) with y | y
      · rw [if_pos y]
      · split
        · rfl
        · first | rfl | rw [if_pos y]
    obtain ⟨E1, E2, E3, E4, E5, E6⟩ := q6 e
    rw [E1, E2, E3, E4, E5, E6, hW]
    refine ⟨⟨?_, ?_, fun q => ⟨?_, ?_⟩⟩, Or.inl ⟨rfl, rfl, rfl, rfl, rfl⟩⟩
    · rw [if_neg z]
    · rw [if_pos (by decide), Int32.add_zero]
    · rw [if_pos (by decide), hA, if_neg q]
    · rw [if_pos (by decide), hWK, if_neg q, Int32.add_zero]
theorem F_d0 (H : CI B u w) (a3 : Int32) : HF_L_deeds_0 rt sg pw rd u w h r v tu tw su sw g a3 ∧ PU (B + 1) h r v u w (pL_deeds_0 rt sg pw rd u w h r v tu tw su sw g a3).1 (pL_deeds_0 rt sg pw rd u w h r v tu tw su sw g a3).2.1 (pL_deeds_0 rt sg pw rd u w h r v tu tw su sw g a3).2.2.1 (pL_deeds_0 rt sg pw rd u w h r v tu tw su sw g a3).2.2.2.1 (pL_deeds_0 rt sg pw rd u w h r v tu tw su sw g a3).2.2.2.2 := by
  obtain ⟨o, ho, e1⟩ := dW_r a3
  obtain ⟨n, e2, hn⟩ := dN_r a3
  unfold HF_L_deeds_0 pL_deeds_0
  rw [e1, e2]
  obtain ⟨⟨q1, q2, q3⟩, P⟩ := hang_all (rt := rt) (sg := sg) (pw := pw) (rd := rd) (h := h) (r := r) (v := v) (tu := tu) (tw := tw) (su := su) (sw := sw) (g := g) H ho hn _ _ (no_iff ho hn) rfl _ rfl
  have q12 := PU_12 (CI_12 H) P
  exact ⟨⟨T_54 _, q1, q12, q2, fun _ _ => q12, fun a b => (q3 a b).1, fun a b => (q3 a b).2⟩, P⟩
theorem F_d1 (H : CI B u w) (hB : B < 1000000) (a3 : Int32) : HF_L_deeds_1 rt sg pw rd u w h r v tu tw su sw g a3 ∧ PU (B + 1) h r v u w (pL_deeds_1 rt sg pw rd u w h r v tu tw su sw g a3).1 (pL_deeds_1 rt sg pw rd u w h r v tu tw su sw g a3).2.1 (pL_deeds_1 rt sg pw rd u w h r v tu tw su sw g a3).2.2.1 (pL_deeds_1 rt sg pw rd u w h r v tu tw su sw g a3).2.2.2.1 (pL_deeds_1 rt sg pw rd u w h r v tu tw su sw g a3).2.2.2.2 := by
  obtain ⟨o, ho, e1⟩ := dW_r a3
  obtain ⟨n, e2, hn⟩ := dN_r a3
  unfold HF_L_deeds_1 pL_deeds_1
  rw [e1, e2]
  obtain ⟨⟨q1, q2, q3, q4⟩, P⟩ := take_all (rt := rt) (sg := sg) (pw := pw) (rd := rd) (h := h) (r := r) (v := v) (tu := tu) (tw := tw) (su := su) (sw := sw) (g := g) H hB ho hn _ _ _ (no_iff ho hn) rfl rfl _ rfl
  have q12 := PU_12 (CI_12 H) P
  exact ⟨⟨T_54 _, q1, q12, q2, q3, fun _ => q12, q4⟩, P⟩
theorem F_d2 (H : CI B u w) (a3 : Int32) : HF_L_deeds_2 rt sg pw rd u w h r v tu tw su sw g a3 ∧ PU (B + 1) h r v u w (pL_deeds_2 rt sg pw rd u w h r v tu tw su sw g a3).1 (pL_deeds_2 rt sg pw rd u w h r v tu tw su sw g a3).2.1 (pL_deeds_2 rt sg pw rd u w h r v tu tw su sw g a3).2.2.1 (pL_deeds_2 rt sg pw rd u w h r v tu tw su sw g a3).2.2.2.1 (pL_deeds_2 rt sg pw rd u w h r v tu tw su sw g a3).2.2.2.2 := by
  obtain ⟨o, ho, e1⟩ := dW_r a3
  obtain ⟨n, e2, hn⟩ := dN_r a3
  unfold HF_L_deeds_2 pL_deeds_2
  rw [e1, e2]
  obtain ⟨⟨q1, q2, q3⟩, P⟩ := walk_all (rt := rt) (sg := sg) (pw := pw) (rd := rd) (h := h) (r := r) (v := v) (tu := tu) (tw := tw) (su := su) (sw := sw) (g := g) H ho hn _ _ _ _ _ _ _ _ (no_iff ho hn) rfl rfl rfl rfl rfl rfl rfl _ rfl
  have q12 := PU_12 (CI_12 H) P
  exact ⟨⟨T_54 _, q1, q12, q2, fun _ => q12, fun a => (q3 a).1, fun a => (q3 a).2⟩, P⟩
end WK
