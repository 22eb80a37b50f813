/-! ===== hang, take, walk ===== -/
def VP (v : Nat → Int32) : Nat → Int32 := va_up v 1 (if 4 < ((v 1) + (1 : Int32)) then 4 else ((v 1) + (1 : Int32)))
/-- a call that has an error leaves all; a change keeps the state before it -/
def PU (B : Nat) (h : Nat → (Nat → Nat → Int32) × (Nat → Int32)) (r : Nat) (v : Nat → Int32) (u : Nat → Nat → Int32) (w : Nat → Int32) (h1 : Nat → (Nat → Nat → Int32) × (Nat → Int32)) (r1 : Nat) (v1 : Nat → Int32) (u1 : Nat → Nat → Int32) (w1 : Nat → Int32) : Prop := (h1 = h ∧ r1 = r ∧ v1 = v ∧ u1 = u ∧ w1 = w) ∨ (h1 = va_up h ((r + 3) % 4) (u, w) ∧ r1 = (r + 3) % 4 ∧ v1 = VP v ∧ CI B u1 w1)
theorem PU_12 {B : Nat} {h : Nat → (Nat → Nat → Int32) × (Nat → Int32)} {r : Nat} {v : Nat → Int32} {u : Nat → Nat → Int32} {w : Nat → Int32} {h1 : Nat → (Nat → Nat → Int32) × (Nat → Int32)} {r1 : Nat} {v1 : Nat → Int32} {u1 : Nat → Nat → Int32} {w1 : Nat → Int32} (hw : w 12 < 4) (P : PU B h r v u w h1 r1 v1 u1 w1) : w1 12 < 4 := by
  rcases P with ⟨-, -, -, -, e⟩ | ⟨-, -, -, H⟩
  · rw [e]; exact hw
  · obtain ⟨-, -, -, ⟨q, hq, e⟩, -⟩ := H.2.2.2
    rw [e]; exact nI_lt (b := 4) hq (by decide)
theorem CI_12 {B : Nat} {u : Nat → Nat → Int32} {w : Nat → Int32} (H : CI B u w) : w 12 < 4 := by
  obtain ⟨-, -, -, ⟨q, hq, e⟩, -⟩ := H.2.2.2
  rw [e]; exact nI_lt (b := 4) hq (by decide)
def kN (x : Nat) : Nat := if x < 12 then x / 3 * 4 + x % 3 else x + 4
theorem T_kN : ∀ x, x < 24 → ((if 12 ≤ nI x then (nI x + (4 : Int32)) else (((nI x / (3 : Int32)) * (4 : Int32)) + (nI x - nI x / (3 : Int32) * (3 : Int32)))) : Int32) = nI (kN x) ∧ kN x < 28 ∧ gw (kN x) = true := by decide +kernel
theorem dN_r (a3 : Int32) : ∃ n, dN a3 = nI n ∧ (n = 28 ∨ (n < 28 ∧ gw n = true)) := by
  obtain ⟨x, hx, e⟩ := low_r (a3 >>> ((3 : Int32) &&& 31)) (n := 24) (by decide) (by decide)
  have e : pL_low (a3 >>> ((3 : Int32) &&& 31)) 24 = nI x := e
  unfold dN
  rw [e]
  by_cases c : pL_low (a3 >>> ((14 : Int32) &&& 31)) 9 = 0
  · rw [if_pos c]
    exact ⟨28, rfl, Or.inl rfl⟩
  · rw [if_neg c]
    obtain ⟨t1, t2, t3⟩ := T_kN x hx
    exact ⟨kN x, t1, Or.inr ⟨t2, t3⟩⟩
theorem dW_r (a3 : Int32) : ∃ o, o < 5 ∧ dW a3 = nI o := by
  unfold dW
  by_cases c : pL_low (a3 >>> ((15 : Int32) &&& 31)) 7 = 0
  · rw [if_pos c]
    exact low_r a3 (n := 5) (by decide) (by decide)
  · rw [if_neg c]
    obtain ⟨k, hk, e⟩ := low_r a3 (n := 4) (by decide) (by decide)
    exact ⟨k, by omega, e⟩
theorem ow4 : pX6_isOwner (nI 4) = 0 := by decide
theorem gw28 : pX4_isGangway (nI 28) = 0 := by decide
theorem T_54 (c : Prop) [Decidable c] : ¬ ((if c then 5 else 4) : Int32) = 0 := by split <;> decide
theorem no_iff {o n : Nat} (ho : o < 5) (hn : n = 28 ∨ (n < 28 ∧ gw n = true)) : ((if nI o = 4 then 1 else (if nI n = 28 then 1 else 0)) : Int32) = 0 ↔ o < 4 ∧ n < 28 ∧ gw n = true := by
  rw [sel_0]
  refine ⟨fun z => ⟨o4 o ho z.1, hn.resolve_left (fun q => z.2 (by rw [q]; rfl))⟩, fun z => ⟨fun q => ?_, fun q => ?_⟩⟩
  · have := (nI_eq (b := 4) (by omega) (by decide)).mp q
    omega
  · have := (nI_eq (b := 28) (by omega) (by decide)).mp q
    omega
theorem no_cases {o n : Nat} (ho : o < 5) (hn : n = 28 ∨ (n < 28 ∧ gw n = true)) (h : ¬ (o < 4 ∧ n < 28 ∧ gw n = true)) : pX6_isOwner (nI o) = 0 ∨ pX4_isGangway (nI n) = 0 := by
  rcases hn with e | e
  · right
    rw [e]
    exact gw28
  · left
    have h4 : ¬ o < 4 := fun q => h ⟨q, e⟩
    rw [show o = 4 by omega]
    exact ow4
theorem CI_mono {B B1 : Nat} (hB : B ≤ B1) {u : Nat → Nat → Int32} {w : Nat → Int32} (H : CI B u w) : CI B1 u w := by
  refine CI_gr hB H (fun _ _ _ => rfl) (fun k hk => ?_) rfl rfl rfl ?_
  · obtain ⟨-, ⟨a, ha, e⟩, ⟨c, hc, e2⟩⟩ := H.1 k hk
    exact ⟨⟨a, a, e, e, Nat.le_refl _, by omega⟩, ⟨c, c, e2, e2, Nat.le_refl _, by omega⟩⟩
  · obtain ⟨m9, m10, b, c, ⟨x, hx, e⟩, d, ⟨y, hy, f⟩⟩ := H.2.2.2
    exact ⟨m9, m10, b, c, ⟨x, by omega, e⟩, d, ⟨y, by omega, f⟩⟩
theorem q6 {Q : Int32 × (Nat → (Nat → Nat → Int32) × (Nat → Int32)) × Nat × (Nat → Int32) × (Nat → Nat → Int32) × (Nat → Int32)} {a : Int32} {h : Nat → (Nat → Nat → Int32) × (Nat → Int32)} {r : Nat} {v : Nat → Int32} {u : Nat → Nat → Int32} {w : Nat → Int32} (hQ : Q = (a, h, r, v, u, w)) : Q.1 = a ∧ Q.2.1 = h ∧ Q.2.2.1 = r ∧ Q.2.2.2.1 = v ∧ Q.2.2.2.2.1 = u ∧ Q.2.2.2.2.2 = w := by
  subst hQ
  exact ⟨rfl, rfl, rfl, rfl, rfl, rfl⟩
section DD
variable {B : Nat} {rt : Nat → Int32} {sg : Nat → Nat → Int32} {pw : Nat → Int32} {rd : Nat → Int32} {u : Nat → Nat → Int32} {w : Nat → Int32} {h : Nat → (Nat → Nat → Int32) × (Nat → Int32)} {r : Nat} {v : Nat → Int32} {tu : Nat → Nat → Int32} {tw : Nat → Int32} {su : Nat → Nat → Int32} {sw : Nat → Int32} {g : Nat → Nat → Int32} {k o : Nat}
theorem CI_ref (H : CI B u w) : CI (B + 1) u (va_up w 18 ((w 18) + (1 : Int32))) := by
  refine CI_gr (by omega) H (fun _ _ _ => rfl) (fun k hk => ?_) rfl rfl rfl ?_
  · obtain ⟨-, ⟨a, ha, e⟩, ⟨c, hc, e2⟩⟩ := H.1 k hk
    exact ⟨⟨a, a, e, e, Nat.le_refl _, by omega⟩, ⟨c, c, e2, e2, Nat.le_refl _, by omega⟩⟩
  · obtain ⟨m9, m10, b, c, ⟨x, hx, e⟩, d, ⟨y, hy, f⟩⟩ := H.2.2.2
    refine ⟨m9, m10, b, c, ⟨x, by omega, e⟩, d, ⟨y + 1, by omega, ?_⟩⟩
    show w 18 + (1 : Int32) = _
    rw [f, nI_1]
def hU (u : Nat → Nat → Int32) (o k : Nat) : Nat → Nat → Int32 := va_up (va_up (va_up u 1 (upd (u 1) k (nI o))) 2 (upd (u 2) k (0 : Int32))) 3 (upd (u 3) k (0 : Int32))
theorem ln_hU (ho : o < 4) : ln (hU u o k) = fun j => if j = k then true else ln u j := by
  funext j
  unfold ln
  show (!decide (upd (u 1) k (nI o) j = -1)) = _
  by_cases c : j = k
  · subst c
    rw [pk_us, if_pos rfl, decide_eq_false (nI_m1 (by omega))]
    rfl
  · rw [pk_un c, if_neg c]
theorem ct_hU (ho : o < 4) (hk : k < 28) (hl : ln u k = false) : fb_ct (ln (hU u o k)) 28 = fb_ct (ln u) 28 + 1 := by
  rw [ln_hU ho]
  have := fb_ct_upd (ln u) true (i := k) (n := 28) hk
  rw [hl, if_neg Bool.false_ne_true, if_pos rfl] at this
  exact this
theorem CI_hang (H : CI B u w) (ho : o < 4) (hk : k < 28) (ht : th u k = true) (hl : ln u k = false) : CI B (hU u o k) (va_up w 15 ((w 15) + (1 : Int32))) := by
  refine ⟨fun j hj => ?_, fun q hq => H.2.1 q hq, ?_, H.2.2.2⟩
  · obtain ⟨⟨b, b9, e, hg, hl2⟩, h2, h3⟩ := H.1 j hj
    by_cases c : j = k
    · subst c
      have hb : 0 < b := by
        have := nd_t.mp ht
        rw [e, nI_lz (by omega)] at this
        omega
      exact ⟨⟨b, b9, e, hg, Or.inr ⟨hb, o, ho, pk_us⟩⟩, ⟨0, Nat.zero_le _, pk_us⟩, ⟨0, Nat.zero_le _, pk_us⟩⟩
    · refine ⟨⟨b, b9, e, hg, ?_⟩, ?_, ?_⟩
      · rw [show hU u o k 1 j = u 1 j from pk_un c]; exact hl2
      · rw [show hU u o k 2 j = u 2 j from pk_un c]; exact h2
      · rw [show hU u o k 3 j = u 3 j from pk_un c]; exact h3
  · obtain ⟨t, f, a, b, c, d, e⟩ := H.2.2.1
    refine ⟨t, f, a, b, c, d, ?_⟩
    show w 15 + (1 : Int32) = _
    rw [ct_hU ho hk hl, e, nI_1]
    congr 1
    omega
theorem hang_eq (H : CI B u w) (ho : o < 4) (hk : k < 28) : (pX0_reasonNotToHang u w (nI o) (nI k) = 0 → pX0_hangLine u w (nI o) (nI k) = (nI (11 + fb_ct (ln u) 28), hU u o k, va_up w 15 ((w 15) + (1 : Int32))) ∧ th u k = true ∧ ln u k = false) ∧ (¬ pX0_reasonNotToHang u w (nI o) (nI k) = 0 → pX0_hangLine u w (nI o) (nI k) = (pX0_reasonNotToHang u w (nI o) (nI k), u, va_up w 18 ((w 18) + (1 : Int32)))) := by
  unfold pX0_hangLine
  refine ⟨fun z => ?_, fun z => if_neg z⟩
  obtain ⟨h1, h2⟩ := rh_th z
  have ht := bf.mp (fun q => h1 ((th_iff hk).mpr q))
  have hl := (hl_iff hk).mp h2
  refine ⟨?_, ht, hl⟩
  rw [if_pos z, nI_clamp (by omega), n_lines]
  show ((10 : Int32) + nI (fb_ct (ln (hU u o k)) 28), hU u o k, _) = _
  rw [ct_hU ho hk hl, show (10 : Int32) = nI 10 from rfl, nI_add, show 10 + (fb_ct (ln u) 28 + 1) = 11 + fb_ct (ln u) 28 by omega]
theorem hang_all (H : CI B u w) {n : Nat} (ho : o < 5) (hn : n = 28 ∨ (n < 28 ∧ gw n = true)) : ∀ NO WHY : Int32, (NO = 0 ↔ o < 4 ∧ n < 28 ∧ gw n = true) → WHY = (if NO = 0 then (fY u w (nI o) (nI n)) else 0) → ∀ Q, Q = pX6_hang rt sg pw rd u w h r v tu tw su sw g (nI o) (nI n) → (Q.1 = ((if NO = 0 then (if WHY ≤ 0 then ((11 : Int32) + (fC u w 5)) else WHY) else (-1)) : Int32) ∧ (fC Q.2.2.2.2.1 Q.2.2.2.2.2 13) = ((fC u w 13) + ((if WHY ≤ 0 then 0 else 1) : Int32)) ∧ (NO = 0 → ¬ 0 < WHY → (fG Q.2.2.2.2.1 Q.2.2.2.2.2 (nI n) 3) = nI o ∧ ((fG Q.2.2.2.2.1 Q.2.2.2.2.2 (nI n) 4) + (fG Q.2.2.2.2.1 Q.2.2.2.2.2 (nI n) 5)) = 0)) ∧ PU (B + 1) h r v u w Q.2.1 Q.2.2.1 Q.2.2.2.1 Q.2.2.2.2.1 Q.2.2.2.2.2 := by
  intro NO WHY hNO hW Q hQ
  unfold pX6_hang at hQ
  by_cases z : NO = 0
  · obtain ⟨ho4, hk, hg⟩ := hNO.mp z
    have hgw : ¬ pX4_isGangway (nI n) = 0 := fun q => by rw [gw_iff.mp q] at hg; exact absurd hg (by decide)
    rw [if_neg (isOw o ho4), if_neg hgw] at hQ
    rw [if_pos z, Y_val ho4 hgw] at hW
    obtain ⟨q1, q2⟩ := hang_eq H ho4 hk
    obtain ⟨m, m5, em, -, -⟩ := rh_val (u := u) (w := w) (nI o) (nI n)
    by_cases c : pX0_reasonNotToHang u w (nI o) (nI n) = 0
    · obtain ⟨e, ht, hl⟩ := q1 c
      rw [c] at hW
      rw [e] at hQ
      subst hW
      obtain ⟨E1, E2, E3, E4, E5, E6⟩ := q6 hQ
      rw [E1, E2, E3, E4, E5, E6]
      have hl2 : ln (hU u o n) n = true := by rw [ln_hU ho4]; exact if_pos rfl
      refine ⟨⟨?_, ?_, fun _ _ => ⟨?_, ?_⟩⟩, Or.inr ⟨rfl, rfl, rfl, CI_mono (by omega) (CI_hang H ho4 hk ht hl)⟩⟩
      · rw [if_pos z, if_pos (by decide), C_5, show (11 : Int32) = nI 11 from rfl, nI_add]
      · rw [C_13, C_13, if_pos (by decide), Int32.add_zero]
        rfl
      · rw [G_3 hk hg, hl2, if_neg (by decide)]
        exact pk_us
      · rw [G_4 hk hg, G_5 hk hg, hl2, if_neg (by decide), if_neg (by decide)]
        show upd (u 2) n 0 n + upd (u 3) n 0 n = 0
        rw [pk_us, pk_us]
        rfl
    · have e := q2 c
      rw [e] at hQ
      obtain ⟨E1, E2, E3, E4, E5, E6⟩ := q6 hQ
      rw [E1, E2, E3, E4, E5, E6]
      rw [em] at hW c ⊢
      subst hW
      have m0 : 0 < m := by
        rcases Nat.eq_zero_or_pos m with y | y
        · exact absurd (by rw [y]; rfl) c
        · exact y
      refine ⟨⟨?_, ?_, fun _ y => absurd (nI_lt (a := 0) m0 (by omega)) y⟩, Or.inr ⟨rfl, rfl, rfl, CI_ref H⟩⟩
      · rw [if_pos z, if_neg (nI_nle m0 (by omega))]
      · rw [C_13, C_13, if_neg (nI_nle m0 (by omega))]
        rfl
  · rw [if_neg z] at hW
    have e : Q = ((-1 : Int32), h, r, v, u, w) := by
      rw [hQ]
      rcases no_cases ho hn (fun q => z (hNO.mpr q)) with y | y
      · rw [if_pos y]
      · split
        · rfl
        · first | rfl | rw [if_pos y]
    obtain ⟨E1, E2, E3, E4, E5, E6⟩ := q6 e
    rw [E1, E2, E3, E4, E5, E6, hW]
    refine ⟨⟨?_, ?_, fun y => absurd y z⟩, Or.inl ⟨rfl, rfl, rfl, rfl, rfl⟩⟩
    · rw [if_neg z]
    · rw [if_pos (by decide), Int32.add_zero]
def tU (u : Nat → Nat → Int32) (k : Nat) : Nat → Nat → Int32 := va_up u 1 (upd (u 1) k (-1 : Int32))
theorem ln_tU : ln (tU u k) = fun j => if j = k then false else ln u j := by
  funext j
  unfold ln
  show (!decide (upd (u 1) k (-1) j = -1)) = _
  by_cases c : j = k
  · subst c
    rw [pk_us, if_pos rfl, decide_eq_true rfl]
    rfl
  · rw [pk_un c, if_neg c]
theorem ct_tU (hk : k < 28) (hl : ln u k = true) : fb_ct (ln (tU u k)) 28 + 1 = fb_ct (ln u) 28 := by
  rw [ln_tU]
  have := fb_ct_upd (ln u) false (i := k) (n := 28) hk
  rw [hl, if_neg Bool.false_ne_true, if_pos rfl] at this
  exact this
theorem CI_drop (H : CI B u w) (hk : k < 28) {w1 : Nat → Int32} (hs : CS (B + 1) w1) (ht : CT (B + 1) (tU u k) w1) : CI (B + 1) (tU u k) w1 := by
  refine ⟨fun j hj => ?_, fun q hq => ?_, ht, hs⟩
  · obtain ⟨⟨b, b9, e, hg, hl2⟩, ⟨a, ha, ea⟩, ⟨c, hc, ec⟩⟩ := H.1 j hj
    refine ⟨⟨b, b9, e, hg, ?_⟩, ⟨a, by omega, ea⟩, ⟨c, by omega, ec⟩⟩
    by_cases q : j = k
    · subst q
      exact Or.inl pk_us
    · rw [show tU u k 1 j = u 1 j from pk_un q]; exact hl2
  · obtain ⟨a, b, ⟨x, hx, e⟩⟩ := H.2.1 q hq
    exact ⟨a, b, ⟨x, by omega, e⟩⟩
theorem CS_mono {B B1 : Nat} (hB : B ≤ B1) {w : Nat → Int32} (H : CS B w) : CS B1 w := by
  obtain ⟨m9, m10, b, c, ⟨x, hx, e⟩, d, ⟨y, hy, f⟩⟩ := H
  exact ⟨m9, m10, b, c, ⟨x, by omega, e⟩, d, ⟨y, by omega, f⟩⟩
theorem CI_take (H : CI B u w) (hk : k < 28) (hl : ln u k = true) : CI (B + 1) (tU u k) (va_up w 16 ((w 16) + (1 : Int32))) := by
  refine CI_drop H hk (CS_mono (by omega) H.2.2.2) ?_
  obtain ⟨t, f, a, b, c, d, e⟩ := H.2.2.1
  have := ct_tU hk hl
  refine ⟨t + 1, f, by omega, by omega, ?_, d, ?_⟩
  · show w 16 + (1 : Int32) = _
    rw [c, nI_1]
  · show w 15 = _
    rw [e]
    congr 1
    omega
theorem take_all (H : CI B u w) (hB : B < 1000000) {n : Nat} (ho : o < 5) (hn : n = 28 ∨ (n < 28 ∧ gw n = true)) : ∀ NO LINE OWN : Int32, (NO = 0 ↔ o < 4 ∧ n < 28 ∧ gw n = true) → LINE = (if nI n = 28 then (-4) else (fG u w (nI n) 3)) → OWN = (if NO = 0 then (if LINE = nI o then 1 else 0) else 0) → ∀ Q, Q = pX6_take rt sg pw rd u w h r v tu tw su sw g (nI o) (nI n) → (Q.1 = ((if NO = 0 then (if OWN = 0 then (if LINE = (-4) then 6 else 7) else ((10 : Int32) + ((if OWN = 0 then 0 else ((fG u w (nI n) 4) + (fG u w (nI n) 5))) : Int32))) else (-1)) : Int32) ∧ (fC Q.2.2.2.2.1 Q.2.2.2.2.2 13) = ((fC u w 13) + ((if NO = 0 then (if OWN = 0 then 1 else 0) else 0) : Int32)) ∧ (fC Q.2.2.2.2.1 Q.2.2.2.2.2 5) = ((fC u w 5) - ((if OWN = 0 then 0 else 1) : Int32)) ∧ (¬ OWN = 0 → (fG Q.2.2.2.2.1 Q.2.2.2.2.2 (nI n) 3) = (-4))) ∧ PU (B + 1) h r v u w Q.2.1 Q.2.2.1 Q.2.2.2.1 Q.2.2.2.2.1 Q.2.2.2.2.2 := by
  intro NO LINE OWN hNO hL hO Q hQ
  unfold pX6_take at hQ
  by_cases z : NO = 0
  · obtain ⟨ho4, hk, hg⟩ := hNO.mp z
    have hgw : ¬ pX4_isGangway (nI n) = 0 := fun q => by rw [gw_iff.mp q] at hg; exact absurd hg (by decide)
    have n28 : ¬ nI n = 28 := fun q => by have := (nI_eq (b := 28) (by omega) (by decide)).mp q; omega
    rw [if_neg (isOw o ho4), if_neg hgw] at hQ
    rw [if_neg n28, G_3 hk hg] at hL
    rw [if_pos z] at hO
    unfold pX0_takeLine at hQ
    rw [nI_clamp (by omega)] at hQ
    have l28 := ct29 (ln u)
    by_cases c : ln u n = false
    · rw [if_pos ((hl_iff hk).mpr c)] at hQ
      rw [if_pos c] at hL
      rw [hL, if_neg (fun q => nI_m4 (show o < 2147483648 by omega) q.symm)] at hO
      obtain ⟨E1, E2, E3, E4, E5, E6⟩ := q6 hQ
      rw [E1, E2, E3, E4, E5, E6, hO, hL]
      refine ⟨⟨?_, ?_, ?_, fun y => absurd rfl y⟩, Or.inr ⟨rfl, rfl, rfl, CI_ref H⟩⟩
      · rw [if_pos z, if_pos rfl, if_pos rfl]
      · rw [C_13, C_13, if_pos z, if_pos rfl]
        rfl
      · rw [C_5, C_5, if_pos rfl, Int32.sub_zero]
    · have c1 := bf.mp c
      rw [if_neg (fun q => c ((hl_iff hk).mp q))] at hQ
      rw [if_neg c] at hL
      obtain ⟨-, -, p, hp, ep⟩ := CI_ln H hk c1
      by_cases c2 : u 1 n = nI o
      · rw [if_pos c2] at hQ
        rw [hL, if_pos c2] at hO
        obtain ⟨E1, E2, E3, E4, E5, E6⟩ := q6 hQ
        rw [E1, E2, E3, E4, E5, E6, hO, hL]
        have hc := ct_tU hk c1
        have hlt : ln (tU u n) n = false := by rw [ln_tU]; exact if_pos rfl
        refine ⟨⟨?_, ?_, ?_, fun _ => ?_⟩, Or.inr ⟨rfl, rfl, rfl, CI_take H hk c1⟩⟩
        · rw [if_pos z, if_neg (by decide), if_neg (by decide), G_4 hk hg, G_5 hk hg, if_neg c, if_neg c, Int32.add_assoc]
        · rw [C_13, C_13, if_pos z, if_neg (by decide), Int32.add_zero]
          rfl
        · rw [C_5, C_5, if_neg (by decide)]
          show nI (fb_ct (ln (tU u n)) 28) = _
          rw [← hc, show (1 : Int32) = nI 1 from rfl, pk_sub (by omega), Nat.add_sub_cancel]
        · rw [G_3 hk hg]
          show (if ln (tU u n) n = false then _ else _) = _
          rw [if_pos hlt]
      · rw [if_neg c2] at hQ
        rw [hL, if_neg c2] at hO
        obtain ⟨E1, E2, E3, E4, E5, E6⟩ := q6 hQ
        rw [E1, E2, E3, E4, E5, E6, hO, hL]
        refine ⟨⟨?_, ?_, ?_, fun y => absurd rfl y⟩, Or.inr ⟨rfl, rfl, rfl, CI_ref H⟩⟩
        · rw [if_pos z, if_pos rfl, if_neg (by rw [ep]; exact nI_m4 (by omega))]
        · rw [C_13, C_13, if_pos z, if_pos rfl]
          rfl
        · rw [C_5, C_5, if_pos rfl, Int32.sub_zero]
  · rw [if_neg z] at hO
    have e : Q = ((-1 : Int32), h, r, v, u, w) := by
      rw [hQ]
      rcases no_cases ho hn (fun q => z (hNO.mpr q)) with y | y
      · rw [if_pos y]
      · split
        · rfl
        · first | rfl | rw [if_pos y]
    obtain ⟨E1, E2, E3, E4, E5, E6⟩ := q6 e
    rw [E1, E2, E3, E4, E5, E6, hO]
    refine ⟨⟨?_, ?_, ?_, fun y => absurd rfl y⟩, Or.inl ⟨rfl, rfl, rfl, rfl, rfl⟩⟩
    · rw [if_neg z]
    · rw [if_neg z, Int32.add_zero]
    · rw [if_pos rfl, Int32.sub_zero]
end DD
