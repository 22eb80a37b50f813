/-! ===== the other changes ===== -/
section CH_
variable {B : Nat} {rt : Nat → Int32} {sg : Nat → Nat → Int32} {pw : Nat → Int32} {rd : Nat → Int32} {u : Nat → Nat → Int32} {w : Nat → Int32} {h : Nat → (Nat → Nat → Int32) × (Nat → Int32)} {r : Nat} {v : Nat → Int32} {tu : Nat → Nat → Int32} {tw : Nat → Int32} {su : Nat → Nat → Int32} {sw : Nat → Int32} {g : Nat → Nat → Int32} {k o : Nat}
theorem T_w3 : ∀ d, d < 5 → (nI d = 4 ∧ pX6_isWithin (nI d) 0 3 = 0) ∨ (d < 4 ∧ ¬ nI d = 4 ∧ ¬ pX6_isWithin (nI d) 0 3 = 0) := by decide +kernel
theorem CI_w {w1 : Nat → Int32} (H : CI B u w) (h15 : w1 15 = w 15) (h16 : w1 16 = w 16) (h17 : w1 17 = w 17) (hs : CS B w1) : CI B u w1 := by
  refine CI_gr (Nat.le_refl _) H (fun _ _ _ => rfl) (fun k hk => ?_) h15 h16 h17 hs
  obtain ⟨-, ⟨a, ha, e⟩, ⟨c, hc, e2⟩⟩ := H.1 k hk
  exact ⟨⟨a, a, e, e, Nat.le_refl _, ha⟩, ⟨c, c, e2, e2, Nat.le_refl _, hc⟩⟩
theorem reach_all (H : CI B u w) {d : Nat} (hd : d < 5) : ∀ Q, Q = pX6_reach rt sg pw rd u w h r v tu tw su sw g (nI d) → (Q.1 = ((if nI d = 4 then (-1) else (fC u w 14)) : Int32) ∧ (fC Q.2.2.2.2.1 Q.2.2.2.2.2 14) = ((if nI d = 4 then (fC u w 14) else nI d) : Int32)) ∧ PU B h r v u w Q.2.1 Q.2.2.1 Q.2.2.2.1 Q.2.2.2.2.1 Q.2.2.2.2.2 := by
  intro Q hQ
  unfold pX6_reach at hQ
  rcases T_w3 d hd with ⟨e4, c⟩ | ⟨hd4, e4, c⟩
  · rw [if_pos c] at hQ
    obtain ⟨E1, E2, E3, E4, E5, E6⟩ := q6 hQ
    rw [E1, E2, E3, E4, E5, E6, if_pos e4, if_pos e4]
    exact ⟨⟨rfl, rfl⟩, Or.inl ⟨rfl, rfl, rfl, rfl, rfl⟩⟩
  · rw [if_neg c] at hQ
    obtain ⟨E1, E2, E3, E4, E5, E6⟩ := q6 hQ
    rw [E1, E2, E3, E4, E5, E6, if_neg e4, if_neg e4, C_14, C_14]
    obtain ⟨m9, m10, b, c, d1, d2, d3⟩ := H.2.2.2
    exact ⟨⟨rfl, rfl⟩, Or.inr ⟨rfl, rfl, rfl, CI_w H rfl rfl rfl ⟨m9, m10, b, ⟨d, hd4, rfl⟩, d1, d2, d3⟩⟩⟩
theorem sm_cg {u1 u2 : Nat → Nat → Int32} {w1 w2 : Nat → Int32} (h9 : w1 9 = w2 9) (h12 : w1 12 = w2 12) (d : Int32) : pX0_smokeBlown u1 w1 d = pX0_smokeBlown u2 w2 d := by
  have key : ∀ n, pX0_smokeBlown_L4 u1 w1 d n = pX0_smokeBlown_L4 u2 w2 d n := by
    intro n
    induction n with
    | zero => rw [pX0_smokeBlown_L4_0, pX0_smokeBlown_L4_0]
    | succ n ih => rw [pX0_smokeBlown_L4_s, pX0_smokeBlown_L4_s, ih, h9, h12]
  unfold pX0_smokeBlown
  exact key 16
theorem wind_all (H : CI B u w) {d : Nat} (hd : d < 5) : ∀ Q, Q = pX6_wind rt sg pw rd u w h r v tu tw su sw g (nI d) → (Q.1 = ((if nI d = 4 then (-1) else (fC u w 1)) : Int32) ∧ (fC Q.2.2.2.2.1 Q.2.2.2.2.2 1) = ((if nI d = 4 then (fC u w 1) else nI d) : Int32) ∧ (¬ nI d = 4 → (fC Q.2.2.2.2.1 Q.2.2.2.2.2 9) = ((if nI d = 4 then 0 else (fW u w (nI d))) : Int32))) ∧ PU B h r v u w Q.2.1 Q.2.2.1 Q.2.2.2.1 Q.2.2.2.2.1 Q.2.2.2.2.2 := by
  intro Q hQ
  unfold pX6_wind at hQ
  rcases T_w3 d hd with ⟨e4, c⟩ | ⟨hd4, e4, c⟩
  · rw [if_pos c] at hQ
    obtain ⟨E1, E2, E3, E4, E5, E6⟩ := q6 hQ
    rw [E1, E2, E3, E4, E5, E6, if_pos e4, if_pos e4]
    exact ⟨⟨rfl, rfl, fun z => absurd e4 z⟩, Or.inl ⟨rfl, rfl, rfl, rfl, rfl⟩⟩
  · rw [if_neg c] at hQ
    obtain ⟨E1, E2, E3, E4, E5, E6⟩ := q6 hQ
    rw [E1, E2, E3, E4, E5, E6, if_neg e4, if_neg e4, if_neg e4, C_1, C_1, C_9]
    obtain ⟨m9, m10, b, c, d1, d2, d3⟩ := H.2.2.2
    refine ⟨⟨rfl, rfl, fun _ => ?_⟩, Or.inr ⟨rfl, rfl, rfl, CI_w H rfl rfl rfl ⟨m9, m10, ⟨d, hd4, rfl⟩, c, d1, d2, d3⟩⟩⟩
    rw [W_val hd4, show va_up w 11 (nI d) 11 = nI d from rfl, n_smoked]
    refine congrArg nI (fb_ct_cong (fun k hk => ?_))
    unfold lsB
    rw [sm_cg (u1 := u) (u2 := u) (w1 := va_up w 11 (nI d)) (w2 := w) rfl rfl]
theorem T_r17 : ∀ q, q < 17 → (nI q = 16 ∧ pX6_isRoof (nI q) = 0) ∨ (q < 16 ∧ ¬ nI q = 16 ∧ ¬ pX6_isRoof (nI q) = 0) := by decide +kernel
theorem tog (x : Int32) {q : Nat} (hq : q < 16) : pX6_bitOf (x ^^^ ((1 : Int32) <<< (nI q &&& 31))) (nI q) = (1 : Int32) - pX6_bitOf x (nI q) := by
  rw [bo_b1 _ (by omega), bo_b1 _ (by omega), b_xor, bt_shl (by omega), decide_eq_true rfl]
  cases bt x q <;> rfl
theorem chimney_all (H : CI B u w) {q : Nat} (hq : q < 17) : ∀ Q, Q = pX6_chimney rt sg pw rd u w h r v tu tw su sw g (nI q) → ((¬ nI q = 16 → Q.1 = (fC Q.2.2.2.2.1 Q.2.2.2.2.2 3)) ∧ (¬ nI q = 16 → (fR Q.2.2.2.2.1 Q.2.2.2.2.2 (nI q) 0) = ((1 : Int32) - ((if nI q = 16 then 0 else (fR u w (nI q) 0)) : Int32))) ∧ (nI q = 16 → Q.1 = -1)) ∧ PU B h r v u w Q.2.1 Q.2.2.1 Q.2.2.2.1 Q.2.2.2.2.1 Q.2.2.2.2.2 := by
  intro Q hQ
  unfold pX6_chimney pX0_toggleChimney at hQ
  rcases T_r17 q hq with ⟨e4, c⟩ | ⟨hq4, e4, c⟩
  · rw [if_pos c] at hQ
    obtain ⟨E1, E2, E3, E4, E5, E6⟩ := q6 hQ
    rw [E1, E2, E3, E4, E5, E6]
    exact ⟨⟨fun z => absurd e4 z, fun z => absurd e4 z, fun _ => rfl⟩, Or.inl ⟨rfl, rfl, rfl, rfl, rfl⟩⟩
  · rw [if_neg c] at hQ
    obtain ⟨E1, E2, E3, E4, E5, E6⟩ := q6 hQ
    rw [E1, E2, E3, E4, E5, E6, if_neg e4, C_3]
    obtain ⟨m9, m10, b, c, d1, d2, d3⟩ := H.2.2.2
    refine ⟨⟨fun _ => rfl, fun _ => ?_, fun z => absurd z e4⟩, Or.inr ⟨rfl, rfl, rfl, CI_w H rfl rfl rfl ⟨M16_xor m9 (M16_shl hq4), m10, b, c, d1, d2, d3⟩⟩⟩
    rw [R_0 hq4, R_0 hq4]
    exact tog (w 9) hq4
theorem coop_all (H : CI B u w) {q : Nat} (hq : q < 17) : ∀ Q, Q = pX6_coop rt sg pw rd u w h r v tu tw su sw g (nI q) → ((¬ nI q = 16 → Q.1 = (fC Q.2.2.2.2.1 Q.2.2.2.2.2 4)) ∧ (¬ nI q = 16 → (fR Q.2.2.2.2.1 Q.2.2.2.2.2 (nI q) 3) = ((1 : Int32) - ((if nI q = 16 then 0 else (fR u w (nI q) 3)) : Int32))) ∧ (nI q = 16 → Q.1 = -1)) ∧ PU B h r v u w Q.2.1 Q.2.2.1 Q.2.2.2.1 Q.2.2.2.2.1 Q.2.2.2.2.2 := by
  intro Q hQ
  unfold pX6_coop at hQ
  rcases T_r17 q hq with ⟨e4, c⟩ | ⟨hq4, e4, c⟩
  · rw [if_pos c] at hQ
    obtain ⟨E1, E2, E3, E4, E5, E6⟩ := q6 hQ
    rw [E1, E2, E3, E4, E5, E6]
    exact ⟨⟨fun z => absurd e4 z, fun z => absurd e4 z, fun _ => rfl⟩, Or.inl ⟨rfl, rfl, rfl, rfl, rfl⟩⟩
  · rw [if_neg c] at hQ
    obtain ⟨E1, E2, E3, E4, E5, E6⟩ := q6 hQ
    rw [E1, E2, E3, E4, E5, E6, if_neg e4, C_4]
    obtain ⟨m9, m10, b, c, d1, d2, d3⟩ := H.2.2.2
    refine ⟨⟨fun _ => rfl, fun _ => ?_, fun z => absurd z e4⟩, Or.inr ⟨rfl, rfl, rfl, CI_w H rfl rfl rfl ⟨m9, M16_xor m10 (M16_shl hq4), b, c, d1, d2, d3⟩⟩⟩
    rw [R_3 hq4, R_3 hq4]
    exact tog (w 10) hq4
/-! owner -/
def oU (u : Nat → Nat → Int32) (o : Nat) (a b : Int32) : Nat → Nat → Int32 := va_up (va_up u 4 (upd (u 4) o a)) 5 (upd (u 5) o b)
theorem CI_own (H : CI B u w) {x : Nat} (h1 : 1 ≤ x) (h9 : x ≤ 9) (b : Int32) {w1 : Nat → Int32} (h15 : w1 15 = w 15) (h16 : w1 16 = w 16) (h17 : w1 17 = w 17) (hs : CS B w1) : CI B (oU u o (nI x) b) w1 := by
  refine ⟨fun j hj => H.1 j hj, fun q hq => ?_, ?_, hs⟩
  · obtain ⟨⟨y, y1, y9, e⟩, b1_, c1_⟩ := H.2.1 q hq
    refine ⟨?_, b1_, c1_⟩
    by_cases c : q = o
    · subst c
      exact ⟨x, h1, h9, pk_us⟩
    · exact ⟨y, y1, y9, (show upd (u 4) o _ q = _ from pk_un c).trans e⟩
  · obtain ⟨t, f, a, b, c, d, e⟩ := H.2.2.1
    exact ⟨t, f, a, b, h16.trans c, h17.trans d, h15.trans e⟩
theorem tr_1 (x : Int32) {o : Nat} (ho : o < 4) : pX6_bitOf (x ||| ((1 : Int32) <<< (nI o &&& 31))) (nI o) = 1 := by
  rw [bo_b1 _ (by omega), b_or, bt_shl (by omega), decide_eq_true rfl, Bool.or_true]
  rfl
theorem tr_0 (x : Int32) {o : Nat} (ho : o < 4) : pX6_bitOf (x &&& (((1 : Int32) <<< (nI o &&& 31)) ^^^ (-1 : Int32))) (nI o) = 0 := by
  rw [bo_b1 _ (by omega), b_and, b_xor, bt_shl (by omega), decide_eq_true rfl, b_m1 o (by omega)]
  cases bt x o <;> rfl
theorem T_wt : ∀ x, x < 11 → ((nI x = 0 ∨ nI x = 10) ∧ pX6_isWithin (nI x) 1 9 = 0) ∨ (1 ≤ x ∧ x ≤ 9 ∧ ¬ nI x = 0 ∧ ¬ nI x = 10 ∧ ¬ pX6_isWithin (nI x) 1 9 = 0) := by decide +kernel
theorem ky_r {y : Nat} (hy : y < 65537) : (nI y = 65536 ∧ pX6_isWithin (nI y) 0 65535 = 0) ∨ (¬ nI y = 65536 ∧ ¬ pX6_isWithin (nI y) 0 65535 = 0) := by
  by_cases c : y = 65536
  · subst c
    exact Or.inl ⟨rfl, by decide⟩
  · right
    refine ⟨fun q => c ((nI_eq (b := 65536) (by omega) (by decide)).mp q), ?_⟩
    unfold pX6_isWithin
    rw [if_neg (nI_pos (by omega)), if_neg (show ¬ (65535 : Int32) < nI y from nI_nlt (a := 65535) (by omega) (by decide))]
    decide
theorem owner_all (H : CI B u w) {p x y : Nat} (hp : p < 5) (hx : x < 11) (hy : y < 65537) (t : Int32) : ∀ BAD : Int32, BAD = ((if nI p = 4 then 1 else (if nI x = 0 then 1 else (if nI x = 10 then 1 else (if nI y = 65536 then 1 else 0)))) : Int32) → ∀ Q, Q = pX6_owner rt sg pw rd u w h r v tu tw su sw g (nI p) (nI x) (nI y) t → (Q.1 = ((if BAD = 0 then ((if nI p = 4 then 0 else (fO u w (nI p) 0)) : Int32) else (-1)) : Int32) ∧ (BAD = 0 → (fO Q.2.2.2.2.1 Q.2.2.2.2.2 (nI p) 0) = nI x ∧ (fO Q.2.2.2.2.1 Q.2.2.2.2.2 (nI p) 1) = nI y ∧ (fO Q.2.2.2.2.1 Q.2.2.2.2.2 (nI p) 2) = ((if t = 0 then 0 else 1) : Int32))) ∧ PU B h r v u w Q.2.1 Q.2.2.1 Q.2.2.2.1 Q.2.2.2.2.1 Q.2.2.2.2.2 := by
  intro BAD hBAD Q hQ
  unfold pX6_owner at hQ
  have bad : (pX6_isOwner (nI p) = 0 ∨ pX6_isWithin (nI x) 1 9 = 0 ∨ pX6_isWithin (nI y) 0 65535 = 0) → ¬ BAD = 0 → (Q.1 = ((if BAD = 0 then ((if nI p = 4 then 0 else (fO u w (nI p) 0)) : Int32) else (-1)) : Int32) ∧ (BAD = 0 → (fO Q.2.2.2.2.1 Q.2.2.2.2.2 (nI p) 0) = nI x ∧ (fO Q.2.2.2.2.1 Q.2.2.2.2.2 (nI p) 1) = nI y ∧ (fO Q.2.2.2.2.1 Q.2.2.2.2.2 (nI p) 2) = ((if t = 0 then 0 else 1) : Int32))) ∧ PU B h r v u w Q.2.1 Q.2.2.1 Q.2.2.2.1 Q.2.2.2.2.1 Q.2.2.2.2.2 := by
    intro z zb
    have e : Q = ((-1 : Int32), h, r, v, u, w) := by
      rw [hQ]
      by_cases c1 : pX6_isOwner (nI p) = 0
      · rw [if_pos c1]
      · rw [if_neg c1]
        by_cases c2 : pX6_isWithin (nI x) 1 9 = 0
        · rw [if_pos c2]
        · rw [if_neg c2, if_pos ((z.resolve_left c1).resolve_left c2)]
    obtain ⟨E1, E2, E3, E4, E5, E6⟩ := q6 e
    rw [E1, E2, E3, E4, E5, E6, if_neg zb]
    exact ⟨⟨rfl, fun q => absurd q zb⟩, Or.inl ⟨rfl, rfl, rfl, rfl, rfl⟩⟩
  by_cases c1 : nI p = 4
  · refine bad (Or.inl (by rw [c1]; decide)) ?_
    rw [hBAD, if_pos c1]
    decide
  · have hp4 := o4 p hp c1
    rcases T_wt x hx with ⟨e1, e2⟩ | ⟨x1, x9, n0, n10, e2⟩
    · refine bad (Or.inr (Or.inl e2)) ?_
      rw [hBAD, if_neg c1]
      rcases e1 with e1 | e1
      · rw [if_pos e1]; decide
      · split
        · decide
        · first | decide | (rw [if_pos e1]; decide)
    · rcases ky_r hy with ⟨e1, e3⟩ | ⟨e1, e3⟩
      · refine bad (Or.inr (Or.inr e3)) ?_
        rw [hBAD, if_neg c1, if_neg n0, if_neg n10, if_pos e1]
        decide
      · have hb : BAD = 0 := by rw [hBAD, if_neg c1, if_neg n0, if_neg n10, if_neg e1]
        rw [if_neg (isOw p hp4), if_neg e2, if_neg e3, nI_clamp (by omega)] at hQ
        unfold pX0_setTruce at hQ
        obtain ⟨m9, m10, b, c, d1, d2, d3⟩ := H.2.2.2
        by_cases ct : t = 0
        · rw [if_pos ct] at hQ
          obtain ⟨E1, E2, E3, E4, E5, E6⟩ := q6 hQ
          rw [E1, E2, E3, E4, E5, E6, if_pos hb, if_neg c1, if_pos ct, O_0 hp4, O_0 hp4, O_1 hp4, O_2 hp4]
          exact ⟨⟨rfl, fun _ => ⟨pk_us, pk_us, tr_0 (w 8) hp4⟩⟩, Or.inr ⟨rfl, rfl, rfl, CI_own H x1 x9 (nI y) rfl rfl rfl ⟨m9, m10, b, c, d1, d2, d3⟩⟩⟩
        · rw [if_neg ct] at hQ
          obtain ⟨E1, E2, E3, E4, E5, E6⟩ := q6 hQ
          rw [E1, E2, E3, E4, E5, E6, if_pos hb, if_neg c1, if_neg ct, O_0 hp4, O_0 hp4, O_1 hp4, O_2 hp4]
          exact ⟨⟨rfl, fun _ => ⟨pk_us, pk_us, tr_1 (w 8) hp4⟩⟩, Or.inr ⟨rfl, rfl, rfl, CI_own H x1 x9 (nI y) rfl rfl rfl ⟨m9, m10, b, c, d1, d2, d3⟩⟩⟩
/-! bears -/
theorem T_b29 : ∀ n, n < 29 → (pL_bridge (nI n) = 0 ∧ pX4_isGangway (nI n) = 0) ∨ (n < 28 ∧ gw n = true ∧ ¬ pL_bridge (nI n) = 0 ∧ ¬ pX4_isGangway (nI n) = 0) := by decide +kernel
theorem T_m11 : ∀ b, b < 11 → (nI b = 10 ∧ pX6_isWithin (nI b) 0 9 = 0) ∨ (b ≤ 9 ∧ ¬ nI b = 10 ∧ ¬ pX6_isWithin (nI b) 0 9 = 0) := by decide +kernel
def bU (u : Nat → Nat → Int32) (n b : Nat) : Nat → Nat → Int32 := va_up u 0 (upd (u 0) n (nI b))
theorem CI_bear (H : CI B u w) {n b : Nat} (hn : n < 28) (hg : gw n = true) (hb : b ≤ 9) (hl : 0 < b ∨ ln u n = false) : CI B (bU u n b) w := by
  refine ⟨fun j hj => ?_, fun q hq => H.2.1 q hq, H.2.2.1, H.2.2.2⟩
  obtain ⟨⟨c, c9, e, hg2, hl2⟩, h2, h3⟩ := H.1 j hj
  by_cases q : j = n
  · subst q
    refine ⟨⟨b, hb, pk_us, fun z => (by rw [hg] at z; exact absurd z (by decide)), ?_⟩, h2, h3⟩
    rcases hl2 with z | ⟨z1, z2⟩
    · exact Or.inl z
    · rcases hl with y | y
      · exact Or.inr ⟨y, z2⟩
      · exact Or.inl (nd_f.mp y)
  · exact ⟨⟨c, c9, (show upd (u 0) n _ j = _ from pk_un q).trans e, hg2, hl2⟩, h2, h3⟩
theorem CI_fall (H : CI B u w) {n : Nat} (hn : n < 28) (hg : gw n = true) (hl : ln u n = true) : CI (B + 1) (tU (bU u n 0) n) (va_up w 17 ((w 17) + (1 : Int32))) := by
  have hlt : ln (tU (bU u n 0) n) = ln (tU u n) := rfl
  have := ct_tU hn hl
  refine ⟨fun j hj => ?_, fun q hq => ?_, ?_, CS_mono (B := B) (by omega) H.2.2.2⟩
  · obtain ⟨⟨b, b9, e, hg2, hl2⟩, ⟨a, ha, ea⟩, ⟨c, hc, ec⟩⟩ := H.1 j hj
    by_cases q : j = n
    · subst q
      exact ⟨⟨0, Nat.zero_le _, pk_us, fun _ => rfl, Or.inl pk_us⟩, ⟨a, by omega, ea⟩, ⟨c, by omega, ec⟩⟩
    · refine ⟨⟨b, b9, (show upd (u 0) n _ j = _ from pk_un q).trans e, hg2, ?_⟩, ⟨a, by omega, ea⟩, ⟨c, by omega, ec⟩⟩
      rw [show tU (bU u n 0) n 1 j = u 1 j from pk_un q]
      exact hl2
  · obtain ⟨a, b, ⟨x, hx, e⟩⟩ := H.2.1 q hq
    exact ⟨a, b, ⟨x, by omega, e⟩⟩
  · obtain ⟨t, f, a, b, c, d, e⟩ := H.2.2.1
    refine ⟨t, f + 1, by omega, by omega, c, ?_, ?_⟩
    · show w 17 + (1 : Int32) = _
      rw [d, nI_1]
    · show w 15 = _
      rw [e, hlt]
      congr 1
      omega
theorem bears_all (H : CI B u w) {n b : Nat} (hn : n < 29) (hb : b < 11) : ∀ NO HAD FALLS : Int32, NO = ((if (pL_bridge (nI n)) = 0 then 1 else (if nI b = 10 then 1 else 0)) : Int32) → HAD = ((if (pL_bridge (nI n)) = 0 then 0 else (fG u w (nI n) 0)) : Int32) → FALLS = ((if NO = 0 then (if nI b = 0 then (if (fG u w (nI n) 3) = (-4) then 0 else 1) else 0) else 0) : Int32) → ∀ Q, Q = pX6_bears rt sg pw rd u w h r v tu tw su sw g (nI n) (nI b) → (Q.1 = ((if NO = 0 then HAD else (-1)) : Int32) ∧ (fC Q.2.2.2.2.1 Q.2.2.2.2.2 12) = ((fC u w 12) + ((if FALLS = 0 then 0 else 1) : Int32)) ∧ (¬ (pL_bridge (nI n)) = 0 → (fG Q.2.2.2.2.1 Q.2.2.2.2.2 (nI n) 0) = ((if NO = 0 then nI b else HAD) : Int32))) ∧ PU (B + 1) h r v u w Q.2.1 Q.2.2.1 Q.2.2.2.1 Q.2.2.2.2.1 Q.2.2.2.2.2 := by
  intro NO HAD FALLS hNO hHAD hF Q hQ
  unfold pX6_bears at hQ
  have bad : (pX4_isGangway (nI n) = 0 ∨ pX6_isWithin (nI b) 0 9 = 0) → ¬ NO = 0 → (Q.1 = ((if NO = 0 then HAD else (-1)) : Int32) ∧ (fC Q.2.2.2.2.1 Q.2.2.2.2.2 12) = ((fC u w 12) + ((if FALLS = 0 then 0 else 1) : Int32)) ∧ (¬ (pL_bridge (nI n)) = 0 → (fG Q.2.2.2.2.1 Q.2.2.2.2.2 (nI n) 0) = ((if NO = 0 then nI b else HAD) : Int32))) ∧ PU (B + 1) h r v u w Q.2.1 Q.2.2.1 Q.2.2.2.1 Q.2.2.2.2.1 Q.2.2.2.2.2 := by
    intro z zb
    have e : Q = ((-1 : Int32), h, r, v, u, w) := by
      rw [hQ]
      by_cases c1 : pX4_isGangway (nI n) = 0
      · rw [if_pos c1]
      · rw [if_neg c1, if_pos (z.resolve_left c1)]
    rw [if_neg zb] at hF
    obtain ⟨E1, E2, E3, E4, E5, E6⟩ := q6 e
    rw [E1, E2, E3, E4, E5, E6, hF, if_neg zb, if_neg zb, hHAD]
    refine ⟨⟨rfl, ?_, fun q => ?_⟩, Or.inl ⟨rfl, rfl, rfl, rfl, rfl⟩⟩
    · rw [if_pos rfl, Int32.add_zero]
    · rw [if_neg q]
  rcases T_b29 n hn with ⟨t1, t2⟩ | ⟨hk, hg, t3, t4⟩
  · refine bad (Or.inl t2) ?_
    rw [hNO, if_pos t1]
    decide
  · rcases T_m11 b hb with ⟨s1, s2⟩ | ⟨b9, s1, s2⟩
    · refine bad (Or.inr s2) ?_
      rw [hNO, if_neg t3, if_pos s1]
      decide
    · have z : NO = 0 := by rw [hNO, if_neg t3, if_neg s1]
      rw [if_neg t3, G_0 hk hg] at hHAD
      rw [if_pos z] at hF
      rw [if_neg t4, if_neg s2, nI_clamp (by omega)] at hQ
      unfold pX0_letBear at hQ
      rw [nI_clamp (by omega)] at hQ
      have eHL : pX0_hasLine (va_up u 0 (upd (u 0) n (nI b))) w (nI n) = 0 ↔ ln u n = false := (hl_iff (u := bU u n b) (w := w) hk)
      by_cases cb : nI b = 0
      · have b0 : b = 0 := (nI_z (by omega)).mp cb
        rw [if_pos cb] at hQ hF
        by_cases cl_ : ln u n = false
        · rw [if_pos (eHL.mpr cl_)] at hQ
          rw [if_pos ((G3_no H hk hg).mpr cl_)] at hF
          obtain ⟨E1, E2, E3, E4, E5, E6⟩ := q6 hQ
          rw [E1, E2, E3, E4, E5, E6, hF, if_pos z, if_pos z, hHAD]
          refine ⟨⟨rfl, ?_, fun _ => ?_⟩, Or.inr ⟨rfl, rfl, rfl, CI_mono (by omega) (CI_bear H hk hg b9 (Or.inr cl_))⟩⟩
          · rw [C_12, C_12, if_pos rfl, Int32.add_zero]
          · rw [G_0 hk hg]
            exact pk_us
        · rw [if_neg (fun q => cl_ (eHL.mp q))] at hQ
          rw [if_neg (fun q => cl_ ((G3_no H hk hg).mp q))] at hF
          obtain ⟨E1, E2, E3, E4, E5, E6⟩ := q6 hQ
          rw [E1, E2, E3, E4, E5, E6, hF, if_pos z, if_pos z, hHAD]
          refine ⟨⟨rfl, ?_, fun _ => ?_⟩, Or.inr ⟨rfl, rfl, rfl, ?_⟩⟩
          · rw [C_12, C_12, if_neg (by decide)]
            rfl
          · rw [G_0 hk hg]
            exact pk_us
          · rw [b0]
            exact CI_fall H hk hg (bf.mp cl_)
      · rw [if_neg cb] at hQ hF
        have b0 : 0 < b := by
          rcases Nat.eq_zero_or_pos b with q | q
          · exact absurd (by rw [q]; rfl) cb
          · exact q
        obtain ⟨E1, E2, E3, E4, E5, E6⟩ := q6 hQ
        rw [E1, E2, E3, E4, E5, E6, hF, if_pos z, if_pos z, hHAD]
        refine ⟨⟨rfl, ?_, fun _ => ?_⟩, Or.inr ⟨rfl, rfl, rfl, CI_mono (by omega) (CI_bear H hk hg b9 (Or.inl b0))⟩⟩
        · rw [C_12, C_12, if_pos rfl, Int32.add_zero]
        · rw [G_0 hk hg]
          exact pk_us
/-! a day -/
theorem day_all (H : CI B u w) {tu1 tu2 tu3 : Nat → Nat → Int32} {tw1 tw2 tw3 : Nat → Int32} : ∀ Q, Q = pX6_day rt sg pw rd u w h r v tu3 tw3 su sw g → (Q.1 = (pX6_ifDays rt sg pw rd u w h r v tu tw su sw g 1 0).1 ∧ (fC Q.2.2.2.2.1 Q.2.2.2.2.2 6) = (pX6_ifDays rt sg pw rd u w h r v tu tw su sw g 1 0).1 ∧ (fC Q.2.2.2.2.1 Q.2.2.2.2.2 7) = (pX6_ifDays rt sg pw rd u w h r v tu1 tw1 su sw g 1 1).1 ∧ (fC Q.2.2.2.2.1 Q.2.2.2.2.2 1) = (pX6_ifDays rt sg pw rd u w h r v tu2 tw2 su sw g 1 3).1 ∧ (fC Q.2.2.2.2.1 Q.2.2.2.2.2 0) = ((fC u w 0) + (1 : Int32))) ∧ PU (B + 2) h r v u w Q.2.1 Q.2.2.1 Q.2.2.2.1 Q.2.2.2.2.1 Q.2.2.2.2.2 := by
  intro Q hQ
  unfold pX6_day at hQ
  obtain ⟨d1, d2⟩ := day_DR H
  rw [day_one 0 (by decide), day_one 1 (by decide), day_one 3 (by decide)]
  unfold dV
  generalize pX0_passDay u w = z at hQ d1 d2 ⊢
  obtain ⟨E1, E2, E3, E4, E5, E6⟩ := q6 hQ
  rw [E1, E2, E3, E4, E5, E6, C_6, C_7, C_1, C_0, C_0, n_clean, d2]
  exact ⟨⟨rfl, rfl, rfl, rfl, rfl⟩, Or.inr ⟨rfl, rfl, rfl, d1.1⟩⟩
end CH_
