/-! ===== copies, the model's records, the history ===== -/
theorem cp_L (u1 u2 : Nat → Nat → Int32) (x1 y1 n1 n2 : Nat) : ∀ n j, pX7_copies_L3 u1 u2 x1 y1 n1 n2 n 0 j = if y1 ≤ j ∧ j < y1 + n then u1 0 (x1 + (j - y1)) else u2 0 j := by
  intro n
  induction n with
  | zero =>
    intro j
    rw [pX7_copies_L3_0, if_neg (show ¬ (y1 ≤ j ∧ j < y1 + 0) by omega)]
  | succ n ih =>
    intro j
    rw [pX7_copies_L3_s]
    show upd (pX7_copies_L3 u1 u2 x1 y1 n1 n2 n 0) (y1 + n) (u1 0 (x1 + n)) j = _
    by_cases e : j = y1 + n
    · subst e
      rw [pk_us, if_pos (show y1 ≤ y1 + n ∧ y1 + n < y1 + (n + 1) by omega), show y1 + n - y1 = n by omega]
    · rw [pk_un e, ih j]
      by_cases q : y1 ≤ j ∧ j < y1 + n
      · rw [if_pos q, if_pos (show y1 ≤ j ∧ j < y1 + (n + 1) by omega)]
      · rw [if_neg q, if_neg (show ¬ (y1 ≤ j ∧ j < y1 + (n + 1)) by omega)]
theorem cp_at (u1 u2 : Nat → Nat → Int32) (x1 y1 n1 n2 : Nat) (j : Nat) : pX7_copies u1 u2 x1 y1 n1 n2 0 j = if y1 ≤ j ∧ j < y1 + 142 then u1 0 (x1 + (j - y1)) else u2 0 j := by
  unfold pX7_copies
  exact cp_L u1 u2 x1 y1 n1 n2 142 j
theorem sh_L (u : Nat → Nat → Int32) (w : Nat → Int32) (kn : Nat) : ∀ n j, pX7_records_L10 u w kn n 2 j = if j < n then u 2 (j + 142) else u 2 j := by
  intro n
  induction n with
  | zero =>
    intro j
    rw [pX7_records_L10_0, if_neg (Nat.not_lt_zero j)]
  | succ n ih =>
    intro j
    rw [pX7_records_L10_s]
    show upd (pX7_records_L10 u w kn n 2) n (pX7_records_L10 u w kn n 2 (n + 142)) j = _
    by_cases e : j = n
    · subst e
      rw [pk_us, ih (j + 142), if_neg (show ¬ j + 142 < j by omega), if_pos (Nat.lt_succ_self j)]
    · rw [pk_un e, ih j]
      by_cases q : j < n
      · rw [if_pos q, if_pos (show j < n + 1 by omega)]
      · rw [if_neg q, if_neg (show ¬ j < n + 1 by omega)]
theorem rec_2a {c : Prop} [Decidable c] {z u : Nat → Nat → Int32} {f g : Nat → Int32} {x y : Nat → Int32} : (if c then (va_up z 2 f, x) else (va_up u 2 g, y)).1 2 = if c then f else g := by split <;> rfl
theorem rec_3a {c : Prop} [Decidable c] {z u : Nat → Nat → Int32} {w : Nat → Int32} {x y : Int32} : (if c then (z, va_up w 3 x) else (u, va_up w 3 y)).2 3 = if c then x else y := by split <;> rfl
theorem rec_2 (m : Nat → Nat → Int32) (x : Nat → Int32) {kn : Nat} (hk : kn ≤ 4) (j : Nat) : (pX7_records m x kn).1 2 j = if kn = 4 then (if 426 ≤ j ∧ j < 568 then m 0 (j - 426) else if j < 426 then m 2 (j + 142) else m 2 j) else (if 142 * kn ≤ j ∧ j < 142 * kn + 142 then m 0 (j - 142 * kn) else m 2 j) := by
  have e : (pX7_records m x kn).1 2 = if nI kn = 4 then pX7_copies (fun _ => pX7_records_L10 m x kn 426 0) (fun _ => pX7_records_L10 m x kn 426 2) 0 (142 * (kn - 1)) 142 568 0 else pX7_copies (fun _ => m 0) (fun _ => m 2) 0 (142 * kn) 142 568 0 := rec_2a
  rw [e]
  by_cases c : kn = 4
  · subst c
    rw [if_pos (show nI 4 = 4 from rfl), if_pos rfl, cp_at]
    rw [rec_L m x 4 426, sh_L m x 4 426 j]
    by_cases q : 426 ≤ j ∧ j < 568
    · rw [if_pos q, if_pos (show 142 * (4 - 1) ≤ j ∧ j < 142 * (4 - 1) + 142 by omega), show 0 + (j - 142 * (4 - 1)) = j - 426 by omega]
    · rw [if_neg q, if_neg (show ¬ (142 * (4 - 1) ≤ j ∧ j < 142 * (4 - 1) + 142) by omega)]
  · rw [if_neg (show ¬ nI kn = 4 from fun z => c (kn4 hk z)), if_neg c, cp_at]
    by_cases q : 142 * kn ≤ j ∧ j < 142 * kn + 142
    · rw [if_pos q, if_pos q, show 0 + (j - 142 * kn) = j - 142 * kn by omega]
    · rw [if_neg q, if_neg q]
theorem rec_3 (m : Nat → Nat → Int32) (x : Nat → Int32) {kn : Nat} (hk : kn ≤ 4) : (pX7_records m x kn).2 3 = nI (if kn = 4 then 4 else kn + 1) := by
  have e : (pX7_records m x kn).2 3 = if nI kn = 4 then (nI kn - (1 : Int32)) + (1 : Int32) else nI kn + (1 : Int32) := rec_3a
  rw [e]
  by_cases c : kn = 4
  · subst c
    rw [if_pos (show nI 4 = 4 from rfl), if_pos rfl]
    decide
  · rw [if_neg (show ¬ nI kn = 4 from fun z => c (kn4 hk z)), if_neg c, nI_1]
def RH (N : Nat) (h : Nat → (Nat → Nat → Int32) × (Nat → Int32)) (r : Nat) (v : Nat → Int32) (kn : Nat) (m2 : Nat → Int32) (x3 : Int32) : Prop := kn ≤ 4 ∧ v 1 = nI kn ∧ x3 = nI kn ∧ r < 4 ∧ ∀ j, j < kn → RC N (h ((j + r) % 4)).1 (h ((j + r) % 4)).2 (fun k => m2 (142 * (kn - 1 - j) + k))
theorem RH_push {N : Nat} {u : Nat → Nat → Int32} {w : Nat → Int32} {h : Nat → (Nat → Nat → Int32) × (Nat → Int32)} {r : Nat} {v : Nat → Int32} {kn : Nat} {m : Nat → Nat → Int32} {x : Nat → Int32} (hH : RH N h r v kn (m 2) (x 3)) (hR : RC N u w (m 0)) : RH N (va_up h ((r + 3) % 4) (u, w)) ((r + 3) % 4) (va_up v 1 (if 4 < ((v 1) + (1 : Int32)) then 4 else ((v 1) + (1 : Int32)))) (if kn = 4 then 4 else kn + 1) ((pX7_records m x kn).1 2) ((pX7_records m x kn).2 3) := by
  obtain ⟨h4, hv, hx, hr, hj⟩ := hH
  refine ⟨by split <;> omega, ?_, rec_3 m x h4, Nat.mod_lt _ (by decide), fun j hjn => ?_⟩
  · show (if 4 < ((v 1) + (1 : Int32)) then 4 else ((v 1) + (1 : Int32))) = _
    rw [hv, nI_1]
    by_cases c : kn = 4
    · subst c
      rw [if_pos rfl, if_pos (by decide)]
      rfl
    · rw [if_neg c, if_neg (show ¬ (4 : Int32) < nI (kn + 1) from nI_nlt (a := 4) (by omega) (by decide))]
  · by_cases j0 : j = 0
    · subst j0
      rw [show (0 + (r + 3) % 4) % 4 = (r + 3) % 4 by omega]
      have e : va_up h ((r + 3) % 4) (u, w) ((r + 3) % 4) = (u, w) := if_pos rfl
      rw [e]
      refine RC_cg hR (Nat.le_refl _) (fun k hk => ?_)
      show (pX7_records m x kn).1 2 _ = _
      rw [rec_2 m x h4]
      by_cases c : kn = 4
      · subst c
        rw [if_pos rfl, if_pos rfl, if_pos (show 426 ≤ 142 * (4 - 1 - 0) + k ∧ 142 * (4 - 1 - 0) + k < 568 by omega), show 142 * (4 - 1 - 0) + k - 426 = k by omega]
      · rw [if_neg c, if_neg c, show 142 * (kn + 1 - 1 - 0) + k = 142 * kn + k by rw [show kn + 1 - 1 - 0 = kn by omega], if_pos (show 142 * kn ≤ 142 * kn + k ∧ 142 * kn + k < 142 * kn + 142 by omega), show 142 * kn + k - 142 * kn = k by omega]
    · have hj2 : j < 4 := by
        have : (if kn = 4 then 4 else kn + 1) ≤ 4 := by split <;> omega
        omega
      have e : va_up h ((r + 3) % 4) (u, w) ((j + (r + 3) % 4) % 4) = h (((j - 1) + r) % 4) := by
        rw [va_up_ne _ _ (show (j + (r + 3) % 4) % 4 ≠ (r + 3) % 4 by omega), show (j + (r + 3) % 4) % 4 = ((j - 1) + r) % 4 by omega]
      rw [e]
      have hjk : j - 1 < kn := by
        by_cases c : kn = 4
        · omega
        · rw [if_neg c] at hjn
          omega
      refine RC_cg (hj (j - 1) hjk) (Nat.le_refl _) (fun k hk => ?_)
      show (pX7_records m x kn).1 2 _ = m 2 _
      rw [rec_2 m x h4]
      by_cases c : kn = 4
      · subst c
        rw [if_pos rfl, if_pos rfl, if_neg (show ¬ (426 ≤ 142 * (4 - 1 - j) + k ∧ 142 * (4 - 1 - j) + k < 568) by omega), if_pos (show 142 * (4 - 1 - j) + k < 426 by omega), show 142 * (4 - 1 - j) + k + 142 = 142 * (4 - 1 - (j - 1)) + k by omega]
      · rw [if_neg c] at hjn
        rw [if_neg c, if_neg c, show kn + 1 - 1 - j = kn - 1 - (j - 1) by omega, if_neg (show ¬ (142 * kn ≤ 142 * (kn - 1 - (j - 1)) + k ∧ 142 * (kn - 1 - (j - 1)) + k < 142 * kn + 142) by omega)]
/-! ===== the whole relation ===== -/
def RA (N : Nat) (rt : Nat → Int32) (sg : Nat → Nat → Int32) (pw : Nat → Int32) (u : Nat → Nat → Int32) (w : Nat → Int32) (h : Nat → (Nat → Nat → Int32) × (Nat → Int32)) (r : Nat) (v : Nat → Int32) (su : Nat → Nat → Int32) (sw : Nat → Int32) (m : Nat → Nat → Int32) (x : Nat → Int32) (kn n : Nat) : Prop :=
  RC N u w (m 0) ∧ RH N h r v kn (m 2) (x 3) ∧ (rt 3 = x 5 ∧ (¬ rt 3 = 0 → RC N su sw (m 3))) ∧ (n ≤ 60 ∧ pw 1 = nI n ∧ x 7 = nI n ∧ CH sg ∧ ∀ j, j < n → sg 0 j = m 4 j) ∧ (rt 8 = x 13 ∧ (¬ rt 8 = 0 → rt 9 = m 5 0 ∧ rt 10 = m 5 1 ∧ rt 11 = m 5 2))
section RAS
variable {N N' : Nat} {rt : Nat → Int32} {sg : Nat → Nat → Int32} {pw : Nat → Int32} {rd : Nat → Int32} {u : Nat → Nat → Int32} {w : Nat → Int32} {h : Nat → (Nat → Nat → Int32) × (Nat → Int32)} {r : Nat} {v : Nat → Int32} {tu : Nat → Nat → Int32} {tw : Nat → Int32} {su : Nat → Nat → Int32} {sw : Nat → Int32} {g : Nat → Nat → Int32} {m : Nat → Nat → Int32} {x : Nat → Int32} {kn n : Nat}
theorem RH_mono (H : RH N h r v kn (m 2) (x 3)) (hN : N ≤ N') : RH N' h r v kn (m 2) (x 3) := by
  obtain ⟨a, b, c, d, e⟩ := H
  exact ⟨a, b, c, d, fun j hj => RC_cg (e j hj) hN (fun _ _ => rfl)⟩
theorem RA_mono (H : RA N rt sg pw u w h r v su sw m x kn n) (hN : N ≤ N') : RA N' rt sg pw u w h r v su sw m x kn n := by
  obtain ⟨a, b, ⟨c1, c2⟩, d, e⟩ := H
  exact ⟨RC_cg a hN (fun _ _ => rfl), RH_mono b hN, ⟨c1, fun z => RC_cg (c2 z) hN (fun _ _ => rfl)⟩, d, e⟩
/-- a change: the state before it is kept, then the cities change -/
theorem RA_push (H : RA N rt sg pw u w h r v su sw m x kn n) {u' : Nat → Nat → Int32} {w' : Nat → Int32} {m' : Nat → Nat → Int32} {x' : Nat → Int32} (hN : N ≤ N') (hR : RC N' u' w' (m' 0)) (hm : ∀ k, k ≠ 0 → m' k = (pX7_records m x kn).1 k) (hx : x' = (pX7_records m x kn).2) : RA N' rt sg pw u' w' (va_up h ((r + 3) % 4) (u, w)) ((r + 3) % 4) (va_up v 1 (if 4 < ((v 1) + (1 : Int32)) then 4 else ((v 1) + (1 : Int32)))) su sw m' x' (if kn = 4 then 4 else kn + 1) n := by
  obtain ⟨a, b, ⟨c1, c2⟩, ⟨d1, d2, d3, d4, d5⟩, e1, e2⟩ := H
  subst hx
  have w5 := rec_w m x kn (k := 5) (by decide)
  have w7 := rec_w m x kn (k := 7) (by decide)
  have w13 := rec_w m x kn (k := 13) (by decide)
  have m3 : m' 3 = m 3 := (hm 3 (by decide)).trans (rec_u m x kn (k := 3) (by decide))
  have m4 : m' 4 = m 4 := (hm 4 (by decide)).trans (rec_u m x kn (k := 4) (by decide))
  have m5 : m' 5 = m 5 := (hm 5 (by decide)).trans (rec_u m x kn (k := 5) (by decide))
  refine ⟨hR, ?_, ⟨by rw [w5]; exact c1, fun z => by rw [m3]; exact RC_cg (c2 z) hN (fun _ _ => rfl)⟩, ⟨d1, d2, by rw [w7]; exact d3, d4, fun j hj => by rw [m4]; exact d5 j hj⟩, by rw [w13]; exact e1, fun z => by rw [m5]; exact e2 z⟩
  have p := RH_push b a (x := x)
  obtain ⟨p1, p2, p3, p4, p5⟩ := p
  exact ⟨p1, p2, p3, p4, fun j hj => RC_cg (p5 j hj) hN (fun k hk => by rw [hm 2 (by decide)])⟩
theorem RA_rec (H : RA N rt sg pw u w h r v su sw m x kn n) : RC N u w ((pX7_records m x kn).1 0) := by
  rw [rec_u0]
  exact H.1
theorem wi_gang {a : Int32} (c : ¬ pX4_isGangway a = 0) : ∃ k, k < 28 ∧ a = nI k := vp_in_of (ig_in c) (by decide)
theorem wi_own {a : Int32} (c : ¬ pX6_isOwner a = 0) : ∃ k, k < 4 ∧ a = nI k := vp_in_of (io_in c) (by decide)
theorem wi_roof {a : Int32} (c : ¬ pX6_isRoof a = 0) : ∃ k, k < 16 ∧ a = nI k := vp_in_of (ir_in c) (by decide)
theorem wi_n {a b : Int32} {M : Nat} (hb : b = nI M) (hM : M < 100000) (c : ¬ pX6_isWithin a 0 b = 0) : ∃ k, k ≤ M ∧ a = nI k := by
  subst hb
  obtain ⟨k, hk, e⟩ := vp_in_of (wi_in (N := M + 1) rfl (by rw [nI_toInt (by omega)]; omega) c) (by omega)
  exact ⟨k, by omega, e⟩
theorem RC_12 {s : Nat → Int32} (h : RC N u w s) {d : Nat} (hd : d < 4) : RC N u (va_up w 12 (nI d)) (upd s 2 (nI d)) := by
  refine RC_sc h rfl (fun j hj => pk_un (by omega)) ?_
  obtain ⟨h9, h10, a, b, c, d2, h13, h14, h15, h16, h17, h18, t⟩ := h.2.2
  exact ⟨h9, h10, a, b, c, ⟨d, hd, rfl, rfl⟩, h13, h14, h15, h16, h17, h18, t⟩
theorem RC_9 {s : Nat → Int32} (h : RC N u w s) {k : Nat} (hk : k < 16) : RC N u (va_up w 9 (w 9 ^^^ ((1 : Int32) <<< (nI k &&& 31)))) (upd s 8 (s 8 ^^^ ((1 : Int32) <<< (nI k &&& 31)))) := by
  refine RC_sc h rfl (fun j hj => pk_un (by omega)) ?_
  obtain ⟨h9, h10, a, b, c, d2, h13, h14, h15, h16, h17, h18, t⟩ := h.2.2
  refine ⟨?_, h10, ?_, b, c, d2, h13, h14, h15, h16, h17, h18, t⟩
  · show w 9 ^^^ _ = s 8 ^^^ _
    rw [h9]
  · exact M16_xor a (M16_shl hk)
theorem RC_10 {s : Nat → Int32} (h : RC N u w s) {k : Nat} (hk : k < 16) : RC N u (va_up w 10 (w 10 ^^^ ((1 : Int32) <<< (nI k &&& 31)))) (upd s 9 (s 9 ^^^ ((1 : Int32) <<< (nI k &&& 31)))) := by
  refine RC_sc h rfl (fun j hj => pk_un (by omega)) ?_
  obtain ⟨h9, h10, a, b, c, d2, h13, h14, h15, h16, h17, h18, t⟩ := h.2.2
  refine ⟨h9, ?_, a, ?_, c, d2, h13, h14, h15, h16, h17, h18, t⟩
  · show w 10 ^^^ _ = s 9 ^^^ _
    rw [h10]
  · exact M16_xor b (M16_shl hk)
theorem w_chimney (H : RC N u w (m 0)) {k : Nat} (hk : k < 16) : RC N (pX0_toggleChimney u w (nI k)).1 (pX0_toggleChimney u w (nI k)).2 ((pX7_goChimney m x (nI k)).2.1 0) ∧ (pX7_goChimney m x (nI k)).2.2 = x ∧ (pX7_goChimney m x (nI k)).1 = pX7_ones (pX7_smoke (pX7_goChimney m x (nI k)).2.1 x) := ⟨RC_9 H hk, rfl, rfl⟩
theorem e_onesSmoke (H : RC N u w (m 0)) : pJ6_bitCount_0f7a4 (pX0_smokeBlown u w (w 11)) = pX7_ones (pX7_smoke m x) := by
  rw [← e_smokeNow (v := x) H]
  exact ones_eq (smokeNow16 H)
/-! ===== the calls that change the city ===== -/
theorem q_wind (H : RA N rt sg pw u w h r v su sw m x kn n) (a : Int32) : (pX6_wind rt sg pw rd u w h r v tu tw su sw g a).1 = (pX7_wind m x a kn).1 ∧ ∃ kn', RA N rt sg pw (pX6_wind rt sg pw rd u w h r v tu tw su sw g a).2.2.2.2.1 (pX6_wind rt sg pw rd u w h r v tu tw su sw g a).2.2.2.2.2 (pX6_wind rt sg pw rd u w h r v tu tw su sw g a).2.1 (pX6_wind rt sg pw rd u w h r v tu tw su sw g a).2.2.1 (pX6_wind rt sg pw rd u w h r v tu tw su sw g a).2.2.2.1 su sw (pX7_wind m x a kn).2.1 (pX7_wind m x a kn).2.2 kn' n := by
  unfold pX6_wind pX7_wind
  rw [in_eq]
  by_cases c : pX6_isWithin a 0 3 = 0
  · rw [if_pos c, if_pos c]
    exact ⟨rfl, kn, H⟩
  · rw [if_neg c, if_neg c]
    obtain ⟨d, hd, rfl⟩ := wi_n (b := 3) (M := 3) rfl (by decide) c
    have hr := RA_rec H
    obtain ⟨-, -, -, -, ⟨e, he, h11, h1⟩, -⟩ := hr.2.2
    refine ⟨by dsimp only; rw [h11, h1], _, RA_push H (Nat.le_refl _) (RC_11 hr (by omega)) (fun k hk => va_up_ne _ _ hk) rfl⟩
theorem q_reach (H : RA N rt sg pw u w h r v su sw m x kn n) (a : Int32) : (pX6_reach rt sg pw rd u w h r v tu tw su sw g a).1 = (pX7_reach m x a kn).1 ∧ ∃ kn', RA N rt sg pw (pX6_reach rt sg pw rd u w h r v tu tw su sw g a).2.2.2.2.1 (pX6_reach rt sg pw rd u w h r v tu tw su sw g a).2.2.2.2.2 (pX6_reach rt sg pw rd u w h r v tu tw su sw g a).2.1 (pX6_reach rt sg pw rd u w h r v tu tw su sw g a).2.2.1 (pX6_reach rt sg pw rd u w h r v tu tw su sw g a).2.2.2.1 su sw (pX7_reach m x a kn).2.1 (pX7_reach m x a kn).2.2 kn' n := by
  unfold pX6_reach pX7_reach
  rw [in_eq]
  by_cases c : pX6_isWithin a 0 3 = 0
  · rw [if_pos c, if_pos c]
    exact ⟨rfl, kn, H⟩
  · rw [if_neg c, if_neg c]
    obtain ⟨d, hd, rfl⟩ := wi_n (b := 3) (M := 3) rfl (by decide) c
    have hr := RA_rec H
    obtain ⟨-, -, -, -, -, ⟨e, he, h12, h2⟩, -⟩ := hr.2.2
    refine ⟨by dsimp only; rw [h12, h2], _, RA_push H (Nat.le_refl _) (RC_12 hr (by omega)) (fun k hk => va_up_ne _ _ hk) rfl⟩
theorem q_chimney (H : RA N rt sg pw u w h r v su sw m x kn n) (a : Int32) : (pX6_chimney rt sg pw rd u w h r v tu tw su sw g a).1 = (pX7_chimney m x a kn).1 ∧ ∃ kn', RA N rt sg pw (pX6_chimney rt sg pw rd u w h r v tu tw su sw g a).2.2.2.2.1 (pX6_chimney rt sg pw rd u w h r v tu tw su sw g a).2.2.2.2.2 (pX6_chimney rt sg pw rd u w h r v tu tw su sw g a).2.1 (pX6_chimney rt sg pw rd u w h r v tu tw su sw g a).2.2.1 (pX6_chimney rt sg pw rd u w h r v tu tw su sw g a).2.2.2.1 su sw (pX7_chimney m x a kn).2.1 (pX7_chimney m x a kn).2.2 kn' n := by
  unfold pX6_chimney pX7_chimney
  by_cases c : pX6_isRoof a = 0
  · rw [if_pos c, if_pos (show pX7_isRoof a = 0 from c)]
    exact ⟨rfl, kn, H⟩
  · rw [if_neg c, if_neg (show ¬ pX7_isRoof a = 0 from c)]
    obtain ⟨k, hk, rfl⟩ := wi_roof c
    obtain ⟨q1, q2, q3⟩ := w_chimney (x := (pX7_records m x kn).2) (RA_rec H) hk
    refine ⟨?_, _, RA_push H (Nat.le_refl _) q1 (fun k hk => (K0_chim _ _ _).2 k hk) q2⟩
    dsimp only
    rw [q3]
    exact e_onesSmoke q1
theorem q_coop (H : RA N rt sg pw u w h r v su sw m x kn n) (a : Int32) : (pX6_coop rt sg pw rd u w h r v tu tw su sw g a).1 = (pX7_coop m x a kn).1 ∧ ∃ kn', RA N rt sg pw (pX6_coop rt sg pw rd u w h r v tu tw su sw g a).2.2.2.2.1 (pX6_coop rt sg pw rd u w h r v tu tw su sw g a).2.2.2.2.2 (pX6_coop rt sg pw rd u w h r v tu tw su sw g a).2.1 (pX6_coop rt sg pw rd u w h r v tu tw su sw g a).2.2.1 (pX6_coop rt sg pw rd u w h r v tu tw su sw g a).2.2.2.1 su sw (pX7_coop m x a kn).2.1 (pX7_coop m x a kn).2.2 kn' n := by
  unfold pX6_coop pX7_coop
  by_cases c : pX6_isRoof a = 0
  · rw [if_pos c, if_pos (show pX7_isRoof a = 0 from c)]
    exact ⟨rfl, kn, H⟩
  · rw [if_neg c, if_neg (show ¬ pX7_isRoof a = 0 from c)]
    obtain ⟨k, hk, rfl⟩ := wi_roof c
    have q1 := RC_10 (RA_rec H) hk
    refine ⟨?_, _, RA_push H (Nat.le_refl _) q1 (fun k hk => va_up_ne _ _ hk) rfl⟩
    obtain ⟨-, h10, -, h16, -⟩ := (RA_rec H).2.2
    dsimp only
    rw [pk_us, h10]
    exact ones_eq (M16_xor h16 (M16_shl hk))
theorem q_hang (H : RA N rt sg pw u w h r v su sw m x kn n) (a b : Int32) : (pX6_hang rt sg pw rd u w h r v tu tw su sw g a b).1 = (pX7_hang m x a b kn).1 ∧ ∃ kn', RA N rt sg pw (pX6_hang rt sg pw rd u w h r v tu tw su sw g a b).2.2.2.2.1 (pX6_hang rt sg pw rd u w h r v tu tw su sw g a b).2.2.2.2.2 (pX6_hang rt sg pw rd u w h r v tu tw su sw g a b).2.1 (pX6_hang rt sg pw rd u w h r v tu tw su sw g a b).2.2.1 (pX6_hang rt sg pw rd u w h r v tu tw su sw g a b).2.2.2.1 su sw (pX7_hang m x a b kn).2.1 (pX7_hang m x a b kn).2.2 kn' n := by
  unfold pX6_hang pX7_hang
  rw [← isG_eq b]
  by_cases c : pX6_isOwner a = 0
  · rw [if_pos c, if_pos (show pX7_isOwner a = 0 from c)]
    exact ⟨rfl, kn, H⟩
  · rw [if_neg c, if_neg (show ¬ pX7_isOwner a = 0 from c)]
    by_cases c2 : pX4_isGangway b = 0
    · rw [if_pos c2, if_pos c2]
      exact ⟨rfl, kn, H⟩
    · rw [if_neg c2, if_neg c2]
      obtain ⟨o, ho, rfl⟩ := wi_own c
      obtain ⟨k, hk, rfl⟩ := wi_gang c2
      obtain ⟨q1, q2, -⟩ := w_hang (v := (pX7_records m x kn).2) (RA_rec H) ho hk
      have k0 := K0_hang (pX7_records m x kn).1 (pX7_records m x kn).2 (nI o) (nI k)
      exact ⟨q1, _, RA_push H (Nat.le_refl _) q2 k0.2 k0.1⟩
theorem q_take (H : RA N rt sg pw u w h r v su sw m x kn n) (hN : N < 100000000) (a b : Int32) : (pX6_take rt sg pw rd u w h r v tu tw su sw g a b).1 = (pX7_take m x a b kn).1 ∧ ∃ kn', RA N rt sg pw (pX6_take rt sg pw rd u w h r v tu tw su sw g a b).2.2.2.2.1 (pX6_take rt sg pw rd u w h r v tu tw su sw g a b).2.2.2.2.2 (pX6_take rt sg pw rd u w h r v tu tw su sw g a b).2.1 (pX6_take rt sg pw rd u w h r v tu tw su sw g a b).2.2.1 (pX6_take rt sg pw rd u w h r v tu tw su sw g a b).2.2.2.1 su sw (pX7_take m x a b kn).2.1 (pX7_take m x a b kn).2.2 kn' n := by
  unfold pX6_take pX7_take
  rw [← isG_eq b]
  by_cases c : pX6_isOwner a = 0
  · rw [if_pos c, if_pos (show pX7_isOwner a = 0 from c)]
    exact ⟨rfl, kn, H⟩
  · rw [if_neg c, if_neg (show ¬ pX7_isOwner a = 0 from c)]
    by_cases c2 : pX4_isGangway b = 0
    · rw [if_pos c2, if_pos c2]
      exact ⟨rfl, kn, H⟩
    · rw [if_neg c2, if_neg c2]
      obtain ⟨o, ho, rfl⟩ := wi_own c
      obtain ⟨k, hk, rfl⟩ := wi_gang c2
      obtain ⟨q1, q2, -⟩ := w_take (v := (pX7_records m x kn).2) (RA_rec H) hN ho hk
      have k0 := K0_take (pX7_records m x kn).1 (pX7_records m x kn).2 (nI o) (nI k)
      exact ⟨q1, _, RA_push H (Nat.le_refl _) q2 k0.2 k0.1⟩
theorem e_stands (H : RC N u w (m 0)) {o k : Nat} (ho : o < 4) (hk : k < 28) (hg : ¬ pX4_isGangway (nI k) = 0) : pX0_standsAt u w (nI o) (nI k) = 0 ↔ pX7_isOfRoof (nI k) (pX7_ofOwner m x (nI o) 3) = 0 := by
  obtain ⟨-, -, -, ⟨p, hp, e6, f6⟩, -⟩ := H.2.1 o ho
  unfold pX0_standsAt
  rw [nI_clamp (show o < 2 ^ 31 by omega), e6, show pX7_ofOwner m x (nI o) 3 = nI p from (ow_k (j := 3) m x ho (by decide)).trans f6, N_ofRoof k hk p hp]
  exact ⟨fun z => Or.inr z, fun z => z.resolve_left hg⟩
theorem q_walk (H : RA N rt sg pw u w h r v su sw m x kn n) (a b : Int32) : (pX6_walk rt sg pw rd u w h r v tu tw su sw g a b).1 = (pX7_walk m x a b kn).1 ∧ ∃ kn', RA N rt sg pw (pX6_walk rt sg pw rd u w h r v tu tw su sw g a b).2.2.2.2.1 (pX6_walk rt sg pw rd u w h r v tu tw su sw g a b).2.2.2.2.2 (pX6_walk rt sg pw rd u w h r v tu tw su sw g a b).2.1 (pX6_walk rt sg pw rd u w h r v tu tw su sw g a b).2.2.1 (pX6_walk rt sg pw rd u w h r v tu tw su sw g a b).2.2.2.1 su sw (pX7_walk m x a b kn).2.1 (pX7_walk m x a b kn).2.2 kn' n := by
  unfold pX6_walk pX7_walk
  rw [← isG_eq b]
  by_cases c : pX6_isOwner a = 0
  · rw [if_pos c, if_pos (show pX7_isOwner a = 0 from c)]
    exact ⟨rfl, kn, H⟩
  · rw [if_neg c, if_neg (show ¬ pX7_isOwner a = 0 from c)]
    by_cases c2 : pX4_isGangway b = 0
    · rw [if_pos c2, if_pos c2]
      exact ⟨rfl, kn, H⟩
    · rw [if_neg c2, if_neg c2]
      obtain ⟨o, ho, rfl⟩ := wi_own c
      obtain ⟨k, hk, rfl⟩ := wi_gang c2
      have es := e_stands (x := x) H.1 ho hk c2
      by_cases c3 : pX0_standsAt u w (nI o) (nI k) = 0
      · rw [if_pos c3, if_pos (es.mp c3)]
        exact ⟨rfl, kn, H⟩
      · rw [if_neg c3, if_neg (fun z => c3 (es.mpr z))]
        obtain ⟨q1, q2, -⟩ := w_walk (v := (pX7_records m x kn).2) (RA_rec H) ho hk
        have k0 := K0_walk (pX7_records m x kn).1 (pX7_records m x kn).2 (nI o) (nI k)
        exact ⟨q1, _, RA_push H (Nat.le_refl _) q2 k0.2 k0.1⟩
theorem q_day (H : RA N rt sg pw u w h r v su sw m x kn n) (hN : N < 900000) : (pX6_day rt sg pw rd u w h r v tu tw su sw g).1 = (pX7_day m x kn).1 ∧ ∃ kn', RA (N + 2) rt sg pw (pX6_day rt sg pw rd u w h r v tu tw su sw g).2.2.2.2.1 (pX6_day rt sg pw rd u w h r v tu tw su sw g).2.2.2.2.2 (pX6_day rt sg pw rd u w h r v tu tw su sw g).2.1 (pX6_day rt sg pw rd u w h r v tu tw su sw g).2.2.1 (pX6_day rt sg pw rd u w h r v tu tw su sw g).2.2.2.1 su sw (pX7_day m x kn).2.1 (pX7_day m x kn).2.2 kn' n := by
  unfold pX6_day pX7_day
  obtain ⟨q1, q2, q3⟩ := w_day (v := (pX7_records m x kn).2) (RA_rec H) (by omega)
  have k0 := K0_day (pX7_records m x kn).1 (pX7_records m x kn).2
  generalize pX7_goDay (pX7_records m x kn).1 (pX7_records m x kn).2 = z at q1 q2 q3 k0 ⊢
  generalize pX0_passDay u w = y at q1 ⊢
  refine ⟨?_, _, RA_push H (by omega) q1 k0.2 q3⟩
  dsimp only
  rw [q2]
  exact e_clean q1 (by omega)
end RAS
