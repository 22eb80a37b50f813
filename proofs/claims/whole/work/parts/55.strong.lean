/-! ===== the strongest way, told in two ways ===== -/
section ST
variable {N : Nat} {u : Nat → Nat → Int32} {w : Nat → Int32} {m : Nat → Nat → Int32} {v : Nat → Int32} {r : Nat} {G : Nat → Nat → Int32}
def bN (s : Nat → Int32) (g : Nat) : Nat := (s (30 + 4 * g)).toNatClampNeg
theorem bN_eq {s : Nat → Int32} {g : Nat} (h : RC N u w s) (hg : g < 28) : s (30 + 4 * g) = nI (bN s g) ∧ bN s g ≤ 9 ∧ u 0 g = nI (bN s g) := by
  obtain ⟨b, l, a, c, h1, h2, h3, -⟩ := h.1 g hg
  have : bN s g = b := by unfold bN; rw [h2, nI_clamp (by omega)]
  rw [this]
  exact ⟨h2, h3, h1⟩
theorem EE_iff {s : Nat → Int32} {g t : Nat} (h : RC N u w s) (hg : g < 28) (ht : t < 1000) : EE s t g ↔ ¬ pX7_isGangway (nI g) = 0 ∧ t ≤ bN s g := by
  obtain ⟨e, h9, -⟩ := bN_eq h hg
  unfold EE
  rw [e, nI_leI (by omega) (by omega)]
/-! joining -/
theorem ren_at (x y : Int32) (hxy : True) : ∀ r, r < 16 → pX5_rename G x y 0 r = if G 0 r = x then y else G 0 r := by
  have key : ∀ n, n ≤ 16 → ∀ r, pX5_rename_L2 G x y n 0 r = if r < n then (if G 0 r = x then y else G 0 r) else G 0 r := by
    intro n
    induction n with
    | zero => intro _ r; rw [pX5_rename_L2_0, if_neg (Nat.not_lt_zero r)]
    | succ n ih =>
      intro hn r
      have ih := ih (by omega)
      rw [pX5_rename_L2_s]
      have en : pX5_rename_L2 G x y n 0 n = G 0 n := by rw [ih n, if_neg (Nat.lt_irrefl n)]
      rw [en]
      by_cases c : G 0 n = x
      · rw [if_pos c]
        show upd (pX5_rename_L2 G x y n 0) n y r = _
        by_cases e : r = n
        · subst e
          rw [pk_us, if_pos (Nat.lt_succ_self r), if_pos c]
        · rw [pk_un e, ih r]
          by_cases q : r < n
          · rw [if_pos q, if_pos (show r < n + 1 by omega)]
          · rw [if_neg q, if_neg (show ¬ r < n + 1 by omega)]
      · rw [if_neg c, ih r]
        by_cases e : r = n
        · subst e
          rw [if_neg (Nat.lt_irrefl r), if_pos (Nat.lt_succ_self r), if_neg c]
        · by_cases q : r < n
          · rw [if_pos q, if_pos (show r < n + 1 by omega)]
          · rw [if_neg q, if_neg (show ¬ r < n + 1 by omega)]
  intro r hr
  have := key 16 (Nat.le_refl _) r
  rw [if_pos hr] at this
  exact this
def JS (E : Nat → Prop) (G : Nat → Nat → Int32) : Prop := ∀ a b, a < 16 → b < 16 → G 0 a = G 0 b → RR E a b
def JC (E : Nat → Prop) (G : Nat → Nat → Int32) : Prop := ∀ g, g < 28 → E g → G 0 (lsN g) = G 0 (grN g)
theorem ren_JS {E : Nat → Prop} {g : Nat} (hg : g < 28) (he : E g) (hl : lsN g < 16) (hr : grN g < 16) (h : JS E G) : JS E (pX5_rename G (G 0 (grN g)) (G 0 (lsN g))) := by
  intro a b ha hb e
  rw [ren_at _ _ trivial a ha, ren_at _ _ trivial b hb] at e
  by_cases ca : G 0 a = G 0 (grN g)
  · have ra := h a _ ha hr ca
    by_cases cb : G 0 b = G 0 (grN g)
    · exact RR_tr ra (RR_sy (h b _ hb hr cb))
    · rw [if_pos ca, if_neg cb] at e
      exact RR_tr ra (RR_tr (RR_e2 hg he) (h _ b hl hb e))
  · by_cases cb : G 0 b = G 0 (grN g)
    · have rb := h b _ hb hr cb
      rw [if_neg ca, if_pos cb] at e
      exact RR_tr (h a _ ha hl e) (RR_tr (RR_e1 hg he) (RR_sy rb))
    · rw [if_neg ca, if_neg cb] at e
      exact h a b ha hb e
theorem ren_keep {x y : Int32} {a b : Nat} (ha : a < 16) (hb : b < 16) (e : G 0 a = G 0 b) : pX5_rename G x y 0 a = pX5_rename G x y 0 b := by
  rw [ren_at _ _ trivial a ha, ren_at _ _ trivial b hb, e]
theorem join_at {t : Nat} (h : RC N u w (m 0)) (ht : t < 100) (h1 : JS (EE (m 0) (t + 1)) G) (h2 : JC (EE (m 0) (t + 1)) G) : JS (EE (m 0) t) (pX5_joinOver G u w (nI t)) ∧ JC (EE (m 0) t) (pX5_joinOver G u w (nI t)) := by
  have key : ∀ n, n ≤ 28 → JS (EE (m 0) t) (pX5_joinOver_L2 G u w (nI t) n) ∧ ∀ g, g < 28 → (EE (m 0) (t + 1) g ∨ (g < n ∧ EE (m 0) t g)) → pX5_joinOver_L2 G u w (nI t) n 0 (lsN g) = pX5_joinOver_L2 G u w (nI t) n 0 (grN g) := by
    intro n
    induction n with
    | zero =>
      intro _
      refine ⟨fun a b ha hb e => RR_mono (h1 a b ha hb e) (fun g hg he => ?_), fun g hg he => ?_⟩
      · have := (EE_iff h hg (by omega)).mp he
        exact (EE_iff h hg (by omega)).mpr ⟨this.1, by omega⟩
      · rcases he with he | he
        · exact h2 g hg he
        · exact absurd he.1 (Nat.not_lt_zero g)
    | succ n ih =>
      intro hn
      have hk : n < 28 := by omega
      obtain ⟨a1, a2⟩ := ih (by omega)
      obtain ⟨b1, b2, b3⟩ := bN_eq h hk
      have gE : ∀ g, g < n + 1 → ¬ g < n → g = n := fun g q1 q2 => by omega
      rw [pX5_joinOver_L2_s]
      generalize pX5_joinOver_L2 G u w (nI t) n = X at a1 a2 ⊢
      rw [isG_eq]
      by_cases c : pX7_isGangway (nI n) = 0
      · rw [if_pos c]
        refine ⟨a1, fun g hg he => a2 g hg ?_⟩
        rcases he with he | ⟨q, he⟩
        · exact Or.inl he
        · by_cases q2 : g < n
          · exact Or.inr ⟨q2, he⟩
          · have := gE g q q2
            subst this
            exact absurd c he.1
      · rw [if_neg c, b3]
        by_cases c2 : nI (bN (m 0) n) = nI t
        · rw [if_pos c2]
          have eb : bN (m 0) n = t := (nI_eq (by omega) (by omega)).mp c2
          have he : EE (m 0) t n := (EE_iff h hk (by omega)).mpr ⟨c, by omega⟩
          obtain ⟨l16, r16⟩ := N_ls16 n hk c
          obtain ⟨e1, e2, -⟩ := N_ls n hk
          rw [e1, e2, nI_clamp (by omega), nI_clamp (by omega)]
          refine ⟨ren_JS hk he l16 r16 a1, fun g hg hh => ?_⟩
          by_cases q : g = n
          · subst q
            rw [ren_at _ _ trivial _ l16, ren_at _ _ trivial _ r16, if_pos rfl]
            split <;> rfl
          · have hq : EE (m 0) (t + 1) g ∨ (g < n ∧ EE (m 0) t g) := by
              rcases hh with hh | ⟨q1, hh⟩
              · exact Or.inl hh
              · exact Or.inr ⟨by omega, hh⟩
            have hG : ¬ pX7_isGangway (nI g) = 0 := by
              rcases hq with z | ⟨_, z⟩
              · exact z.1
              · exact z.1
            obtain ⟨gl, gr⟩ := N_ls16 g hg hG
            exact ren_keep gl gr (a2 g hg hq)
        · rw [if_neg c2]
          refine ⟨a1, fun g hg he => a2 g hg ?_⟩
          rcases he with he | ⟨q, he⟩
          · exact Or.inl he
          · by_cases q2 : g < n
            · exact Or.inr ⟨q2, he⟩
            · have := gE g q q2
              subst this
              obtain ⟨f1, f2⟩ := (EE_iff h hk (by omega)).mp he
              have : bN (m 0) g ≠ t := fun z => c2 (by rw [z])
              exact Or.inl ((EE_iff h hk (by omega)).mpr ⟨f1, by omega⟩)
  obtain ⟨k1, k2⟩ := key 28 (Nat.le_refl _)
  exact ⟨k1, fun g hg he => k2 g hg (Or.inr ⟨hg, he⟩)⟩
theorem J_iff {E : Nat → Prop} {a b : Nat} (h : JS E G ∧ JC E G) (ha : a < 16) (hb : b < 16) : G 0 a = G 0 b ↔ RR E a b :=
  ⟨h.1 a b ha hb, fun hr => hr (fun z => G 0 a = G 0 z) rfl (fun g hg he => by rw [h.2 g hg he])⟩
theorem come_in {a b t : Nat} (ha : a < 16) (hb : b < 16) : ¬ pX7_isIn (pX7_comeTo m v (nI a) (nI t)) (nI b) = 0 ↔ RR (EE (m 0) t) a b := by
  rw [N_isIn, isIn_0 _ (by omega), ← comeTo_bt (v := v) ha b]
  exact bf
theorem join_id (a2 a3 : Int32) : ∀ r, r < 16 → pX5_strongestByJoining_L11 G u w a2 a3 16 0 r = nI r := by
  have key : ∀ n, ∀ r, r < n → pX5_strongestByJoining_L11 G u w a2 a3 n 0 r = nI r := by
    intro n
    induction n with
    | zero => intro r h; omega
    | succ n ih =>
      intro r h
      rw [pX5_strongestByJoining_L11_s]
      show upd (pX5_strongestByJoining_L11 G u w a2 a3 n 0) n (nI n) r = _
      by_cases e : r = n
      · subst e
        exact pk_us
      · rw [pk_un e]
        exact ih r (by omega)
  exact key 16
theorem pif {c c' : Prop} [Decidable c] [Decidable c'] {n n' y : Int32} {g : Nat → Nat → Int32} {X : Int32 × (Nat → Nat → Int32)} (h : ¬ c' ↔ c) (hn : n = n') (hx : X.1 = y) : (if c then (n, g) else X).1 = (if c' then y else n') := by
  subst hn
  by_cases q : c'
  · rw [if_pos q, if_neg (fun z => (h.mpr z) q)]
    exact hx
  · rw [if_neg q, if_pos (h.mp q)]
theorem e_joining (h : RC N u w (m 0)) {a b : Nat} (ha : a < 16) (hb : b < 16) : (pX5_strongestByJoining G u w (nI a) (nI b)).1 = pX7_strengthOf m v (nI a) (nI b) := by
  unfold pX5_strongestByJoining pX7_strengthOf
  rw [nI_clamp (show a < 2 ^ 31 by omega), nI_clamp (show b < 2 ^ 31 by omega)]
  by_cases c : nI a = nI b
  · rw [if_pos c, if_pos c]
  · rw [if_neg c, if_neg c]
    have j10 : JS (EE (m 0) 10) (pX5_strongestByJoining_L11 G u w (nI a) (nI b) 16) ∧ JC (EE (m 0) 10) (pX5_strongestByJoining_L11 G u w (nI a) (nI b) 16) := by
      refine ⟨fun x y hx hy e => ?_, fun g hg he => ?_⟩
      · rw [join_id _ _ x hx, join_id _ _ y hy] at e
        rw [(nI_eq (by omega) (by omega)).mp e]
        exact RR_rf _ _
      · have := ((EE_iff h hg (by omega)).mp he).2
        have := (bN_eq h hg).2.1
        omega
    generalize pX5_strongestByJoining_L11 G u w (nI a) (nI b) 16 = G0 at j10 ⊢
    have j9 := join_at (t := 9) h (by omega) j10.1 j10.2
    rw [show nI 9 = 9 from rfl] at j9
    generalize pX5_joinOver G0 u w 9 = G9 at j9 ⊢
    have j8 := join_at (t := 8) h (by omega) j9.1 j9.2
    rw [show nI 8 = 8 from rfl] at j8
    generalize pX5_joinOver G9 u w 8 = G8 at j8 ⊢
    have j7 := join_at (t := 7) h (by omega) j8.1 j8.2
    rw [show nI 7 = 7 from rfl] at j7
    generalize pX5_joinOver G8 u w 7 = G7 at j7 ⊢
    have j6 := join_at (t := 6) h (by omega) j7.1 j7.2
    rw [show nI 6 = 6 from rfl] at j6
    generalize pX5_joinOver G7 u w 6 = G6 at j6 ⊢
    have j5 := join_at (t := 5) h (by omega) j6.1 j6.2
    rw [show nI 5 = 5 from rfl] at j5
    generalize pX5_joinOver G6 u w 5 = G5 at j5 ⊢
    have j4 := join_at (t := 4) h (by omega) j5.1 j5.2
    rw [show nI 4 = 4 from rfl] at j4
    generalize pX5_joinOver G5 u w 4 = G4 at j4 ⊢
    have j3 := join_at (t := 3) h (by omega) j4.1 j4.2
    rw [show nI 3 = 3 from rfl] at j3
    generalize pX5_joinOver G4 u w 3 = G3 at j3 ⊢
    have j2 := join_at (t := 2) h (by omega) j3.1 j3.2
    rw [show nI 2 = 2 from rfl] at j2
    generalize pX5_joinOver G3 u w 2 = G2 at j2 ⊢
    have j1 := join_at (t := 1) h (by omega) j2.1 j2.2
    rw [show nI 1 = 1 from rfl] at j1
    generalize pX5_joinOver G2 u w 1 = G1 at j1 ⊢
    rw [pX7_strengthOf_L6_s]
    refine pif ((come_in ha hb).trans (J_iff j9 ha hb).symm) rfl ?_
    rw [pX7_strengthOf_L6_s]
    refine pif ((come_in ha hb).trans (J_iff j8 ha hb).symm) rfl ?_
    rw [pX7_strengthOf_L6_s]
    refine pif ((come_in ha hb).trans (J_iff j7 ha hb).symm) rfl ?_
    rw [pX7_strengthOf_L6_s]
    refine pif ((come_in ha hb).trans (J_iff j6 ha hb).symm) rfl ?_
    rw [pX7_strengthOf_L6_s]
    refine pif ((come_in ha hb).trans (J_iff j5 ha hb).symm) rfl ?_
    rw [pX7_strengthOf_L6_s]
    refine pif ((come_in ha hb).trans (J_iff j4 ha hb).symm) rfl ?_
    rw [pX7_strengthOf_L6_s]
    refine pif ((come_in ha hb).trans (J_iff j3 ha hb).symm) rfl ?_
    rw [pX7_strengthOf_L6_s]
    refine pif ((come_in ha hb).trans (J_iff j2 ha hb).symm) rfl ?_
    rw [pX7_strengthOf_L6_s]
    refine pif ((come_in ha hb).trans (J_iff j1 ha hb).symm) rfl ?_
    rfl
/-! spreading -/
def SI (E : Nat → Nat → Prop) (r : Nat) (G : Nat → Nat → Int32) : Prop := G 1 r = nI 10 ∧ ∀ q, q < 16 → ∃ n, n ≤ 10 ∧ G 1 q = nI n ∧ (q ≠ r → n ≤ 9) ∧ ∀ t, 1 ≤ t → t ≤ n → t ≤ 9 → RR (E t) r q
def rz (G : Nat → Nat → Int32) (q : Nat) (x : Int32) : Int32 × (Nat → Nat → Int32) := pX5_raise G (nI q) x
theorem rz_eq {q : Nat} {x : Int32} (hq : q < 16) : rz G q x = if G 1 q < x then (1, va_up G 1 (upd (G 1) q x)) else (0, G) := by
  unfold rz pX5_raise
  rw [nI_clamp (by omega)]
theorem mn_nI {a b : Nat} (ha : a < 100) (hb : b < 100) : (if nI b < nI a then nI b else nI a) = nI (if b < a then b else a) := by
  by_cases c : b < a
  · rw [if_pos c, if_pos ((nI_ltI (by omega) (by omega)).mpr c)]
  · rw [if_neg c, if_neg (fun z => c ((nI_ltI (by omega) (by omega)).mp z))]
/-- raised along a gangway: what was told stays so; the new strength is there -/
theorem rz_SI {E : Nat → Nat → Prop} {p q b : Nat} (hp : p < 16) (hq : q < 16) (hb : b ≤ 9) (h : SI E r G) (hE : ∀ t, 1 ≤ t → t ≤ b → RR (E t) p q) : SI E r (rz G q (if nI b < G 1 p then nI b else G 1 p)).2 ∧ (∀ t z, z < 16 → nI t ≤ G 1 z → t < 100 → nI t ≤ (rz G q (if nI b < G 1 p then nI b else G 1 p)).2 1 z) ∧ (∀ t, t ≤ b → nI t ≤ G 1 p → nI t ≤ (rz G q (if nI b < G 1 p then nI b else G 1 p)).2 1 q) ∧ ((rz G q (if nI b < G 1 p then nI b else G 1 p)).1 = 0 → (rz G q (if nI b < G 1 p then nI b else G 1 p)).2 = G) := by
  obtain ⟨h0, h1⟩ := h
  obtain ⟨n, hn, e1, h9, hs⟩ := h1 p hp
  obtain ⟨k, hk, f1, k9, ks⟩ := h1 q hq
  rw [e1, mn_nI (by omega) (by omega), rz_eq hq, f1]
  generalize hz : (if b < n then b else n) = z
  have z1 : z ≤ b := by rw [← hz]; split <;> omega
  have z2 : z ≤ n := by rw [← hz]; split <;> omega
  have z3 : ∀ t, t ≤ b → t ≤ n → t ≤ z := fun t a1 a2 => by rw [← hz]; split <;> omega
  by_cases c : nI k < nI z
  · have ck := (nI_ltI (by omega) (by omega)).mp c
    have hqr : q ≠ r := fun e => by
      subst e
      rw [f1] at h0
      have := (nI_eq (by omega) (by omega)).mp h0
      omega
    rw [if_pos c]
    refine ⟨⟨?_, fun y hy => ?_⟩, fun t y hy ht ht2 => ?_, fun t ht ht2 => ?_, fun e => absurd e (show ¬ (1 : Int32) = 0 by decide)⟩
    · exact (pk_un (Ne.symm hqr)).trans h0
    · by_cases e : y = q
      · subst e
        exact ⟨z, by omega, pk_us, fun _ => by omega, fun t t1 t2 t9 => RR_tr (hs t t1 (by omega) t9) (hE t t1 (by omega))⟩
      · obtain ⟨y1, y2, y3, y4, y5⟩ := h1 y hy
        exact ⟨y1, y2, (pk_un e).trans y3, y4, y5⟩
    · by_cases e : y = q
      · subst e
        show nI t ≤ upd (G 1) y (nI z) y
        rw [pk_us]
        rw [f1] at ht
        have := (nI_leI (by omega) (by omega)).mp ht
        exact nI_le (by omega) (by omega)
      · show nI t ≤ upd (G 1) q (nI z) y
        rw [pk_un e]
        exact ht
    · show nI t ≤ upd (G 1) q (nI z) q
      rw [pk_us]
      have := (nI_leI (by omega) (by omega)).mp ht2
      exact nI_le (z3 t ht this) (by omega)
  · rw [if_neg c]
    refine ⟨⟨h0, h1⟩, fun t y hy ht ht2 => ht, fun t ht ht2 => ?_, fun _ => rfl⟩
    show nI t ≤ G 1 q
    rw [f1]
    have := (nI_leI (by omega) (by omega)).mp ht2
    have := z3 t ht this
    have : ¬ k < z := fun e => c (nI_lt e (by omega))
    exact nI_le (by omega) (by omega)
theorem sp_step {n : Nat} (hn : n < 28) (h : RC N u w (m 0)) : pX5_spread_L4 G u w (n + 1) = (if pX7_isGangway (nI n) = 0 then ((pX5_spread_L4 G u w n).1, (pX5_spread_L4 G u w n).2) else (if (pX5_spread_L4 G u w n).1 = 0 then (if (rz (pX5_spread_L4 G u w n).2 (grN n) (if nI (bN (m 0) n) < (pX5_spread_L4 G u w n).2 1 (lsN n) then nI (bN (m 0) n) else (pX5_spread_L4 G u w n).2 1 (lsN n))).1 = 0 then (if (rz (rz (pX5_spread_L4 G u w n).2 (grN n) (if nI (bN (m 0) n) < (pX5_spread_L4 G u w n).2 1 (lsN n) then nI (bN (m 0) n) else (pX5_spread_L4 G u w n).2 1 (lsN n))).2 (lsN n) (if nI (bN (m 0) n) < (rz (pX5_spread_L4 G u w n).2 (grN n) (if nI (bN (m 0) n) < (pX5_spread_L4 G u w n).2 1 (lsN n) then nI (bN (m 0) n) else (pX5_spread_L4 G u w n).2 1 (lsN n))).2 1 (grN n) then nI (bN (m 0) n) else (rz (pX5_spread_L4 G u w n).2 (grN n) (if nI (bN (m 0) n) < (pX5_spread_L4 G u w n).2 1 (lsN n) then nI (bN (m 0) n) else (pX5_spread_L4 G u w n).2 1 (lsN n))).2 1 (grN n))).1 = 0 then 0 else 1) else 1) else 1, (rz (rz (pX5_spread_L4 G u w n).2 (grN n) (if nI (bN (m 0) n) < (pX5_spread_L4 G u w n).2 1 (lsN n) then nI (bN (m 0) n) else (pX5_spread_L4 G u w n).2 1 (lsN n))).2 (lsN n) (if nI (bN (m 0) n) < (rz (pX5_spread_L4 G u w n).2 (grN n) (if nI (bN (m 0) n) < (pX5_spread_L4 G u w n).2 1 (lsN n) then nI (bN (m 0) n) else (pX5_spread_L4 G u w n).2 1 (lsN n))).2 1 (grN n) then nI (bN (m 0) n) else (rz (pX5_spread_L4 G u w n).2 (grN n) (if nI (bN (m 0) n) < (pX5_spread_L4 G u w n).2 1 (lsN n) then nI (bN (m 0) n) else (pX5_spread_L4 G u w n).2 1 (lsN n))).2 1 (grN n))).2)) := by
  obtain ⟨e1, e2, l32, r32⟩ := N_ls n hn
  obtain ⟨b1, b2, b3⟩ := bN_eq h hn
  rw [pX5_spread_L4_s, isG_eq, e1, e2, nI_clamp (show lsN n < 2 ^ 31 by omega), nI_clamp (show grN n < 2 ^ 31 by omega), b3]
  generalize pX5_spread_L4 G u w n = Z
  unfold rz
  generalize pX5_raise Z.2 (nI (grN n)) (if nI (bN (m 0) n) < Z.2 1 (lsN n) then nI (bN (m 0) n) else Z.2 1 (lsN n)) = Y
  generalize pX5_raise Y.2 (nI (lsN n)) (if nI (bN (m 0) n) < Y.2 1 (grN n) then nI (bN (m 0) n) else Y.2 1 (grN n)) = X
  by_cases c : pX7_isGangway (nI n) = 0
  · rw [if_pos c, if_pos c]
  · rw [if_neg c, if_neg c]
    by_cases c1 : Z.1 = 0
    · rw [if_pos c1, if_pos c1]
      by_cases c2 : Y.1 = 0
      · rw [if_pos c2, if_pos c2]
        by_cases c3 : X.1 = 0
        · rw [if_pos c3, if_pos c3]
        · rw [if_neg c3, if_neg c3]
      · rw [if_neg c2, if_neg c2]
    · rw [if_neg c1, if_neg c1]
/-- one gangway of a round of spreading -/
theorem sp_one {n : Nat} (hn : n < 28) (h : RC N u w (m 0)) (hs : SI (EE (m 0)) r (pX5_spread_L4 G u w n).2) : SI (EE (m 0)) r (pX5_spread_L4 G u w (n + 1)).2 ∧ (∀ t z, z < 16 → t < 100 → nI t ≤ (pX5_spread_L4 G u w n).2 1 z → nI t ≤ (pX5_spread_L4 G u w (n + 1)).2 1 z) ∧ (∀ t, t < 100 → EE (m 0) t n → (nI t ≤ (pX5_spread_L4 G u w n).2 1 (lsN n) ∨ nI t ≤ (pX5_spread_L4 G u w n).2 1 (grN n)) → nI t ≤ (pX5_spread_L4 G u w (n + 1)).2 1 (lsN n) ∧ nI t ≤ (pX5_spread_L4 G u w (n + 1)).2 1 (grN n)) ∧ ((pX5_spread_L4 G u w (n + 1)).1 = 0 → (pX5_spread_L4 G u w n).1 = 0 ∧ (pX5_spread_L4 G u w (n + 1)).2 = (pX5_spread_L4 G u w n).2) := by
  rw [sp_step hn h]
  generalize pX5_spread_L4 G u w n = Z at hs ⊢
  obtain ⟨Z1, Z2⟩ := Z
  by_cases c : pX7_isGangway (nI n) = 0
  · rw [if_pos c]
    exact ⟨hs, fun _ _ _ _ q => q, fun t _ he => absurd c he.1, fun q => ⟨q, rfl⟩⟩
  · rw [if_neg c]
    obtain ⟨l16, r16⟩ := N_ls16 n hn c
    obtain ⟨b1, b2, b3⟩ := bN_eq h hn
    have hE : ∀ t, t ≤ bN (m 0) n → EE (m 0) t n := fun t ht => (EE_iff h hn (by omega)).mpr ⟨c, ht⟩
    dsimp only at hs ⊢
    obtain ⟨s1, s2, s3, s4⟩ := rz_SI (p := lsN n) (q := grN n) (b := bN (m 0) n) l16 r16 b2 hs (fun t _ ht => RR_e1 hn (hE t ht))
    generalize rz Z2 (grN n) (if nI (bN (m 0) n) < Z2 1 (lsN n) then nI (bN (m 0) n) else Z2 1 (lsN n)) = Y at s1 s2 s3 s4 ⊢
    obtain ⟨t1, t2, t3, t4⟩ := rz_SI (p := grN n) (q := lsN n) (b := bN (m 0) n) r16 l16 b2 s1 (fun t _ ht => RR_e2 hn (hE t ht))
    generalize rz Y.2 (lsN n) (if nI (bN (m 0) n) < Y.2 1 (grN n) then nI (bN (m 0) n) else Y.2 1 (grN n)) = X at t1 t2 t3 t4 ⊢
    refine ⟨t1, fun t z hz ht q => t2 t z hz (s2 t z hz q ht) ht, fun t ht he q => ?_, fun q => ?_⟩
    · have hb : t ≤ bN (m 0) n := ((EE_iff h hn (by omega)).mp he).2
      have g1 : nI t ≤ Y.2 1 (grN n) := by
        rcases q with q | q
        · exact s3 t hb q
        · exact s2 t _ r16 q ht
      exact ⟨t3 t hb g1, t2 t _ r16 g1 ht⟩
    · by_cases c1 : Z1 = 0
      · rw [if_pos c1] at q
        by_cases c2 : Y.1 = 0
        · rw [if_pos c2] at q
          by_cases c3 : X.1 = 0
          · exact ⟨c1, (t4 c3).trans (s4 c2)⟩
          · rw [if_neg c3] at q
            exact absurd q (by decide)
        · rw [if_neg c2] at q
          exact absurd q (by decide)
      · rw [if_neg c1] at q
        exact absurd q (by decide)
theorem sp_SI (h : RC N u w (m 0)) (hs : SI (EE (m 0)) r G) : ∀ n, n ≤ 28 → SI (EE (m 0)) r (pX5_spread_L4 G u w n).2 := by
  intro n
  induction n with
  | zero => intro _; exact hs
  | succ n ih =>
    intro hn
    exact (sp_one (by omega) h (ih (by omega))).1
/-- what a pass of the model reaches is reached by a round of spreading -/
theorem sp_dom (h : RC N u w (m 0)) (hs : SI (EE (m 0)) r G) {t : Nat} (ht : t < 100) {x : Int32} (h16 : M16 x) (hd : ∀ k, k < 16 → bt x k = true → nI t ≤ G 1 k) : ∀ n, n ≤ 28 → ∀ k, k < 16 → bt (pX7_comeTo_L18 m v 0 (nI t) x 1 n) k = true → nI t ≤ (pX5_spread_L4 G u w n).2 1 k := by
  intro n
  induction n with
  | zero => intro _ k hk hb; exact hd k hk hb
  | succ n ih =>
    intro hn k hk hb
    have hg : n < 28 := by omega
    have ih := ih (by omega)
    obtain ⟨-, o2, o3, -⟩ := sp_one hg h (sp_SI h hs n (by omega))
    rcases ps_step (m := m) (v := v) (t := t) (a1 := 0) (x4 := 1) (x := x) (n := n) hg with ⟨e, _⟩ | ⟨he, hq, e⟩
    · rw [e] at hb
      exact o2 t k hk ht (ih k hk hb)
    · obtain ⟨l16, r16⟩ := N_ls16 n hg he.1
      have h2 := o3 t ht he (by
        rcases hq with q | q
        · exact Or.inl (ih _ l16 q)
        · exact Or.inr (ih _ r16 q))
      rw [e, b_or, Bool.or_eq_true, roofs_bt hg, Bool.or_eq_true] at hb
      rcases hb with q | q | q
      · exact o2 t k hk ht (ih k hk q)
      · rw [of_decide_eq_true q]
        exact h2.1
      · rw [of_decide_eq_true q]
        exact h2.2
theorem sp_quiet (h : RC N u w (m 0)) (hs : SI (EE (m 0)) r G) : ∀ n, n ≤ 28 → (pX5_spread_L4 G u w n).1 = 0 → (pX5_spread_L4 G u w n).2 = G ∧ ∀ g, g < n → ∀ t, t < 100 → EE (m 0) t g → (nI t ≤ G 1 (lsN g) ↔ nI t ≤ G 1 (grN g)) := by
  intro n
  induction n with
  | zero => intro _ _; exact ⟨rfl, fun g hg => absurd hg (Nat.not_lt_zero g)⟩
  | succ n ih =>
    intro hn h0
    have hg : n < 28 := by omega
    obtain ⟨-, -, o3, o4⟩ := sp_one hg h (sp_SI h hs n (by omega))
    obtain ⟨z1, z2⟩ := o4 h0
    obtain ⟨i1, i2⟩ := ih (by omega) z1
    refine ⟨z2.trans i1, fun g hgn t ht he => ?_⟩
    by_cases q : g < n
    · exact i2 g q t ht he
    · have : g = n := by omega
      subst this
      have o3 := o3 t ht he
      rw [z2, i1] at o3
      exact ⟨fun z => (o3 (Or.inl z)).2, fun z => (o3 (Or.inr z)).1⟩
/-- the answer, where the strengths tell what can be come to -/
theorem sp_ans (h : RC N u w (m 0)) {a b : Nat} (ha : a < 16) (hb : b < 16) (hab : ¬ nI a = nI b) (hs : SI (EE (m 0)) a G) (hc : ∀ t, 1 ≤ t → t ≤ 9 → RR (EE (m 0) t) a b → nI t ≤ G 1 b) : (if G 1 b ≤ 0 then ((-4 : Int32), G) else (G 1 b, G)).1 = pX7_strengthOf_L6 m v (nI a) (nI b) 9 := by
  obtain ⟨n, hn, e, h9, hr⟩ := hs.2 b hb
  have hn9 := h9 (fun z => hab (by rw [z]))
  have it : ∀ t, 1 ≤ t → t ≤ 9 → (pX7_isIn (pX7_comeTo m v (nI a) (nI t)) (nI b) = 0 ↔ n < t) := fun t t1 t9 => by
    have q := come_in (m := m) (v := v) (t := t) ha hb
    constructor
    · intro z
      rcases Nat.lt_or_ge n t with y | y
      · exact y
      · exact absurd z (q.mpr (hr t t1 y t9))
    · intro y
      apply Classical.byContradiction
      intro z
      have := hc t t1 t9 (q.mp z)
      rw [e] at this
      have := (nI_leI (by omega) (by omega)).mp this
      omega
  have key : ∀ k, k ≤ 9 → pX7_strengthOf_L6 m v (nI a) (nI b) k = if n = 0 ∨ k = 0 then -4 else nI (if n < k then n else k) := by
    intro k
    induction k with
    | zero => intro _; rw [pX7_strengthOf_L6_0, if_pos (Or.inr rfl)]
    | succ k ih =>
      intro hk
      rw [pX7_strengthOf_L6_s, ih (by omega)]
      by_cases c : n < k + 1
      · rw [if_pos ((it (k + 1) (by omega) hk).mpr c)]
        by_cases n0 : n = 0
        · rw [if_pos (Or.inl n0), if_pos (Or.inl n0)]
        · rw [if_neg (show ¬ (n = 0 ∨ k = 0) by omega), if_neg (show ¬ (n = 0 ∨ k + 1 = 0) by omega), if_pos c]
          congr 1
          split <;> omega
      · rw [if_neg (fun z => c ((it (k + 1) (by omega) hk).mp z)), if_neg (show ¬ (n = 0 ∨ k + 1 = 0) by omega), if_neg c]
  rw [key 9 (Nat.le_refl _), e]
  by_cases n0 : n = 0
  · subst n0
    rw [if_pos (by decide), if_pos (Or.inl rfl)]
  · rw [if_neg (nI_nle (by omega) (by omega)), if_neg (by omega)]
    show nI n = _
    congr 1
    split <;> omega
theorem spr_1 : (pX5_spread G u w).1 = (pX5_spread_L4 G u w 28).1 := by
  unfold pX5_spread
  generalize pX5_spread_L4 G u w 28 = z
  rfl
theorem spr_2 : (pX5_spread G u w).2 = (pX5_spread_L4 G u w 28).2 := by
  unfold pX5_spread
  generalize pX5_spread_L4 G u w 28 = z
  rfl
theorem it_s {t : Nat} (n : Nat) : itP m v t r (n + 1) = pX7_comeTo_L18 m v 0 (nI t) (itP m v t r n) 1 28 := rfl
theorem sp_loop (h : RC N u w (m 0)) {a b : Nat} (ha : a < 16) (hb : b < 16) (hab : ¬ nI a = nI b) : ∀ (k i : Nat) (x : Int32) (G' : Nat → Nat → Int32), i + k = 16 → SI (EE (m 0)) a G' → (∀ t, 1 ≤ t → t ≤ 9 → ∀ q, q < 16 → bt (itP m v t a i) q = true → nI t ≤ G' 1 q) → (x = 0 → ∀ g, g < 28 → ∀ t, t < 100 → EE (m 0) t g → (nI t ≤ G' 1 (lsN g) ↔ nI t ≤ G' 1 (grN g))) → (pX5_strongestBySpreading_L22 G u w (nI a) (nI b) k i x G').1 = pX7_strengthOf_L6 m v (nI a) (nI b) 9 := by
  intro k
  induction k with
  | zero =>
    intro i x G' hi hs hd _
    obtain rfl : i = 16 := by omega
    rw [pX5_strongestBySpreading_L22_0, nI_clamp (by omega)]
    refine sp_ans h ha hb hab hs (fun t t1 t9 hr => hd t t1 t9 b hb ((it_bt ha b).mpr hr))
  | succ k ih =>
    intro i x G' hi hs hd hq
    rw [pX5_strongestBySpreading_L22_s, nI_clamp (by omega)]
    by_cases c : x = 0
    · rw [if_pos c]
      refine sp_ans h ha hb hab hs (fun t t1 t9 hr => ?_)
      exact hr (fun z => nI t ≤ G' 1 z) (by rw [hs.1]; exact nI_le (by omega) (by decide)) (fun g hg he => hq c g hg t (by omega) he)
    · rw [if_neg c]
      rw [spr_1, spr_2]
      have q1 := sp_SI h hs 28 (Nat.le_refl _)
      have q2 : ∀ t, 1 ≤ t → t ≤ 9 → ∀ q, q < 16 → bt (itP m v t a (i + 1)) q = true → nI t ≤ (pX5_spread_L4 G' u w 28).2 1 q := fun t t1 t9 q hq2 hb2 => by
        rw [it_s] at hb2
        exact sp_dom (v := v) h hs (by omega) (it_M16 ha i) (hd t t1 t9) 28 (Nat.le_refl _) q hq2 hb2
      have q3 := sp_quiet h hs 28 (Nat.le_refl _)
      generalize pX5_spread_L4 G' u w 28 = Z at q1 q2 q3 ⊢
      exact ih (i + 1) Z.1 Z.2 (by omega) q1 q2 (fun h0 => by rw [(q3 h0).1]; exact (q3 h0).2)
theorem fill16 (f : Nat → Int32) (x : Int32) : ∀ q, q < 16 → pJ7_fill_53178_16 (fun _ => f) x 0 q = x := by
  have key : ∀ n q, q < n → pJ7_fill_53178_16_L5 (fun _ => f) x n 0 q = x := by
    intro n
    induction n with
    | zero => intro q h; omega
    | succ n ih =>
      intro q h
      rw [pJ7_fill_53178_16_L5_s]
      show upd (pJ7_fill_53178_16_L5 (fun _ => f) x n 0) n x q = x
      by_cases e : q = n
      · subst e
        exact pk_us
      · rw [pk_un e]
        exact ih q (by omega)
  exact key 16
theorem e_spreading (h : RC N u w (m 0)) {a b : Nat} (ha : a < 16) (hb : b < 16) : (pX5_strongestBySpreading G u w (nI a) (nI b)).1 = pX7_strengthOf m v (nI a) (nI b) := by
  unfold pX5_strongestBySpreading pX7_strengthOf
  rw [nI_clamp (show a < 2 ^ 31 by omega)]
  have f16 := fill16 (G 1) 0
  generalize pJ7_fill_53178_16 (fun _ => G 1) 0 0 = f at f16 ⊢
  have s0 : SI (EE (m 0)) a (va_up G 1 (upd f a (10 : Int32))) := by
    refine ⟨pk_us, fun q hq => ?_⟩
    by_cases e : q = a
    · subst e
      exact ⟨10, Nat.le_refl _, pk_us, fun z => absurd rfl z, fun t _ _ _ => RR_rf _ _⟩
    · exact ⟨0, by omega, (pk_un e).trans (f16 q hq), fun _ => by omega, fun t t1 t2 _ => by omega⟩
  by_cases c : nI a = nI b
  · rw [if_pos c]
    have eb : b = a := ((nI_eq (by omega) (by omega)).mp c).symm
    subst eb
    have key : ∀ (k i : Nat) (x : Int32) (G' : Nat → Nat → Int32), SI (EE (m 0)) b G' → (pX5_strongestBySpreading_L22 G u w (nI b) (nI b) k i x G').1 = 10 := by
      intro k
      induction k with
      | zero =>
        intro i x G' hs
        rw [pX5_strongestBySpreading_L22_0, nI_clamp (by omega), hs.1, if_neg (by decide)]
        rfl
      | succ k ih =>
        intro i x G' hs
        rw [pX5_strongestBySpreading_L22_s, nI_clamp (by omega)]
        by_cases c2 : x = 0
        · rw [if_pos c2, hs.1, if_neg (by decide)]
          rfl
        · rw [if_neg c2, spr_1, spr_2]
          have q1 := sp_SI h hs 28 (Nat.le_refl _)
          generalize pX5_spread_L4 G' u w 28 = Z at q1 ⊢
          exact ih _ _ _ q1
    exact key 16 0 1 _ s0
  · rw [if_neg c]
    refine sp_loop h ha hb c 16 0 1 _ rfl s0 (fun t t1 t9 q hq hb2 => ?_) (fun z => absurd z (by decide))
    have e : q = a := of_decide_eq_true ((bt_shl (by omega) q).symm.trans hb2)
    subst e
    show nI t ≤ upd f q (10 : Int32) q
    rw [pk_us]
    exact nI_le (b := 10) (by omega) (by decide)
end ST
