/-! ===== further calls ===== -/
section RAT
variable {N N' : Nat} {rt : Nat → Int32} {sg : Nat → Nat → Int32} {pw : Nat → Int32} {rd : Nat → Int32} {u : Nat → Nat → Int32} {w : Nat → Int32} {h : Nat → (Nat → Nat → Int32) × (Nat → Int32)} {r : Nat} {v : Nat → Int32} {tu : Nat → Nat → Int32} {tw : Nat → Int32} {su : Nat → Nat → Int32} {sw : Nat → Int32} {g : Nat → Nat → Int32} {m : Nat → Nat → Int32} {x : Nat → Int32} {kn n : Nat}
theorem RG_bear {s : Nat → Int32} (h : RC N u w s) {k b : Nat} (hk : k < 28) (hb : b ≤ 9) (hg : ¬ pX7_isGangway (nI k) = 0) : RC N (va_up u 0 (upd (u 0) k (nI b))) w (upd s (30 + 4 * k) (nI b)) := by
  refine RC_g (k := k) h (Nat.le_refl _) (fun j hj i hi => ?_) (fun j hj => ?_) (fun j hj => pk_un (by omega)) ?_
  · rcases (show j = 0 ∨ j = 1 ∨ j = 2 ∨ j = 3 by omega) with rfl | rfl | rfl | rfl
    · exact pk_un hi
    · rfl
    · rfl
    · rfl
  · rw [va_up_ne _ _ (by omega)]
  · obtain ⟨b0, l, a, c, e0, f0, b9, e1, f1, l4, e2, g⟩ := h.1 k hk
    refine ⟨b, l, a, c, pk_us, pk_us, hb, e1, ?_, l4, fun z => ?_, fun z => absurd z hg⟩
    · rw [pk_un (by omega)]
      exact f1
    · obtain ⟨x1, x2, x3, x4, x5, x6⟩ := e2 z
      exact ⟨x1, by rw [pk_un (by omega)]; exact x2, x3, x4, by rw [pk_un (by omega)]; exact x5, x6⟩
theorem u0_eq {s : Nat → Int32} (h : RC N u w s) {k : Nat} (hk : k < 28) : u 0 k = s (30 + 4 * k) := by
  obtain ⟨b0, l, a, c, e0, f0, -⟩ := h.1 k hk
  rw [e0, f0]
theorem q_bears (H : RA N rt sg pw u w h r v su sw m x kn n) (a b : Int32) : (pX6_bears rt sg pw rd u w h r v tu tw su sw g a b).1 = (pX7_bears m x a b kn).1 ∧ ∃ kn', RA N rt sg pw (pX6_bears rt sg pw rd u w h r v tu tw su sw g a b).2.2.2.2.1 (pX6_bears rt sg pw rd u w h r v tu tw su sw g a b).2.2.2.2.2 (pX6_bears rt sg pw rd u w h r v tu tw su sw g a b).2.1 (pX6_bears rt sg pw rd u w h r v tu tw su sw g a b).2.2.1 (pX6_bears rt sg pw rd u w h r v tu tw su sw g a b).2.2.2.1 su sw (pX7_bears m x a b kn).2.1 (pX7_bears m x a b kn).2.2 kn' n := by
  unfold pX6_bears pX7_bears
  rw [← isG_eq a, in_eq]
  by_cases c : pX4_isGangway a = 0
  · rw [if_pos c, if_pos c]
    exact ⟨rfl, kn, H⟩
  · rw [if_neg c, if_neg c]
    by_cases c2 : pX6_isWithin b 0 9 = 0
    · rw [if_pos c2, if_pos c2]
      exact ⟨rfl, kn, H⟩
    · rw [if_neg c2, if_neg c2]
      obtain ⟨k, hk, rfl⟩ := wi_gang c
      obtain ⟨q, hq, rfl⟩ := wi_n (b := 9) (M := 9) rfl (by decide) c2
      have hg : ¬ pX7_isGangway (nI k) = 0 := fun z => c (by rw [isG_eq]; exact z)
      have hr := RA_rec H
      have hb := RG_bear hr hk hq hg
      have e0 : u 0 k = pX7_of (pX7_records m x kn).1 (pX7_records m x kn).2 (nI k) 0 := by rw [of_0 _ _ hk]; exact u0_eq hr hk
      have ll : pX7_lays (pX7_records m x kn).1 (pX7_records m x kn).2 (nI k) 0 (nI q) = (va_up (pX7_records m x kn).1 0 (upd ((pX7_records m x kn).1 0) (30 + 4 * k) (nI q)), (pX7_records m x kn).2) := lays_nI (k := 0) hk (by decide)
      have P := fun {u' w' m' x'} => RA_push (u' := u') (w' := w') (m' := m') (x' := x') H (Nat.le_refl N)
      rw [ll]
      dsimp only
      generalize (pX7_records m x kn).1 = R1 at e0 hr hb ll P ⊢
      generalize (pX7_records m x kn).2 = R2 at e0 ll P ⊢
      have hb' : RC N (va_up u 0 (upd (u 0) k (nI q))) w ((va_up R1 0 (upd (R1 0) (30 + 4 * k) (nI q))) 0) := hb
      unfold pX0_letBear
      rw [nI_clamp (show k < 2 ^ 31 by omega)]
      by_cases c3 : nI q = 0
      · rw [if_pos c3, if_pos c3]
        by_cases c4 : lnB (upd (R1 0) (30 + 4 * k) (nI q)) k = false
        · rw [if_pos ((r6_line hb hk).mpr c4), if_pos ((r7_line (v := R2) hb' hk).mpr c4)]
          exact ⟨e0, _, P hb' (fun j hj => va_up_ne _ _ hj) rfl⟩
        · rw [if_neg (fun z => c4 ((r6_line hb hk).mp z)), if_neg (fun z => c4 ((r7_line (v := R2) hb' hk).mp z)), m7_removes hk]
          have h1 := RC_17 (RG_take hb hk)
          refine ⟨e0, _, P (u' := va_up (va_up u 0 (upd (u 0) k (nI q))) 1 (upd (u 1) k (-1 : Int32))) (w' := va_up w 17 (w 17 + (1 : Int32))) ?_ (fun j hj => ?_) rfl⟩
          · exact h1
          · dsimp only
            rw [va_up_ne _ _ hj, va_up_ne _ _ hj, va_up_ne _ _ hj]
      · rw [if_neg c3, if_neg c3]
        exact ⟨e0, _, P hb' (fun j hj => va_up_ne _ _ hj) rfl⟩
theorem T_or : ∀ t, t < 16 → ∀ o, o < 4 → (nI t ||| ((1 : Int32) <<< (nI o &&& 31))) = nI (nI t ||| ((1 : Int32) <<< (nI o &&& 31))).toNatClampNeg ∧ (nI t ||| ((1 : Int32) <<< (nI o &&& 31))).toNatClampNeg < 16 ∧ pX6_isIn (nI t ||| ((1 : Int32) <<< (nI o &&& 31))) (nI o) = 1 ∧ ∀ i, i < 4 → i ≠ o → pX6_isIn (nI t ||| ((1 : Int32) <<< (nI o &&& 31))) (nI i) = pX6_isIn (nI t) (nI i) := by decide +kernel
theorem T_an : ∀ t, t < 16 → ∀ o, o < 4 → (nI t &&& (((1 : Int32) <<< (nI o &&& 31)) ^^^ (-1 : Int32))) = nI (nI t &&& (((1 : Int32) <<< (nI o &&& 31)) ^^^ (-1 : Int32))).toNatClampNeg ∧ (nI t &&& (((1 : Int32) <<< (nI o &&& 31)) ^^^ (-1 : Int32))).toNatClampNeg < 16 ∧ pX6_isIn (nI t &&& (((1 : Int32) <<< (nI o &&& 31)) ^^^ (-1 : Int32))) (nI o) = 0 ∧ ∀ i, i < 4 → i ≠ o → pX6_isIn (nI t &&& (((1 : Int32) <<< (nI o &&& 31)) ^^^ (-1 : Int32))) (nI i) = pX6_isIn (nI t) (nI i) := by decide +kernel
theorem RC_own {s : Nat → Int32} (hr : RC N u w s) {o : Nat} (ho : o < 4) (a b t : Int32) (y : Int32) (h1 : y = nI y.toNatClampNeg) (h2 : y.toNatClampNeg < 16) (h3 : pX6_isIn y (nI o) = t) (h4 : ∀ i, i < 4 → i ≠ o → pX6_isIn y (nI i) = pX6_isIn (w 8) (nI i)) : RC N (va_up (va_up u 4 (upd (u 4) o a)) 5 (upd (u 5) o b)) (va_up w 8 y) (upd (upd (upd s (10 + 5 * o) a) (10 + 5 * o + 1) b) (10 + 5 * o + 2) t) := by
  obtain ⟨e4, e5, e7, ⟨p, hp, e6, f6⟩, e8⟩ := hr.2.1 o ho
  obtain ⟨h9, h10, ma, mb, c, d, h13, h14, h15, h16, h17, h18, tt⟩ := hr.2.2
  have sk : ∀ j, (j < 10 + 5 * o ∨ 10 + 5 * o + 3 ≤ j) → (upd (upd (upd s (10 + 5 * o) a) (10 + 5 * o + 1) b) (10 + 5 * o + 2) t) j = s j := fun j hj => by
    rw [pk_un (by omega), pk_un (by omega), pk_un (by omega)]
  refine RC_o (o := o) hr ho (fun j hj => ?_) (fun j hj i hi => ?_) (fun i hi hne => h4 i hi hne) (fun j hj => sk j (by omega)) ⟨?_, ?_, ?_, ⟨p, hp, ?_, ?_⟩, ?_⟩ ?_
  · rw [va_up_ne _ _ (by omega), va_up_ne _ _ (by omega)]
  · by_cases j5 : j = 5
    · subst j5
      exact pk_un hi
    · rw [va_up_ne _ _ j5]
      by_cases j4 : j = 4
      · subst j4
        exact pk_un hi
      · rw [va_up_ne _ _ j4]
  · rw [pk_un (by omega), pk_un (by omega), pk_us]
    exact pk_us
  · rw [pk_un (by omega), pk_us]
    exact pk_us
  · rw [sk _ (by omega)]
    exact e7
  · exact e6
  · rw [sk _ (by omega)]
    exact f6
  · rw [pk_us]
    exact h3.symm
  · unfold RS
    rw [sk 0 (by omega), sk 1 (by omega), sk 2 (by omega), sk 3 (by omega), sk 4 (by omega), sk 5 (by omega), sk 6 (by omega), sk 7 (by omega), sk 8 (by omega), sk 9 (by omega)]
    exact ⟨h9, h10, ma, mb, c, d, h13, h14, h15, h16, h17, h18, ⟨_, h2, h1⟩⟩
theorem q_owner (H : RA N rt sg pw u w h r v su sw m x kn n) (a b c d : Int32) : (pX6_owner rt sg pw rd u w h r v tu tw su sw g a b c d).1 = (pX7_owner m x a b c d kn).1 ∧ ∃ kn', RA N rt sg pw (pX6_owner rt sg pw rd u w h r v tu tw su sw g a b c d).2.2.2.2.1 (pX6_owner rt sg pw rd u w h r v tu tw su sw g a b c d).2.2.2.2.2 (pX6_owner rt sg pw rd u w h r v tu tw su sw g a b c d).2.1 (pX6_owner rt sg pw rd u w h r v tu tw su sw g a b c d).2.2.1 (pX6_owner rt sg pw rd u w h r v tu tw su sw g a b c d).2.2.2.1 su sw (pX7_owner m x a b c d kn).2.1 (pX7_owner m x a b c d kn).2.2 kn' n := by
  unfold pX6_owner pX7_owner
  rw [in_eq, in_eq]
  by_cases c1 : pX6_isOwner a = 0
  · rw [if_pos c1, if_pos (show pX7_isOwner a = 0 from c1)]
    exact ⟨rfl, kn, H⟩
  · rw [if_neg c1, if_neg (show ¬ pX7_isOwner a = 0 from c1)]
    by_cases c2 : pX6_isWithin b 1 9 = 0
    · rw [if_pos c2, if_pos c2]
      exact ⟨rfl, kn, H⟩
    · rw [if_neg c2, if_neg c2]
      by_cases c3 : pX6_isWithin c 0 65535 = 0
      · rw [if_pos c3, if_pos c3]
        exact ⟨rfl, kn, H⟩
      · rw [if_neg c3, if_neg c3]
        obtain ⟨o, ho, rfl⟩ := wi_own c1
        have hr := RA_rec H
        have i0 : (((10 : Int32) + ((5 : Int32) * nI o)) + (0 : Int32)).toNatClampNeg = 10 + 5 * o := by
          rw [show (0 : Int32) = nI 0 from rfl, ix_ow, nI_clamp (by omega), Nat.add_zero]
        have i1 : (((10 : Int32) + ((5 : Int32) * nI o)) + (1 : Int32)).toNatClampNeg = 10 + 5 * o + 1 := by
          rw [show (1 : Int32) = nI 1 from rfl, ix_ow, nI_clamp (by omega)]
        have i2 : (((10 : Int32) + ((5 : Int32) * nI o)) + (2 : Int32)).toNatClampNeg = 10 + 5 * o + 2 := by
          rw [show (2 : Int32) = nI 2 from rfl, ix_ow, nI_clamp (by omega)]
        rw [i0, i1, i2, nI_clamp (show o < 2 ^ 31 by omega), ow_0 _ _ ho]
        have e4 := (hr.2.1 o ho).1
        obtain ⟨t, ht, e8⟩ := hr.2.2.2.2.2.2.2.2.2.2.2.2.2.2
        unfold pX0_setTruce
        by_cases c4 : d = 0
        · rw [if_pos c4, if_pos c4]
          obtain ⟨t1, t2, t3, t4⟩ := T_an t ht o ho
          refine ⟨e4, _, RA_push H (Nat.le_refl _) ?_ (fun j hj => va_up_ne _ _ hj) rfl⟩
          exact RC_own hr ho b c 0 _ (by rw [e8]; exact t1) (by rw [e8]; exact t2) (by rw [e8]; exact t3) (by rw [e8]; exact t4)
        · rw [if_neg c4, if_neg c4]
          obtain ⟨t1, t2, t3, t4⟩ := T_or t ht o ho
          refine ⟨e4, _, RA_push H (Nat.le_refl _) ?_ (fun j hj => va_up_ne _ _ hj) rfl⟩
          exact RC_own hr ho b c 1 _ (by rw [e8]; exact t1) (by rw [e8]; exact t2) (by rw [e8]; exact t3) (by rw [e8]; exact t4)
theorem q_undo (H : RA N rt sg pw u w h r v su sw m x kn n) : (pX6_undo rt sg pw rd u w h r v tu tw su sw g).1 = (pX7_undo m x kn).1 ∧ ∃ kn', RA N rt sg pw (pX6_undo rt sg pw rd u w h r v tu tw su sw g).2.2.2.2.1 (pX6_undo rt sg pw rd u w h r v tu tw su sw g).2.2.2.2.2 (pX6_undo rt sg pw rd u w h r v tu tw su sw g).2.1 (pX6_undo rt sg pw rd u w h r v tu tw su sw g).2.2.1 (pX6_undo rt sg pw rd u w h r v tu tw su sw g).2.2.2.1 su sw (pX7_undo m x kn).2.1 (pX7_undo m x kn).2.2 kn' n := by
  obtain ⟨ha, ⟨h4, hv, hx, hr, hj⟩, hc, hd, he⟩ := H
  unfold pX6_undo pX7_undo
  rw [hv]
  by_cases c : nI kn = 0
  · rw [if_pos c, if_pos c]
    refine ⟨rfl, kn, ?_⟩
    dsimp only
    rw [va_up_id hx]
    exact ⟨ha, ⟨h4, hv, hx, hr, hj⟩, hc, hd, he⟩
  · rw [if_neg c, if_neg c]
    have k1 := kn1 c
    have e1 : nI kn - (1 : Int32) = nI (kn - 1) := pk_sub (b := 1) k1
    have e2 : (if nI kn - (1 : Int32) < 0 then 0 else nI kn - (1 : Int32)) = nI (kn - 1) := by rw [e1, if_neg (nI_pos (by omega))]
    rw [e2, e1]
    have h0 := hj 0 (by omega)
    rw [show (0 + r) % 4 = r by omega] at h0
    refine ⟨rfl, kn - 1, RC_cg h0 (Nat.le_refl _) (fun k hk => ?_), ⟨by omega, rfl, rfl, Nat.mod_lt _ (by decide), fun j hj2 => ?_⟩, hc, hd, he⟩
    · show pX7_copies (fun _ => m 2) (fun _ => m 0) (142 * (kn - 1)) 0 568 142 0 k = m 2 (142 * (kn - 1 - 0) + k)
      rw [cp_at, if_pos (show 0 ≤ k ∧ k < 0 + 142 by omega), show k - 0 = k by omega, show kn - 1 - 0 = kn - 1 by omega]
    · have h1 := hj (j + 1) (by omega)
      rw [show (j + 1 + r) % 4 = (j + (r + 1) % 4) % 4 by omega, show kn - 1 - (j + 1) = kn - 1 - 1 - j by omega] at h1
      exact h1
theorem q_save (H : RA N rt sg pw u w h r v su sw m x kn n) : (pX6_save rt sg pw rd u w h r v tu tw su sw g).1 = (pX7_save m x).1 ∧ RA N (pX6_save rt sg pw rd u w h r v tu tw su sw g).2.1 sg pw u w h r v (pX6_save rt sg pw rd u w h r v tu tw su sw g).2.2.1 (pX6_save rt sg pw rd u w h r v tu tw su sw g).2.2.2 (pX7_save m x).2.1 (pX7_save m x).2.2 kn n := by
  obtain ⟨ha, hb, hc, hd, he⟩ := H
  unfold pX6_save pX7_save
  have h0 : RC N u w ((va_up m 3 (pX7_copies (fun _ => m 0) (fun _ => m 3) 0 0 142 142 0)) 0) := ha
  refine ⟨e_lines h0, ha, hb, ⟨rfl, fun _ => RC_cg ha (Nat.le_refl _) (fun k hk => ?_)⟩, hd, he⟩
  show pX7_copies (fun _ => m 0) (fun _ => m 3) 0 0 142 142 0 k = m 0 k
  rw [cp_at, if_pos (show 0 ≤ k ∧ k < 0 + 142 by omega), show 0 + (k - 0) = k by omega]
theorem q_restore (H : RA N rt sg pw u w h r v su sw m x kn n) : (pX6_restore rt sg pw rd u w h r v tu tw su sw g).1 = (pX7_restore m x kn).1 ∧ ∃ kn', RA N rt sg pw (pX6_restore rt sg pw rd u w h r v tu tw su sw g).2.2.2.2.1 (pX6_restore rt sg pw rd u w h r v tu tw su sw g).2.2.2.2.2 (pX6_restore rt sg pw rd u w h r v tu tw su sw g).2.1 (pX6_restore rt sg pw rd u w h r v tu tw su sw g).2.2.1 (pX6_restore rt sg pw rd u w h r v tu tw su sw g).2.2.2.1 su sw (pX7_restore m x kn).2.1 (pX7_restore m x kn).2.2 kn' n := by
  have hc := H.2.2.1
  unfold pX6_restore pX7_restore
  rw [hc.1]
  by_cases c : x 5 = 0
  · rw [if_pos c, if_pos c]
    exact ⟨rfl, kn, H⟩
  · rw [if_neg c, if_neg c]
    have h3 := hc.2 (by rw [hc.1]; exact c)
    have e3 := rec_u m x kn (k := 3) (by decide)
    have h0 : RC N su sw ((va_up (pX7_records m x kn).1 0 (pX7_copies (fun _ => (pX7_records m x kn).1 3) (fun _ => (pX7_records m x kn).1 0) 0 0 142 142 0)) 0) := by
      refine RC_cg h3 (Nat.le_refl _) (fun k hk => ?_)
      show pX7_copies (fun _ => (pX7_records m x kn).1 3) (fun _ => (pX7_records m x kn).1 0) 0 0 142 142 0 k = m 3 k
      rw [cp_at, if_pos (show 0 ≤ k ∧ k < 0 + 142 by omega), show 0 + (k - 0) = k by omega, e3]
    exact ⟨e_lines h0, _, RA_push H (Nat.le_refl _) h0 (fun j hj => va_up_ne _ _ hj) rfl⟩
theorem wi_33 {a : Int32} (c : ¬ pX6_isWithin a 33 126 = 0) : ∃ k, 33 ≤ k ∧ k ≤ 126 ∧ a = nI k := by
  unfold pX6_isWithin at c
  by_cases c1 : a < 33
  · rw [if_pos c1] at c
    exact absurd rfl c
  · rw [if_neg c1] at c
    by_cases c2 : 126 < a
    · rw [if_pos c2] at c
      exact absurd rfl c
    · have h1 := Int32.le_iff_toInt_le.mp (Int32.not_lt.mp c1)
      rw [show (33 : Int32).toInt = 33 from rfl] at h1
      have h0 : ¬ a < 0 := fun z => by
        have := Int32.lt_iff_toInt_lt.mp z
        rw [show (0 : Int32).toInt = 0 from rfl] at this
        omega
      obtain ⟨k, hk, rfl⟩ := nI_of2 (M := 126) (n := 126) rfl h0 (Int32.not_lt.mp c2)
      rw [nI_toInt (by omega)] at h1
      exact ⟨k, by omega, hk, rfl⟩
theorem q_append (H : RA N rt sg pw u w h r v su sw m x kn n) (a : Int32) : (pX6_append rt sg pw rd u w h r v tu tw su sw g a).1 = (pX7_append m x a).1 ∧ ∃ n', RA N rt (pX6_append rt sg pw rd u w h r v tu tw su sw g a).2.1 (pX6_append rt sg pw rd u w h r v tu tw su sw g a).2.2 u w h r v su sw (pX7_append m x a).2.1 (pX7_append m x a).2.2 kn n' := by
  obtain ⟨ha, hb, hc, ⟨d1, d2, d3, d4, d5⟩, he⟩ := H
  unfold pX6_append pX7_append
  rw [in_eq]
  by_cases c : pX6_isWithin a 33 126 = 0
  · rw [if_pos c, if_pos c]
    exact ⟨rfl, n, ha, hb, hc, ⟨d1, d2, d3, d4, d5⟩, he⟩
  · rw [if_neg c, if_neg c, d2, d3]
    by_cases c2 : n = 60
    · subst c2
      rw [if_neg (show ¬ nI 60 < 60 by decide), if_pos (show nI 60 = 60 from rfl)]
      exact ⟨rfl, 60, ha, hb, hc, ⟨d1, d2, d3, d4, d5⟩, he⟩
    · rw [if_pos (show nI n < 60 from nI_lt (b := 60) (by omega) (by decide)), if_neg (show ¬ nI n = 60 from fun z => c2 ((nI_eq (b := 60) (by omega) (by decide)).mp z))]
      obtain ⟨k, k1, k2, rfl⟩ := wi_33 c
      have ek : vp_nar .char ((nI k).toUInt32 % 65536).toInt32 = nI k := by
        rw [pk_vc, pk_char, pk_tn (by omega), Nat.mod_eq_of_lt (by omega)]
      have ea : pX3_add sg pw ((nI k).toUInt32 % 65536).toInt32 = (va_up sg 0 (upd (sg 0) n (nI k)), va_up pw 1 (nI (n + 1))) := by
        unfold pX3_add
        rw [d2, show pX6_isWithin (nI n) 0 59 = pX6_isWithin (nI n) (nI 0) (nI 59) from rfl, within_nI (by omega) (by omega) (by omega), if_pos (show 0 ≤ n ∧ n ≤ 59 by omega), if_neg (show ¬ (1 : Int32) = 0 by decide), ek, nI_1, nI_clamp (by omega)]
      rw [ea, nI_1, nI_clamp (show n < 2 ^ 31 by omega)]
      refine ⟨rfl, n + 1, ha, hb, hc, ⟨by omega, rfl, rfl, fun j hj => ?_, fun j hj => ?_⟩, he⟩
      · show CHR (upd (sg 0) n (nI k) j)
        by_cases e : j = n
        · subst e
          rw [pk_us]
          exact ⟨k, by omega, rfl⟩
        · rw [pk_un e]
          exact d4 j hj
      · show upd (sg 0) n (nI k) j = upd (m 4) n (nI k) j
        by_cases e : j = n
        · subst e
          rw [pk_us, pk_us]
        · rw [pk_un e, pk_un e]
          exact d5 j (by omega)
theorem q_clear (H : RA N rt sg pw u w h r v su sw m x kn n) : (pX6_clear rt sg pw rd u w h r v tu tw su sw g).1 = (pX7_clear m x).1 ∧ ∃ n', RA N rt (pX6_clear rt sg pw rd u w h r v tu tw su sw g).2.1 (pX6_clear rt sg pw rd u w h r v tu tw su sw g).2.2 u w h r v su sw (pX7_clear m x).2.1 (pX7_clear m x).2.2 kn n' := by
  obtain ⟨ha, hb, hc, ⟨d1, d2, d3, d4, d5⟩, he⟩ := H
  refine ⟨?_, 0, ha, hb, hc, ⟨by omega, rfl, rfl, d4, fun j hj => absurd hj (Nat.not_lt_zero j)⟩, he⟩
  show pw 1 = x 7
  rw [d2, d3]
theorem q_fault (H : RA N rt sg pw u w h r v su sw m x kn n) : (pX6_fault rt sg pw rd u w h r v tu tw su sw g).1 = (pX7_fault m x).1 ∧ RA N rt sg pw u w h r v su sw (pX7_fault m x).2.1 (pX7_fault m x).2.2 kn n := by
  obtain ⟨ha, hb, hc, ⟨d1, d2, d3, d4, d5⟩, he⟩ := H
  refine ⟨e_fault d2 d1 d4 d3 d5, ?_⟩
  obtain ⟨a1, a2, a3, e⟩ := isText_eq m d3 d1
  have q : (pX7_fault m x).2.1 = m ∧ ∀ k, k < 8 ∨ 12 < k → (pX7_fault m x).2.2 k = x k := by
    unfold pX7_fault
    rw [e]
    split
    · exact ⟨rfl, fun k hk => W5_k _ _ _ _ _ _ hk⟩
    · exact ⟨rfl, fun k hk => W5_k _ _ _ _ _ _ hk⟩
  obtain ⟨q1, q2⟩ := q
  rw [q1]
  refine ⟨ha, ?_, ?_, ⟨d1, d2, ?_, d4, d5⟩, ?_⟩
  · rw [q2 3 (by omega)]
    exact hb
  · rw [q2 5 (by omega)]
    exact hc
  · rw [q2 7 (by omega)]
    exact d3
  · rw [q2 13 (by omega)]
    exact he
theorem q_why (H : RA N rt sg pw u w h r v su sw m x kn n) (a : Int32) : pX6_why rt sg pw rd u w h r v tu tw su sw g a = pX7_why m x a := by
  obtain ⟨-, -, -, -, e1, e2⟩ := H
  unfold pX6_why pX7_why
  rw [in_eq, e1]
  by_cases c : pX6_isWithin a 0 2 = 0
  · rw [if_pos c, if_pos c]
  · rw [if_neg c, if_neg c]
    by_cases c2 : x 13 = 0
    · rw [if_pos c2, if_pos c2]
    · rw [if_neg c2, if_neg c2]
      obtain ⟨f1, f2, f3⟩ := e2 (by rw [e1]; exact c2)
      obtain ⟨k, hk, rfl⟩ := wi_n (b := 2) (M := 2) rfl (by decide) c
      rw [nI_clamp (by omega)]
      rcases (show k = 0 ∨ k = 1 ∨ k = 2 by omega) with rfl | rfl | rfl
      · rw [if_pos (show nI 0 = 0 from rfl)]
        exact f1
      · rw [if_neg (show ¬ nI 1 = 0 by decide), if_pos (show nI 1 = 1 from rfl)]
        exact f2
      · rw [if_neg (show ¬ nI 2 = 0 by decide), if_neg (show ¬ nI 2 = 1 by decide)]
        exact f3
end RAT
