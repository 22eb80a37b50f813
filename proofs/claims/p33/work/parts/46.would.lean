/-! ===== what would asks ===== -/
section WO
variable {B : Nat} {rt : Nat → Int32} {sg : Nat → Nat → Int32} {pw : Nat → Int32} {rd : Nat → Int32} {u : Nat → Nat → Int32} {w : Nat → Int32} {h : Nat → (Nat → Nat → Int32) × (Nat → Int32)} {r : Nat} {v : Nat → Int32} {tu : Nat → Nat → Int32} {tw : Nat → Int32} {su : Nat → Nat → Int32} {sw : Nat → Int32} {g : Nat → Nat → Int32} {k o : Nat} {G : Nat → Nat → Int32}
theorem rh_val (a b : Int32) : ∃ n, n ≤ 5 ∧ pX0_reasonNotToHang u w a b = nI n ∧ (n = 1 ↔ pX0_isThere u w b = 0) ∧ (n = 2 → ¬ pX0_hasLine u w b = 0) := by
  unfold pX0_reasonNotToHang
  by_cases c1 : pX0_isThere u w b = 0
  · rw [if_pos c1]
    exact ⟨1, by decide, rfl, ⟨fun _ => c1, fun _ => rfl⟩, fun z => absurd z (by decide)⟩
  · rw [if_neg c1]
    by_cases c2 : pX0_hasLine u w b = 0
    · rw [if_pos c2]
      (repeat' split)
      · exact ⟨0, by decide, rfl, ⟨fun z => absurd z (by decide), fun z => absurd z c1⟩, fun z => absurd z (by decide)⟩
      · exact ⟨5, by decide, rfl, ⟨fun z => absurd z (by decide), fun z => absurd z c1⟩, fun z => absurd z (by decide)⟩
      · exact ⟨0, by decide, rfl, ⟨fun z => absurd z (by decide), fun z => absurd z c1⟩, fun z => absurd z (by decide)⟩
      · exact ⟨4, by decide, rfl, ⟨fun z => absurd z (by decide), fun z => absurd z c1⟩, fun z => absurd z (by decide)⟩
      · exact ⟨3, by decide, rfl, ⟨fun z => absurd z (by decide), fun z => absurd z c1⟩, fun z => absurd z (by decide)⟩
    · rw [if_neg c2]
      exact ⟨2, by decide, rfl, ⟨fun z => absurd z (by decide), fun z => absurd z c1⟩, fun _ => c2⟩
theorem Y_val {x : Int32} (ho : o < 4) (hx : ¬ pX4_isGangway x = 0) : fY u w (nI o) x = pX0_reasonNotToHang u w (nI o) x := by
  unfold fY pX6_whyNotHang
  rw [if_neg (isOw o ho), if_neg hx]
/-! the strongest way -/
def WV (x : Int32) : Prop := x = -4 ∨ ∃ n, 1 ≤ n ∧ n ≤ 9 ∧ x = nI n
theorem if_val {α : Type} {c : Prop} [Decidable c] {X Y : Int32 × α} {P : Int32 → Prop} (h1 : P X.1) (h2 : P Y.1) : P (if c then X else Y).1 := by
  split
  · exact h1
  · exact h2
theorem WV_n (n : Nat) (h1 : 1 ≤ n) (h9 : n ≤ 9) : WV (nI n) := Or.inr ⟨n, h1, h9, rfl⟩
theorem join_val {a b : Int32} (hab : ¬ a = b) : WV (pX5_strongestByJoining G u w a b).1 := by
  unfold pX5_strongestByJoining
  rw [if_neg hab]
  exact if_val (WV_n 9 (by decide) (by decide)) (if_val (WV_n 8 (by decide) (by decide)) (if_val (WV_n 7 (by decide) (by decide)) (if_val (WV_n 6 (by decide) (by decide)) (if_val (WV_n 5 (by decide) (by decide)) (if_val (WV_n 4 (by decide) (by decide)) (if_val (WV_n 3 (by decide) (by decide)) (if_val (WV_n 2 (by decide) (by decide)) (if_val (WV_n 1 (by decide) (by decide)) (Or.inl rfl)))))))))
def SI (r : Nat) (G : Nat → Nat → Int32) : Prop := G 1 r = nI 10 ∧ ∀ q, q < 16 → ∃ n, n ≤ 10 ∧ G 1 q = nI n ∧ (q ≠ r → n ≤ 9)
theorem rz_SI {p q b : Nat} {x : Int32} (hp : p < 16) (hq : q < 16) (hb : b ≤ 9) (hx : x = nI b) (hG : SI r G) : SI r (pX5_raise G (nI q) (if x < G 1 ((nI p).toNatClampNeg) then x else G 1 ((nI p).toNatClampNeg))).2 := by
  subst hx
  obtain ⟨n, n10, e, -⟩ := hG.2 p hp
  rw [nI_clamp (by omega), e]
  have hm : ∃ m, m ≤ 9 ∧ (if nI b < nI n then nI b else nI n) = nI m := by
    by_cases c : b < n
    · exact ⟨b, hb, if_pos (nI_lt c (by omega))⟩
    · exact ⟨n, by omega, if_neg (nI_nlt (by omega) (by omega))⟩
  obtain ⟨m, m9, em⟩ := hm
  rw [em]
  unfold pX5_raise
  rw [nI_clamp (by omega)]
  split
  · rename_i cl
    refine ⟨?_, fun q2 hq2 => ?_⟩
    · by_cases c : r = q
      · subst c
        rw [hG.1] at cl
        exact absurd cl (nI_nlt (by omega) (by decide))
      · exact (show upd (G 1) q (nI m) r = _ from pk_un c).trans hG.1
    · by_cases c : q2 = q
      · subst c
        exact ⟨m, by omega, pk_us, fun _ => m9⟩
      · obtain ⟨n2, l2, e2, f2⟩ := hG.2 q2 hq2
        exact ⟨n2, l2, (show upd (G 1) q (nI m) q2 = _ from pk_un c).trans e2, f2⟩
  · exact hG
theorem sp_SI (H : CI B u w) (hG : SI r G) : ∀ n, n ≤ 28 → SI r (pX5_spread_L4 G u w n).2 := by
  intro n
  induction n with
  | zero => intro _; exact hG
  | succ n ih =>
    intro hn
    have ih := ih (by omega)
    obtain ⟨⟨b, b9, e, -⟩, -⟩ := H.1 n (by omega)
    rw [pX5_spread_L4_s]
    generalize pX5_spread_L4 G u w n = X at ih ⊢
    by_cases c : pX4_isGangway (nI n) = 0
    · rw [if_pos c]
      exact ih
    · obtain ⟨e1, e2, -⟩ := N_ls n (by omega)
      obtain ⟨l1, l2, -⟩ := N_ls16 n (by omega) (bf.mp (fun z => c (gw_iff.mpr z)))
      rw [if_neg c, e1, e2]
      have k1 := rz_SI (x := u 0 n) l1 l2 b9 e ih
      have k2 := rz_SI (x := u 0 n) l2 l1 b9 e k1
      generalize pX5_raise (pX5_raise X.2 (nI (grN n)) (if u 0 n < X.2 1 ((nI (lsN n)).toNatClampNeg) then u 0 n else X.2 1 ((nI (lsN n)).toNatClampNeg))).2 (nI (lsN n)) (if u 0 n < (pX5_raise X.2 (nI (grN n)) (if u 0 n < X.2 1 ((nI (lsN n)).toNatClampNeg) then u 0 n else X.2 1 ((nI (lsN n)).toNatClampNeg))).2 1 ((nI (grN n)).toNatClampNeg) then u 0 n else (pX5_raise X.2 (nI (grN n)) (if u 0 n < X.2 1 ((nI (lsN n)).toNatClampNeg) then u 0 n else X.2 1 ((nI (lsN n)).toNatClampNeg))).2 1 ((nI (grN n)).toNatClampNeg)) = R2 at k2 ⊢
      generalize pX5_raise X.2 (nI (grN n)) (if u 0 n < X.2 1 ((nI (lsN n)).toNatClampNeg) then u 0 n else X.2 1 ((nI (lsN n)).toNatClampNeg)) = R1
      (repeat' split) <;> exact k2
theorem spr_2 : (pX5_spread G u w).2 = (pX5_spread_L4 G u w 28).2 := by
  unfold pX5_spread
  generalize pX5_spread_L4 G u w 28 = z
  rfl
theorem sp_loop (H : CI B u w) (a2 : Int32) {b : Nat} (hb : b < 16) (hab : b ≠ r) : ∀ (k i : Nat) (x : Int32) (G : Nat → Nat → Int32), SI r G → WV (pX5_strongestBySpreading_L22 g u w a2 (nI b) k i x G).1 := by
  have fin : ∀ G : Nat → Nat → Int32, SI r G → WV (if G 1 ((nI b).toNatClampNeg) ≤ 0 then (((-4) : Int32), G) else (G 1 ((nI b).toNatClampNeg), G)).1 := by
    intro G hG
    obtain ⟨n, n10, e, n9⟩ := hG.2 b hb
    rw [nI_clamp (by omega), e]
    by_cases c : n = 0
    · rw [if_pos ((nI_lz (by omega)).mpr c)]
      exact Or.inl rfl
    · rw [if_neg (nI_nle (by omega) (by omega))]
      exact Or.inr ⟨n, by omega, n9 hab, rfl⟩
  intro k
  induction k with
  | zero => intro i x G hG; exact fin G hG
  | succ k ih =>
    intro i x G hG
    rw [pX5_strongestBySpreading_L22_s]
    split
    · exact fin G hG
    · have hs := sp_SI H hG 28 (Nat.le_refl _)
      rw [← spr_2] at hs
      exact ih _ _ _ hs
theorem sp_self (H : CI B u w) (hr : r < 16) (a2 : Int32) : ∀ (k i : Nat) (x : Int32) (G : Nat → Nat → Int32), SI r G → (pX5_strongestBySpreading_L22 g u w a2 (nI r) k i x G).1 = 10 := by
  have fin : ∀ G : Nat → Nat → Int32, SI r G → (if G 1 ((nI r).toNatClampNeg) ≤ 0 then (((-4) : Int32), G) else (G 1 ((nI r).toNatClampNeg), G)).1 = 10 := by
    intro G hG
    rw [nI_clamp (by omega), hG.1, if_neg (nI_nle (by decide) (by decide))]
    rfl
  intro k
  induction k with
  | zero => intro i x G hG; exact fin G hG
  | succ k ih =>
    intro i x G hG
    rw [pX5_strongestBySpreading_L22_s]
    split
    · exact fin G hG
    · have hs := sp_SI H hG 28 (Nat.le_refl _)
      rw [← spr_2] at hs
      exact ih _ _ _ hs
theorem fill16 (f : Nat → Int32) (x : Int32) : ∀ n q, q < n → pJ7_fill_53178_16_L5 (fun _ => f) x n 0 q = x := by
  intro n
  induction n with
  | zero => intro q hq; omega
  | succ n ih =>
    intro q hq
    rw [pJ7_fill_53178_16_L5_s]
    by_cases c : q = n
    · subst c
      exact pk_us
    · exact (pk_un c).trans (ih q (by omega))
theorem SI_0 {a : Nat} (ha : a < 16) : SI a (va_up G 1 (upd (pJ7_fill_53178_16 (fun _ => G 1) 0 0) (nI a).toNatClampNeg (10 : Int32))) := by
  rw [nI_clamp (by omega)]
  refine ⟨pk_us, fun q hq => ?_⟩
  by_cases c : q = a
  · subst c
    exact ⟨10, by decide, pk_us, fun z => absurd rfl z⟩
  · exact ⟨0, by decide, (show upd _ a (10 : Int32) q = _ from pk_un c).trans (fill16 _ 0 16 q hq), fun _ => by decide⟩
theorem spread_val (H : CI B u w) {a b : Nat} (ha : a < 16) (hb : b < 16) (hab : b ≠ a) : WV (pX5_strongestBySpreading G u w (nI a) (nI b)).1 := by
  unfold pX5_strongestBySpreading
  exact sp_loop (r := a) H _ hb hab 16 0 1 _ (SI_0 ha)
theorem spread_self (H : CI B u w) {a : Nat} (ha : a < 16) : (pX5_strongestBySpreading G u w (nI a) (nI a)).1 = 10 := by
  unfold pX5_strongestBySpreading
  exact sp_self (r := a) H ha _ 16 0 1 _ (SI_0 ha)
/-! steps -/
theorem fw_val (a2 a3 : Int32) : ∀ (k i : Nat) (x : Int32), pX5_fewestWalks_L13 G u w a2 a3 k i x = -4 ∨ ∃ m, i ≤ m ∧ m < i + k ∧ pX5_fewestWalks_L13 G u w a2 a3 k i x = nI m := by
  intro k
  induction k with
  | zero => intro i x; exact Or.inl rfl
  | succ k ih =>
    intro i x
    rw [pX5_fewestWalks_L13_s]
    split
    · rcases ih (i + 1) (pX5_oneWalkFurther G u w a2 x) with z | ⟨m, h1, h2, h3⟩
      · exact Or.inl z
      · exact Or.inr ⟨m, by omega, by omega, h3⟩
    · exact Or.inr ⟨i, Nat.le_refl _, by omega, rfl⟩
theorem steps_val (H : CI B u w) {q : Nat} (ho : o < 4) (hq : q < 16) : (fS G u w (nI o) (nI q) = -4 ∨ ∃ m, m ≤ 15 ∧ fS G u w (nI o) (nI q) = nI m) ∧ (fS G u w (nI o) (nI q) = 0 ↔ u 6 o = nI q) := by
  obtain ⟨-, ⟨p, hp, e⟩, -⟩ := H.2.1 o ho
  have ev : fS G u w (nI o) (nI q) = if pX6_isIn ((1 : Int32) <<< (nI p &&& 31)) (nI q) = 0 then pX5_fewestWalks_L13 G u w (nI o) (nI q) 15 1 (pX5_oneWalkFurther G u w (nI o) ((1 : Int32) <<< (nI p &&& 31))) else nI 0 := by
    unfold fS pX6_steps
    rw [if_neg (isOw o ho), if_neg (isRf q hq)]
    unfold pX5_fewestWalks
    rw [nI_clamp (by omega), e, show (16 : Nat) = 15 + 1 from rfl, pX5_fewestWalks_L13_s]
  rw [ev, e, nI_eq (by omega) (by omega)]
  by_cases c : pX6_isIn ((1 : Int32) <<< (nI p &&& 31)) (nI q) = 0
  · rw [if_pos c]
    have hne : ¬ p = q := by
      rw [isIn_0 _ (by omega), bt_shl (by omega)] at c
      exact fun z => of_decide_eq_false c z.symm
    rcases fw_val (G := G) (u := u) (w := w) (nI o) (nI q) 15 1 (pX5_oneWalkFurther G u w (nI o) ((1 : Int32) <<< (nI p &&& 31))) with z | ⟨m, h1, h2, h3⟩
    · rw [z]
      exact ⟨Or.inl rfl, fun z => absurd z (by decide), fun z => absurd z hne⟩
    · rw [h3]
      exact ⟨Or.inr ⟨m, by omega, rfl⟩, fun z => absurd z (nI_ne0 h1 (by omega)), fun z => absurd z hne⟩
  · rw [if_neg c]
    refine ⟨Or.inr ⟨0, by decide, rfl⟩, fun _ => ?_, fun _ => rfl⟩
    rw [isIn_0 _ (by omega), bt_shl (by omega)] at c
    exact (of_decide_eq_true (bf.mp c)).symm
/-! winds -/
def lsB (u : Nat → Nat → Int32) (w : Nat → Int32) (d : Int32) (k : Nat) : Bool := ln u k && !decide ((pX0_smokeBlown u w d &&& pX4_roofsOf (nI k)) = 0)
theorem n_smoked (d : Int32) : pX0_linesSmokedBy u w d = nI (fb_ct (lsB u w d) 28) := by
  refine cnt_loop (f := pX0_linesSmokedBy_L11 u w d) (N := 28) rfl (fun i hi => ?_) 28 (Nat.le_refl _)
  rw [pX0_linesSmokedBy_L11_s]
  unfold lsB
  by_cases c : pX0_hasLine u w (nI i) = 0
  · rw [if_pos c, (hl_iff hi).mp c]
    rfl
  · rw [if_neg c, bf.mp (fun z => c ((hl_iff hi).mpr z)), Bool.true_and]
    by_cases c2 : (pX0_smokeBlown u w d &&& pX4_roofsOf (nI i)) = 0
    · rw [if_pos c2, decide_eq_true c2]
      rfl
    · rw [if_neg c2, decide_eq_false c2]
      rfl
theorem W_val {d : Nat} (hd : d < 4) : fW u w (nI d) = nI (fb_ct (lsB u w (nI d)) 28) := by
  have hw : ∀ d, d < 4 → ¬ pX6_isWithin (nI d) 0 3 = 0 := by decide +kernel
  unfold fW pX6_ifWind
  rw [if_neg (hw d hd), n_smoked]
theorem bw_inv : ∀ n, n ≤ 3 → ∃ m, m ≤ n ∧ pX6_bestWind_L4 rt sg pw rd u w h r v tu tw su sw g n = nI m ∧ ∀ j, j ≤ n → fb_ct (lsB u w (nI m)) 28 ≤ fb_ct (lsB u w (nI j)) 28 := by
  intro n
  induction n with
  | zero => intro _; exact ⟨0, Nat.le_refl _, rfl, fun j hj => by rw [show j = 0 by omega]; exact Nat.le_refl _⟩
  | succ n ih =>
    intro hn
    obtain ⟨m, hm, e, hmin⟩ := ih (by omega)
    rw [pX6_bestWind_L4_s, e, n_smoked, n_smoked]
    have c1 := ct29 (lsB u w (nI m))
    have c2 := ct29 (lsB u w (nI (n + 1)))
    by_cases c : fb_ct (lsB u w (nI m)) 28 ≤ fb_ct (lsB u w (nI (n + 1))) 28
    · rw [if_pos (nI_le c (by omega))]
      refine ⟨m, by omega, rfl, fun j hj => ?_⟩
      by_cases q : j = n + 1
      · rw [q]; exact c
      · exact hmin j (by omega)
    · rw [if_neg (nI_ge (by omega) (by omega))]
      refine ⟨n + 1, Nat.le_refl _, rfl, fun j hj => ?_⟩
      by_cases q : j = n + 1
      · rw [q]; exact Nat.le_refl _
      · have := hmin j (by omega)
        omega
theorem bw_val : ∃ m, m < 4 ∧ fB u w = nI m ∧ ∀ j, j < 4 → fb_ct (lsB u w (nI m)) 28 ≤ fb_ct (lsB u w (nI j)) 28 := by
  obtain ⟨m, h1, h2, h3⟩ := bw_inv (rt := fun _ => 0) (sg := fun _ _ => 0) (pw := fun _ => 0) (rd := fun _ => 0) (u := u) (w := w) (h := fun _ => ((fun _ _ => 0), (fun _ => 0))) (r := 0) (v := fun _ => 0) (tu := fun _ _ => 0) (tw := fun _ => 0) (su := fun _ _ => 0) (sw := fun _ => 0) (g := fun _ _ => 0) 3 (Nat.le_refl _)
  exact ⟨m, by omega, h2, fun j hj => h3 j (by omega)⟩
end WO
