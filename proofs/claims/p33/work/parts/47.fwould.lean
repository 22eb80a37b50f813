/-! ===== the bundle of facts that would asks for ===== -/
theorem T_n30 : ∀ n, n < 30 → (pL_bridge (nI n - (1 : Int32)) = 0 ∧ pX4_isGangway (nI n - (1 : Int32)) = 0) ∨ (0 < n ∧ n ≤ 28 ∧ nI n - (1 : Int32) = nI (n - 1) ∧ gw (n - 1) = true ∧ ¬ pL_bridge (nI n - (1 : Int32)) = 0) := by decide +kernel
theorem T_n6 : ∀ n, n < 6 → (n = 0 ∧ nI n - (1 : Int32) < 0 ∧ pX6_isWithin (nI n - (1 : Int32)) 0 3 = 0) ∨ (n = 5 ∧ ¬ nI n - (1 : Int32) < 0 ∧ ¬ nI n - (1 : Int32) ≤ 3 ∧ pX6_isWithin (nI n - (1 : Int32)) 0 3 = 0) ∨ (0 < n ∧ n < 5 ∧ nI n - (1 : Int32) = nI (n - 1) ∧ ¬ nI n - (1 : Int32) < 0 ∧ nI n - (1 : Int32) ≤ 3 ∧ ¬ pX6_isWithin (nI n - (1 : Int32)) 0 3 = 0) := by decide +kernel
theorem T_no : ∀ o, o < 5 → (o = 4 ∨ o < 4) := by decide
theorem sel_0 {c1 c2 : Prop} [Decidable c1] [Decidable c2] : ((if c1 then 1 else (if c2 then 1 else 0)) : Int32) = 0 ↔ ¬ c1 ∧ ¬ c2 := by
  by_cases h1 : c1
  · rw [if_pos h1]
    exact ⟨fun z => absurd z (by decide), fun z => absurd h1 z.1⟩
  · rw [if_neg h1]
    by_cases h2 : c2
    · rw [if_pos h2]
      exact ⟨fun z => absurd z (by decide), fun z => absurd h2 z.2⟩
    · rw [if_neg h2]
      exact ⟨fun _ => ⟨h1, h2⟩, fun _ => rfl⟩
section FW
variable {B : Nat} {u : Nat → Nat → Int32} {w : Nat → Int32} {k o r : Nat}
theorem isR16 : ∀ r, r < 17 → (r = 16 ∧ pX6_isRoof (nI r) = 0) ∨ r < 16 := by decide +kernel
theorem S_no {rt : Nat → Int32} {sg : Nat → Nat → Int32} {pw : Nat → Int32} {rd : Nat → Int32} {h : Nat → (Nat → Nat → Int32) × (Nat → Int32)} {r0 : Nat} {v : Nat → Int32} {tu : Nat → Nat → Int32} {tw : Nat → Int32} {su : Nat → Nat → Int32} {sw : Nat → Int32} {g : Nat → Nat → Int32} {a b c : Int32} (hn : pX6_isRoof a = 0 ∨ pX6_isRoof b = 0) : (pX6_strongest rt sg pw rd u w h r0 v tu tw su sw g a b c).1 = -1 := by
  unfold pX6_strongest
  by_cases z : pX6_isRoof a = 0
  · rw [if_pos z]
  · rw [if_neg z, if_pos (hn.resolve_left z)]
theorem S_yes {rt : Nat → Int32} {sg : Nat → Nat → Int32} {pw : Nat → Int32} {rd : Nat → Int32} {h : Nat → (Nat → Nat → Int32) × (Nat → Int32)} {r0 : Nat} {v : Nat → Int32} {tu : Nat → Nat → Int32} {tw : Nat → Int32} {su : Nat → Nat → Int32} {sw : Nat → Int32} {g : Nat → Nat → Int32} (H : CI B u w) {a b c : Nat} (ha : a < 16) (hb : b < 16) (hc : c < 2) : (a = b → (pX6_strongest rt sg pw rd u w h r0 v tu tw su sw g (nI a) (nI b) (nI c)).1 = 10) ∧ (¬ a = b → WV (pX6_strongest rt sg pw rd u w h r0 v tu tw su sw g (nI a) (nI b) (nI c)).1) := by
  have hw : ∀ c, c < 2 → ¬ pX6_isWithin (nI c) 0 1 = 0 := by decide +kernel
  unfold pX6_strongest
  rw [if_neg (isRf a ha), if_neg (isRf b hb), if_neg (hw c hc)]
  by_cases z : nI c = 0
  · rw [if_pos z]
    refine ⟨fun e => ?_, fun e => ?_⟩
    · subst e
      unfold pX5_strongestByJoining
      rw [if_pos rfl]
    · have hs := join_val (G := g) (u := u) (w := w) (a := nI a) (b := nI b) (fun z => e ((nI_eq (by omega) (by omega)).mp z))
      generalize pX5_strongestByJoining g u w (nI a) (nI b) = Z at hs ⊢
      exact hs
  · rw [if_neg z]
    refine ⟨fun e => ?_, fun e => ?_⟩
    · subst e
      have hs := spread_self (G := g) H ha
      generalize pX5_strongestBySpreading g u w (nI a) (nI a) = Z at hs ⊢
      exact hs
    · have hs := spread_val (G := g) H ha hb (fun z => e z.symm)
      generalize pX5_strongestBySpreading g u w (nI a) (nI b) = Z at hs ⊢
      exact hs
end FW
