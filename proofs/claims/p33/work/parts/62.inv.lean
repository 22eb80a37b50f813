/-! ===== what stands between two turns of the law ===== -/
abbrev WB (cyC cyI cyO : ClassId) (Z C TR SN HI Y P R : Nat → Nat) (BB : Nat → Nat → Nat) (rt : (Nat → Int32)) (sg : (Nat → Nat → Int32)) (pw : (Nat → Int32)) (rd : (Nat → Int32)) (u : (Nat → Nat → Int32)) (w : (Nat → Int32)) (h : (Nat → (Nat → Nat → Int32) × (Nat → Int32))) (r : Nat) (v : (Nat → Int32)) (tu : (Nat → Nat → Int32)) (tw : (Nat → Int32)) (su : (Nat → Nat → Int32)) (sw : (Nat → Int32)) (g : (Nat → Nat → Int32)) : List va_W := [wRt Z C TR SN HI Y P R rt, wPd cyC P sg pw, wRd R P rd, wC cyI C u w, wHM cyI cyO HI BB h r v, wC cyI TR tu tw, wC cyI SN su sw, wWy cyI Y g]
def IV (B : Nat) (rt : Nat → Int32) (sg : Nat → Nat → Int32) (pw : Nat → Int32) (u : Nat → Nat → Int32) (w : Nat → Int32) (h : Nat → (Nat → Nat → Int32) × (Nat → Int32)) (r : Nat) (v : Nat → Int32) (su : Nat → Nat → Int32) (sw : Nat → Int32) (kn : Nat) : Prop :=
  CI B u w ∧ CI B su sw ∧ (∀ j, j < kn → CI B (h ((r + j) % 4)).1 (h ((r + j) % 4)).2) ∧ kn ≤ 4 ∧ v 1 = nI kn ∧ r < 4 ∧ CH sg ∧ (∃ m, m ≤ 60 ∧ pw 1 = nI m) ∧ rt 3 = 1
section IVS
variable {B B1 : Nat} {rt : Nat → Int32} {sg : Nat → Nat → Int32} {pw : Nat → Int32} {u : Nat → Nat → Int32} {w : Nat → Int32} {h : Nat → (Nat → Nat → Int32) × (Nat → Int32)} {r : Nat} {v : Nat → Int32} {su : Nat → Nat → Int32} {sw : Nat → Int32} {kn : Nat}
theorem IV_mono (hB : B ≤ B1) (H : IV B rt sg pw u w h r v su sw kn) : IV B1 rt sg pw u w h r v su sw kn := by
  obtain ⟨a, b, c, d⟩ := H
  exact ⟨CI_mono hB a, CI_mono hB b, fun j hj => CI_mono hB (c j hj), d⟩
theorem VP_v (hv : v 1 = nI kn) (hk : kn ≤ 4) : VP v 1 = nI (if kn = 4 then 4 else kn + 1) := by
  show (if 4 < ((v 1) + (1 : Int32)) then 4 else ((v 1) + (1 : Int32)) : Int32) = _
  rw [hv]
  exact (by decide +kernel : ∀ k, k < 5 → (if 4 < (nI k + (1 : Int32)) then 4 else (nI k + (1 : Int32)) : Int32) = nI (if k = 4 then 4 else k + 1)) kn (by omega)
theorem IV_push (H : IV B rt sg pw u w h r v su sw kn) {u1 : Nat → Nat → Int32} {w1 : Nat → Int32} (H1 : CI B u1 w1) : IV B rt sg pw u1 w1 (va_up h ((r + 3) % 4) (u, w)) ((r + 3) % 4) (VP v) su sw (if kn = 4 then 4 else kn + 1) := by
  obtain ⟨a, b, c, d, e, f, g⟩ := H
  refine ⟨H1, b, fun j hj => ?_, by split <;> omega, VP_v e d, by omega, g⟩
  by_cases hj0 : j = 0
  · subst hj0
    have : ((r + 3) % 4 + 0) % 4 = (r + 3) % 4 := by omega
    rw [this, show va_up h ((r + 3) % 4) (u, w) ((r + 3) % 4) = (u, w) from if_pos rfl]
    exact a
  · have hj4 : j < kn + 1 ∧ j < 4 := by split at hj <;> omega
    have e1 : ((r + 3) % 4 + j) % 4 = (r + (j - 1)) % 4 := by omega
    rw [e1, va_up_ne _ _ (show (r + (j - 1)) % 4 ≠ (r + 3) % 4 by omega)]
    exact c (j - 1) (by omega)
theorem IV_undo (H : IV B rt sg pw u w h r v su sw (kn + 1)) : IV B rt sg pw (h r).1 (h r).2 h ((r + 1) % 4) (va_up v 1 (if ((v 1) - (1 : Int32)) < 0 then 0 else ((v 1) - (1 : Int32)))) su sw kn ∧ (va_up v 1 (if ((v 1) - (1 : Int32)) < 0 then 0 else ((v 1) - (1 : Int32)))) 1 = nI kn := by
  obtain ⟨a, b, c, d, e, f, g⟩ := H
  have ev : (va_up v 1 (if ((v 1) - (1 : Int32)) < 0 then 0 else ((v 1) - (1 : Int32)))) 1 = nI kn := by
    show (if ((v 1) - (1 : Int32)) < 0 then 0 else ((v 1) - (1 : Int32)) : Int32) = _
    rw [e]
    exact (by decide +kernel : ∀ k, k < 4 → (if (nI (k + 1) - (1 : Int32)) < 0 then 0 else (nI (k + 1) - (1 : Int32)) : Int32) = nI k) kn (by omega)
  have c0 := c 0 (by omega)
  rw [show (r + 0) % 4 = r by omega] at c0
  refine ⟨⟨c0, b, fun j hj => ?_, by omega, ev, by omega, g⟩, ev⟩
  rw [show ((r + 1) % 4 + j) % 4 = (r + (j + 1)) % 4 by omega]
  exact c (j + 1) (by omega)
theorem undo_s (hv : v 1 = nI (kn + 1)) (hk : kn < 4) {rt : Nat → Int32} {sg : Nat → Nat → Int32} {pw rd : Nat → Int32} {tu : Nat → Nat → Int32} {tw : Nat → Int32} {g : Nat → Nat → Int32} : pX6_undo rt sg pw rd u w h r v tu tw su sw g = ((va_up v 1 (if ((v 1) - (1 : Int32)) < 0 then 0 else ((v 1) - (1 : Int32)))) 1, h, (r + 1) % 4, va_up v 1 (if ((v 1) - (1 : Int32)) < 0 then 0 else ((v 1) - (1 : Int32))), (h r).1, (h r).2) := by
  unfold pX6_undo
  exact if_neg (by rw [hv]; exact nI_ne0 (by omega) (by omega))
theorem undo_0 (hv : v 1 = 0) {rt : Nat → Int32} {sg : Nat → Nat → Int32} {pw rd : Nat → Int32} {tu : Nat → Nat → Int32} {tw : Nat → Int32} {g : Nat → Nat → Int32} : pX6_undo rt sg pw rd u w h r v tu tw su sw g = (-2, h, r, v, u, w) := by
  unfold pX6_undo
  exact if_pos hv
theorem restore_s (hr : rt 3 = 1) {sg : Nat → Nat → Int32} {pw rd : Nat → Int32} {tu : Nat → Nat → Int32} {tw : Nat → Int32} {g : Nat → Nat → Int32} : pX6_restore rt sg pw rd u w h r v tu tw su sw g = (fC su sw 5, va_up h ((r + 3) % 4) (u, w), (r + 3) % 4, VP v, su, sw) := by
  unfold pX6_restore pX0_copyFrom
  rw [if_neg (by rw [hr]; decide), C_5, n_lines]
  rfl
theorem save_s {sg : Nat → Nat → Int32} {pw rd : Nat → Int32} {tu : Nat → Nat → Int32} {tw : Nat → Int32} {g : Nat → Nat → Int32} : pX6_save rt sg pw rd u w h r v tu tw su sw g = (fC u w 5, va_up rt 3 1, u, w) := by
  unfold pX6_save pX0_copyFrom
  rw [C_5, n_lines]
/-- one turn's act -/
theorem IV_acts (H : IV B rt sg pw u w h r v su sw kn) {X : (Nat → Int32) × (Nat → Nat → Int32) × (Nat → Int32) × (Nat → Int32) × (Nat → (Nat → Nat → Int32) × (Nat → Int32)) × Nat × (Nat → Int32) × (Nat → Nat → Int32) × (Nat → Int32) × (Nat → Nat → Int32) × (Nat → Int32)} (A : AR B1 (rt 3) h r v u w X) (hB : B ≤ B1) : ∃ kn', IV B1 X.1 X.2.1 X.2.2.1 X.2.2.2.2.2.2.2.1 X.2.2.2.2.2.2.2.2.1 X.2.2.2.2.1 X.2.2.2.2.2.1 X.2.2.2.2.2.2.1 su sw kn' ∧ ((kn' = kn ∧ X.2.2.2.2.2.2.2.1 = u ∧ X.2.2.2.2.2.2.2.2.1 = w) ∨ (kn' = (if kn = 4 then 4 else kn + 1) ∧ X.2.2.2.2.1 X.2.2.2.2.2.1 = (u, w) )) := by
  obtain ⟨x1, x2, x3, x4⟩ := A
  obtain ⟨a, b, c, d, e, f, g1, g2, g3⟩ := H
  rcases x4 with ⟨e1, e2, e3, e4, e5⟩ | ⟨e1, e2, e3, e4⟩
  · refine ⟨kn, ⟨?_, CI_mono hB b, ?_, d, ?_, ?_, x2, x3, x1.trans g3⟩, Or.inl ⟨rfl, e4, e5⟩⟩
    · rw [e4, e5]
      exact CI_mono hB a
    · rw [e1, e2]
      exact fun j hj => CI_mono hB (c j hj)
    · rw [e3]
      exact e
    · rw [e2]
      exact f
  · have P := IV_push (u1 := X.2.2.2.2.2.2.2.1) (w1 := X.2.2.2.2.2.2.2.2.1) (IV_mono hB ⟨a, b, c, d, e, f, g1, g2, g3⟩) e4
    rw [← e1, ← e2, ← e3] at P
    obtain ⟨p1, p2, p3, p4, p5, p6, p7, p8, p9⟩ := P
    refine ⟨_, ⟨p1, p2, p3, p4, p5, p6, x2, x3, x1.trans g3⟩, Or.inr ⟨rfl, ?_⟩⟩
    rw [e1, e2]
    exact if_pos rfl
end IVS
