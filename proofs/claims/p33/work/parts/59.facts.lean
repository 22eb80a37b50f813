/-! ===== acts is true of a city in order ===== -/
section FA
variable {rt : (Nat → Int32)} {sg : (Nat → Nat → Int32)} {pw : (Nat → Int32)} {rd : (Nat → Int32)} {u : (Nat → Nat → Int32)} {w : (Nat → Int32)} {h : (Nat → (Nat → Nat → Int32) × (Nat → Int32))} {r : Nat} {v : (Nat → Int32)} {tu : (Nat → Nat → Int32)} {tw : (Nat → Int32)} {su : (Nat → Nat → Int32)} {sw : (Nat → Int32)} {g : (Nat → Nat → Int32)} {B : Nat} {a2 a3 : Int32}
theorem PU_mono {B1 : Nat} (hB : B ≤ B1) {h1 : Nat → (Nat → Nat → Int32) × (Nat → Int32)} {r1 : Nat} {v1 : Nat → Int32} {u1 : Nat → Nat → Int32} {w1 : Nat → Int32} (P : PU B h r v u w h1 r1 v1 u1 w1) : PU B1 h r v u w h1 r1 v1 u1 w1 := by
  rcases P with z | ⟨e1, e2, e3, e4⟩
  · exact Or.inl z
  · exact Or.inr ⟨e1, e2, e3, CI_mono hB e4⟩
def AR (B : Nat) (x3 : Int32) (h : Nat → (Nat → Nat → Int32) × (Nat → Int32)) (r : Nat) (v : Nat → Int32) (u : Nat → Nat → Int32) (w : Nat → Int32) (X : (Nat → Int32) × (Nat → Nat → Int32) × (Nat → Int32) × (Nat → Int32) × (Nat → (Nat → Nat → Int32) × (Nat → Int32)) × Nat × (Nat → Int32) × (Nat → Nat → Int32) × (Nat → Int32) × (Nat → Nat → Int32) × (Nat → Int32)) : Prop :=
  X.1 3 = x3 ∧ CH X.2.1 ∧ (∃ m, m ≤ 60 ∧ X.2.2.1 1 = nI m) ∧ PU B h r v u w X.2.2.2.2.1 X.2.2.2.2.2.1 X.2.2.2.2.2.2.1 X.2.2.2.2.2.2.2.1 X.2.2.2.2.2.2.2.2.1
theorem AR_i {x3 : Int32} {c : Prop} [Decidable c] {X Y : (Nat → Int32) × (Nat → Nat → Int32) × (Nat → Int32) × (Nat → Int32) × (Nat → (Nat → Nat → Int32) × (Nat → Int32)) × Nat × (Nat → Int32) × (Nat → Nat → Int32) × (Nat → Int32) × (Nat → Nat → Int32) × (Nat → Int32)} (h1 : AR B x3 h r v u w X) (h2 : AR B x3 h r v u w Y) : AR B x3 h r v u w (if c then X else Y) := by
  split
  · exact h1
  · exact h2
theorem AR_l {B1 : Nat} (hB : B1 ≤ B) {m : Nat} (hch : CH sg) (hp0 : pw 1 = nI m) (hm : m ≤ 60) {h1 : Nat → (Nat → Nat → Int32) × (Nat → Int32)} {r1 : Nat} {v1 : Nat → Int32} {u1 tu1 : Nat → Nat → Int32} {w1 tw1 : Nat → Int32} (P : PU B1 h r v u w h1 r1 v1 u1 w1) : AR B (rt 3) h r v u w (rt, sg, pw, rd, h1, r1, v1, u1, w1, tu1, tw1) := ⟨rfl, hch, ⟨m, hm, hp0⟩, PU_mono hB P⟩
theorem AR_r {B : Nat} {x3 : Int32} {X : (Nat → Int32) × (Nat → Nat → Int32) × (Nat → Int32) × (Nat → Int32) × (Nat → (Nat → Nat → Int32) × (Nat → Int32)) × Nat × (Nat → Int32) × (Nat → Nat → Int32) × (Nat → Int32)} {tu1 : Nat → Nat → Int32} {tw1 : Nat → Int32} (R : X.1 3 = x3 ∧ CH X.2.1 ∧ X.2.2.1 1 = 0 ∧ PU B h r v u w X.2.2.2.2.1 X.2.2.2.2.2.1 X.2.2.2.2.2.2.1 X.2.2.2.2.2.2.2.1 X.2.2.2.2.2.2.2.2) : AR B x3 h r v u w (X.1, X.2.1, X.2.2.1, X.2.2.2.1, X.2.2.2.2.1, X.2.2.2.2.2.1, X.2.2.2.2.2.2.1, X.2.2.2.2.2.2.2.1, X.2.2.2.2.2.2.2.2, tu1, tw1) := ⟨R.1, R.2.1, ⟨0, Nat.zero_le _, R.2.2.1⟩, R.2.2.2⟩
theorem F_acts (H : CI B u w) (hB : B < 900000) {kn m : Nat} (hkn : kn ≤ 4) (hv : v 1 = nI kn) (hch : CH sg) (hp0 : pw 1 = nI m) (hm : m ≤ 60) : HF_L_acts rt sg pw rd u w h r v tu tw su sw g a2 a3 ∧ AR (B + 120) (rt 3) h r v u w (pL_acts rt sg pw rd u w h r v tu tw su sw g a2 a3) := by
  obtain ⟨d, hd, ed⟩ : ∃ k, k < 5 ∧ pL_low a3 5 = nI k := low_r a3 (n := 5) (by decide) (by decide)
  obtain ⟨q, hq, eq⟩ : ∃ k, k < 17 ∧ pL_low a3 17 = nI k := low_r a3 (n := 17) (by decide) (by decide)
  obtain ⟨n, hn, en⟩ : ∃ k, k < 29 ∧ pL_low a3 29 = nI k := low_r a3 (n := 29) (by decide) (by decide)
  obtain ⟨x, hx, ex⟩ : ∃ k, k < 11 ∧ pL_low (a3 >>> ((3 : Int32) &&& 31)) 11 = nI k := low_r _ (n := 11) (by decide) (by decide)
  obtain ⟨b, hb, eb⟩ : ∃ k, k < 11 ∧ pL_low (a3 >>> ((5 : Int32) &&& 31)) 11 = nI k := low_r _ (n := 11) (by decide) (by decide)
  obtain ⟨y, hy, ey⟩ : ∃ k, k < 65537 ∧ ((if (pL_low (a3 >>> ((6 : Int32) &&& 31)) 4) = 0 then (pL_low (a3 >>> ((4 : Int32) &&& 31)) 65537) else 65535) : Int32) = nI k := by
    split
    · exact low_r _ (n := 65537) (by decide) (by decide)
    · exact ⟨65535, by decide, rfl⟩
  have q12 : ∀ {B1 : Nat} {h1 : Nat → (Nat → Nat → Int32) × (Nat → Int32)} {r1 : Nat} {v1 : Nat → Int32} {u1 : Nat → Nat → Int32} {w1 : Nat → Int32}, PU B1 h r v u w h1 r1 v1 u1 w1 → w1 12 < 4 := fun P => PU_12 (CI_12 H) P
  obtain ⟨R1, R2⟩ := F_runs (rt := rt) (sg := sg) (pw := pw) (rd := rd) (u := u) (w := w) (h := h) (r := r) (v := v) (tu := tu) (tw := tw) (su := su) (sw := sw) (g := g) (a2 := a3) H hB hkn hv hch hp0 hm
  have R3 := R2 _ rfl
  obtain ⟨D0, E0⟩ := F_d0 (rt := rt) (sg := sg) (pw := pw) (rd := rd) (h := h) (r := r) (v := v) (tu := tu) (tw := tw) (su := su) (sw := sw) (g := g) H a3
  obtain ⟨D1, E1⟩ := F_d1 (rt := rt) (sg := sg) (pw := pw) (rd := rd) (h := h) (r := r) (v := v) (tu := tu) (tw := tw) (su := su) (sw := sw) (g := g) H (by omega) a3
  obtain ⟨D2, E2⟩ := F_d2 (rt := rt) (sg := sg) (pw := pw) (rd := rd) (h := h) (r := r) (v := v) (tu := tu) (tw := tw) (su := su) (sw := sw) (g := g) H a3
  obtain ⟨⟨A1, A2⟩, AP⟩ := reach_all (rt := rt) (sg := sg) (pw := pw) (rd := rd) (h := h) (r := r) (v := v) (tu := tu) (tw := tw) (su := su) (sw := sw) (g := g) H hd _ rfl
  obtain ⟨⟨W1, W2, W3⟩, WP⟩ := wind_all (rt := rt) (sg := sg) (pw := pw) (rd := rd) (h := h) (r := r) (v := v) (tu := tu) (tw := tw) (su := su) (sw := sw) (g := g) H hd _ rfl
  obtain ⟨⟨C1, C2, C3⟩, CP⟩ := chimney_all (rt := rt) (sg := sg) (pw := pw) (rd := rd) (h := h) (r := r) (v := v) (tu := tu) (tw := tw) (su := su) (sw := sw) (g := g) H hq _ rfl
  obtain ⟨⟨O1, O2, O3⟩, OP⟩ := coop_all (rt := rt) (sg := sg) (pw := pw) (rd := rd) (h := h) (r := r) (v := v) (tu := tu) (tw := tw) (su := su) (sw := sw) (g := g) H hq _ rfl
  obtain ⟨⟨V1, V2⟩, VP_⟩ := owner_all (rt := rt) (sg := sg) (pw := pw) (rd := rd) (h := h) (r := r) (v := v) (tu := tu) (tw := tw) (su := su) (sw := sw) (g := g) H hd hx hy ((if (pL_low (a3 >>> ((9 : Int32) &&& 31)) 2) = 0 then 1 else 0) : Int32) _ rfl _ rfl
  obtain ⟨⟨B1, B2, B3⟩, BP⟩ := bears_all (rt := rt) (sg := sg) (pw := pw) (rd := rd) (h := h) (r := r) (v := v) (tu := tu) (tw := tw) (su := su) (sw := sw) (g := g) H hn hb _ _ _ rfl rfl rfl _ rfl
  obtain ⟨⟨Y1, Y2, Y3, Y4, Y5⟩, YP⟩ := day_all (rt := rt) (sg := sg) (pw := pw) (rd := rd) (h := h) (r := r) (v := v) (su := su) (sw := sw) (g := g) (tu := tu) (tw := tw) (tu1 := (pX6_ifDays rt sg pw rd u w h r v tu tw su sw g 1 0).2.1) (tw1 := (pX6_ifDays rt sg pw rd u w h r v tu tw su sw g 1 0).2.2) (tu2 := (pX6_ifDays rt sg pw rd u w h r v (pX6_ifDays rt sg pw rd u w h r v tu tw su sw g 1 0).2.1 (pX6_ifDays rt sg pw rd u w h r v tu tw su sw g 1 0).2.2 su sw g 1 1).2.1) (tw2 := (pX6_ifDays rt sg pw rd u w h r v (pX6_ifDays rt sg pw rd u w h r v tu tw su sw g 1 0).2.1 (pX6_ifDays rt sg pw rd u w h r v tu tw su sw g 1 0).2.2 su sw g 1 1).2.2) H _ rfl
  constructor
  · unfold HF_L_acts
    rw [ed, eq, en, ex, eb, ey]
    exact ⟨R1, A1, q12 AP, A2, V1, fun _ => q12 VP_, fun z => (V2 z).1, fun z => (V2 z).2.1, fun z => (V2 z).2.2, fun _ => q12 OP, O1, O2, O3, fun _ => q12 CP, C1, C2, C3, W1, q12 WP, W2, fun _ => q12 WP, W3, B1, q12 BP, B2, fun _ => q12 BP, B3, Y1, q12 YP, Y2, Y3, Y4, Y5, D2, D1, D0⟩
  · unfold pL_acts
    rw [ed, eq, en, ex, eb, ey]
    exact AR_i (AR_i (AR_i (AR_i (AR_i (AR_l (by omega) hch hp0 hm CP) (AR_i (AR_l (by omega) hch hp0 hm OP) (AR_i (AR_i (AR_l (by omega) hch hp0 hm AP) (AR_r R3)) (AR_l (by omega) hch hp0 hm VP_)))) (AR_l (by omega) hch hp0 hm WP)) (AR_l (by omega) hch hp0 hm BP)) (AR_l (by omega) hch hp0 hm YP)) (AR_i (AR_i (AR_l (by omega) hch hp0 hm E2) (AR_l (by omega) hch hp0 hm E1)) (AR_l (by omega) hch hp0 hm E0))
end FA
