/-! ===== runs is true of a city in order ===== -/
theorem nI_m2 {k : Nat} (h : k < 2147483648) : ¬ nI k = -2 := fun z => by
  have e := congrArg Int32.toInt z
  rw [nI_toInt h] at e
  have : ((-2 : Int32)).toInt = -2 := rfl
  omega
theorem fV_0 {rt : Nat → Int32} : fV rt 0 = if rt 8 = 0 then -4 else rt 9 := by
  unfold fV pX6_why
  rw [if_neg (by decide), if_pos rfl]
theorem fV_1 {rt : Nat → Int32} (h : ¬ rt 8 = 0) : fV rt 1 = rt 10 := by
  unfold fV pX6_why
  rw [if_neg (by decide), if_neg h, if_neg (by decide), if_pos rfl]
theorem fV_2 {rt : Nat → Int32} (h : ¬ rt 8 = 0) : fV rt 2 = rt 11 := by
  unfold fV pX6_why
  rw [if_neg (by decide), if_neg h, if_neg (by decide), if_neg (by decide)]
theorem vp_4 : ∀ kn, kn < 5 → ((if 4 < (nI kn + (1 : Int32)) then 4 else (nI kn + (1 : Int32))) : Int32) = ((if 4 ≤ nI kn then 4 else (nI kn + (1 : Int32))) : Int32) := by decide +kernel
theorem tx_cL (sg : Nat → Nat → Int32) (L : List Int32) : cm (tx (apL sg L 0) L.length 0) L.length = cL L := by
  unfold cL cm
  apply fb_ct_cong
  intro j hj
  refine dcg ?_
  rw [tx_in hj]
  exact if_pos hj
theorem apL_at (sg : Nat → Nat → Int32) (L : List Int32) {j : Nat} (h : j < L.length) : apL sg L 0 j = L.getD j 0 := if_pos h
theorem LL_ch (a2 : Int32) : ∀ i c, c ∈ LL a2 i → CHR c
  | 0, c, h => absurd h List.not_mem_nil
  | i + 1, c, h => by
    rw [LL_s] at h
    rcases List.mem_append.mp h with h | h
    · exact LL_ch a2 i c h
    · rcases List.mem_append.mp h with h | h
      · split at h
        · exact absurd h List.not_mem_nil
        · rw [List.mem_singleton.mp h]
          exact ⟨44, by decide, rfl⟩
      · obtain ⟨q, h1, h2, e⟩ := wp_ok a2 _ c h
        exact ⟨q, by omega, e⟩
theorem apL_CH {sg : Nat → Nat → Int32} {L : List Int32} (hch : CH sg) (h : ∀ c, c ∈ L → CHR c) : CH (apL sg L) := by
  intro j hj
  by_cases q : j < L.length
  · rw [apL_at sg L q, List.getD_eq_getElem?_getD, List.getElem?_eq_getElem q, Option.getD_some]
    exact h _ (List.getElem_mem q)
  · rw [show apL sg L 0 j = sg 0 j from if_neg q]
    exact hch j hj
section FR
variable {rt : (Nat → Int32)} {sg : (Nat → Nat → Int32)} {pw : (Nat → Int32)} {rd : (Nat → Int32)} {u : (Nat → Nat → Int32)} {w : (Nat → Int32)} {h : (Nat → (Nat → Nat → Int32) × (Nat → Int32))} {r : Nat} {v : (Nat → Int32)} {tu : (Nat → Nat → Int32)} {tw : (Nat → Int32)} {su : (Nat → Nat → Int32)} {sw : (Nat → Int32)} {g : (Nat → Nat → Int32)} {B : Nat} {a2 : Int32}
theorem types_L : ∃ L, pL_types rt sg pw rd u w h r v tu tw su sw g a2 = (apL sg L, pwL pw L) ∧ L.length ≤ 55 ∧ (∀ c, c ∈ L → CHR c) ∧ (¬ (0 < L.length ∧ ¬ L.getD (L.length - 1) 0 = 44) ∨ cL L + 1 = dK a2) := by
  have hd := (dK_eq a2).1
  have e := LL_eq rt sg pw rd u w h r v tu tw su sw g a2 (dK a2) (by omega)
  have hl := LL_len a2 (dK a2)
  unfold pL_types
  rw [e]
  split
  · refine ⟨LL a2 (dK a2), rfl, by omega, LL_ch a2 _, ?_⟩
    rw [cL_LL]
    by_cases z : dK a2 = 0
    · refine Or.inl (fun q => ?_)
      rw [z] at q
      exact absurd q.1 (Nat.lt_irrefl 0)
    · exact Or.inr (by omega)
  · refine ⟨LL a2 (dK a2) ++ [44], rfl, by rw [List.length_append, List.length_singleton]; omega, fun c hc => ?_, Or.inl (fun q => q.2 ?_)⟩
    · rcases List.mem_append.mp hc with hc | hc
      · exact LL_ch a2 _ c hc
      · rw [List.mem_singleton.mp hc]
        exact ⟨44, by decide, rfl⟩
    · rw [List.length_append, List.length_singleton, Nat.add_sub_cancel, List.getD_eq_getElem?_getD, List.getElem?_append_right (Nat.le_refl _), Nat.sub_self]
      rfl
theorem F_runs (H : CI B u w) (hB : B < 900000) {kn m : Nat} (hkn : kn ≤ 4) (hv : v 1 = nI kn) (hch : CH sg) (hp0 : pw 1 = nI m) (hm : m ≤ 60) : HF_L_runs rt sg pw rd u w h r v tu tw su sw g a2 ∧ (∀ X, X = pL_runs rt sg pw rd u w h r v tu tw su sw g a2 → X.1 3 = rt 3 ∧ CH X.2.1 ∧ X.2.2.1 1 = 0 ∧ PU (B + 120) h r v u w X.2.2.2.2.1 X.2.2.2.2.2.1 X.2.2.2.2.2.2.1 X.2.2.2.2.2.2.2.1 X.2.2.2.2.2.2.2.2) := by
  obtain ⟨L, eT, hl, hcl, hK⟩ := types_L (rt := rt) (sg := sg) (pw := pw) (rd := rd) (u := u) (w := w) (h := h) (r := r) (v := v) (tu := tu) (tw := tw) (su := su) (sw := sw) (g := g) (a2 := a2)
  have hT := F_types rt sg pw rd u w h r v tu tw su sw g a2 hp0 (by omega)
  have hd := dK_eq a2
  have hC := apL_CH hch hcl
  have hp : pwL pw L 1 = nI L.length := rfl
  unfold HF_L_runs pL_runs
  rw [eT]
  dsimp only
  have hF : (pX6_fault rt (apL sg L) (pwL pw L) rd u w h r v tu tw su sw g).1 = if (sTxt (tx (apL sg L 0) L.length 0) L.length 198 0).1 = true then -4 else nI (sTxt (tx (apL sg L 0) L.length 0) L.length 198 0).2 := rd_fault hp (by omega) hC
  generalize pX6_fault rt (apL sg L) (pwL pw L) rd u w h r v tu tw su sw g = F at hF ⊢
  have hF2 : (pX2_firstFault F.2 (apL sg L) (pwL pw L)).1 = if (sTxt (tx (apL sg L 0) L.length 0) L.length 198 0).1 = true then -4 else nI (sTxt (tx (apL sg L 0) L.length 0) L.length 198 0).2 := rd_fault hp (by omega) hC
  by_cases c : (sTxt (tx (apL sg L 0) L.length 0) L.length 198 0).1 = true
  · rw [if_pos c] at hF hF2
    obtain ⟨q1, q2⟩ := sTxt_end _ _ c
    have hK' : cm (tx (apL sg L 0) L.length 0) L.length + 1 = dK a2 := by
      rw [tx_cL]
      refine hK.resolve_left (fun z => z ⟨q1, ?_⟩)
      rw [tx_in (by omega), apL_at _ _ (by omega)] at q2
      exact q2
    have R := run_ind (rt := rt) (sg := apL sg L) (pw := pwL pw L) (rd := F.2) (u := u) (w := w) (h := h) (r := r) (v := v) (tu := tu) (tw := tw) (su := su) (sw := sw) (g := g) hp (by omega) hC hK' 60 60 0 0 B (va_up rt 8 0) (pX2_rewind (pX2_firstFault F.2 (apL sg L) (pwL pw L)).2 (apL sg L) (pwL pw L)) u w (by omega) (by omega) (by omega) rfl rfl (Or.inl ⟨q1, c, rfl, by omega⟩) H (by omega) rfl
    have eQ : pX6_run rt (apL sg L) (pwL pw L) F.2 u w h r v tu tw su sw g = pX6_run_L42 rt (apL sg L) (pwL pw L) F.2 u w h r v tu tw su sw g 60 0 (nI 0) (va_up rt 8 0) (pX2_rewind (pX2_firstFault F.2 (apL sg L) (pwL pw L)).2 (apL sg L) (pwL pw L)) u w := by
      unfold pX6_run
      exact if_pos hF2
    rw [← eQ] at R
    obtain ⟨ct, rtf, rdf, uf, wf, e, HC, h3, hE⟩ := R
    rw [e, hF]
    dsimp only
    rw [hd.2]
    have hct : ct ≤ dK a2 := by
      rcases hE with z | z
      · omega
      · omega
    have h0 : (0 : Int32) ≤ nI ct := nI_le (a := 0) (by omega) (by omega)
    refine ⟨⟨hT, hC, ?_, fun _ => nI_nlt (by omega) (by omega), fun _ => rfl, fun _ => CI_12 HC, fun _ => ?_, fun _ => ?_, fun _ => ?_, fun _ a b => ?_, fun _ a b => ?_, fun _ a => ?_, fun _ a => ?_, fun _ a => ?_, fun z => absurd h0 z, fun z => absurd h0 z, fun z => absurd h0 z, fun z => absurd h0 z, fun z => absurd h0 z, fun z => absurd h0 z⟩, fun X hX => ?_⟩
    · rw [if_neg (nI_m2 (by omega)), if_pos rfl]
    · show (if 4 < ((v 1) + (1 : Int32)) then 4 else ((v 1) + (1 : Int32)) : Int32) = _
      rw [hv]
      exact vp_4 kn (by omega)
    · rw [C_13, C_13, fV_0]
      rcases hE with ⟨_, e8, e18⟩ | ⟨_, e8, _, _, ⟨e9, e18⟩ | ⟨x, x1, x2, e9, e18⟩⟩
      · rw [if_pos e8, if_pos (by decide), e18, Int32.add_zero]
      · rw [if_neg e8, e9, if_pos (by decide), e18, Int32.add_zero]
      · rw [if_neg e8, e9, if_neg (nI_nle (by omega) (by omega)), e18]
    · rw [fV_0]
      rcases hE with ⟨e7, e8, e18⟩ | ⟨e7, e8, _, _, ⟨e9, e18⟩ | ⟨x, x1, x2, e9, e18⟩⟩
      · rw [if_pos (show nI ct = nI (dK a2) by rw [e7]), if_pos e8, if_pos rfl]
      · rw [if_neg (show ¬ nI ct = nI (dK a2) from fun z => by have := (nI_eq (by omega) (by omega)).mp z; omega), if_neg e8, e9, if_neg (by decide)]
      · rw [if_neg (show ¬ nI ct = nI (dK a2) from fun z => by have := (nI_eq (by omega) (by omega)).mp z; omega), if_neg e8, e9, if_neg (nI_m4 (by omega))]
    · rw [fV_0] at a b ⊢
      rcases hE with ⟨e7, e8, e18⟩ | ⟨e7, e8, _, _, ⟨e9, e18⟩ | ⟨x, x1, x2, e9, e18⟩⟩
      · exact absurd (if_pos e8) a
      · rw [if_neg e8] at b
        exact absurd e9 b
      · rw [if_neg e8, e9]
        exact nI_nlt (b := 1) (by omega) (by omega)
    · rw [fV_0] at a b ⊢
      rcases hE with ⟨e7, e8, e18⟩ | ⟨e7, e8, _, _, ⟨e9, e18⟩ | ⟨x, x1, x2, e9, e18⟩⟩
      · exact absurd (if_pos e8) a
      · rw [if_neg e8] at b
        exact absurd e9 b
      · rw [if_neg e8, e9]
        exact nI_nlt (a := 9) (by omega) (by omega)
    · rw [fV_0] at a
      rcases hE with ⟨e7, e8, e18⟩ | ⟨e7, e8, e10, _, _⟩
      · exact absurd (if_pos e8) a
      · rw [fV_1 e8, e10]
    · rw [fV_0] at a
      rcases hE with ⟨e7, e8, e18⟩ | ⟨e7, e8, e10, ⟨p, p1, p2, e11⟩, _⟩
      · exact absurd (if_pos e8) a
      · rw [fV_2 e8, e11, show (2 : Int32) = nI 2 from rfl, pk_mul]
        exact nI_nlt (by omega) (by omega)
    · rw [fV_0] at a
      rcases hE with ⟨e7, e8, e18⟩ | ⟨e7, e8, e10, ⟨p, p1, p2, e11⟩, _⟩
      · exact absurd (if_pos e8) a
      · rw [fV_2 e8, e11, hp]
        exact nI_ge p2 (by omega)
    · subst hX
      exact ⟨h3, hC, rfl, Or.inr ⟨rfl, rfl, rfl, HC⟩⟩
  · rw [if_neg c] at hF hF2
    have hpl := sTxt_lt (f := apL sg L 0) (n := L.length) 198 0 (by omega)
    generalize (sTxt (tx (apL sg L 0) L.length 0) L.length 198 0).2 = p at hF hF2 hpl
    have eQ : ∃ rd2, pX6_run rt (apL sg L) (pwL pw L) F.2 u w h r v tu tw su sw g = (-2, rt, apL sg L, pwL pw L, rd2, h, r, v, u, w) := by
      unfold pX6_run
      rw [if_neg (by rw [hF2]; exact nI_m4 (by omega))]
      exact ⟨_, rfl⟩
    obtain ⟨rd2, e⟩ := eQ
    rw [e, hF]
    dsimp only
    have h0 : ¬ (0 : Int32) ≤ -2 := by decide
    refine ⟨⟨hT, hC, ?_, fun z => absurd z h0, fun z => absurd z h0, fun z => absurd z h0, fun z => absurd z h0, fun z => absurd z h0, fun z => absurd z h0, fun z => absurd z h0, fun z => absurd z h0, fun z => absurd z h0, fun z => absurd z h0, fun z => absurd z h0, fun _ => nI_nlt (b := 0) (by omega) (by omega), fun _ => ?_, fun _ => rfl, fun _ => CI_12 H, fun _ => ?_, fun _ => rfl⟩, fun X hX => ?_⟩
    · rw [if_pos rfl, if_neg (nI_m4 (by omega))]
    · rw [hp]
      exact nI_nlt (by omega) (by omega)
    · rw [look_F, look_F]
      exact (lg_cmp_eq _ _).mpr rfl
    · subst hX
      exact ⟨rfl, hC, rfl, Or.inl ⟨rfl, rfl, rfl, rfl, rfl⟩⟩
end FR
