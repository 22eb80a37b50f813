/-! ===== run: both loops do the same ===== -/
section RUN
variable {N N' : Nat} {rt : Nat → Int32} {sg : Nat → Nat → Int32} {pw : Nat → Int32} {rd : Nat → Int32} {u : Nat → Nat → Int32} {w : Nat → Int32} {h : Nat → (Nat → Nat → Int32) × (Nat → Int32)} {r : Nat} {v : Nat → Int32} {tu : Nat → Nat → Int32} {tw : Nat → Int32} {su : Nat → Nat → Int32} {sw : Nat → Int32} {g : Nat → Nat → Int32} {m : Nat → Nat → Int32} {x : Nat → Int32} {kn n : Nat}
theorem sNum_G {T : Nat → Int32} {i : Nat} (h : (sNum T 1 i).1 = true) : ¬ pX7_isGangway (sNum T 1 i).2.1 = 0 := by
  have e : ∀ z, ¬ pX7_isNumber 1 z = 0 → ¬ pX7_isGangway z = 0 := fun z hz => by
    unfold pX7_isNumber at hz
    rw [if_neg (by decide)] at hz
    exact hz
  unfold sNum
  unfold sNum at h
  split
  · rename_i c
    rw [if_pos c] at h
    exact absurd h Bool.false_ne_true
  · rename_i c
    split
    · exact e _ (fun z => c (Or.inr z))
    · rename_i c2
      exact e _ (fun z => c2 (Or.inr (Or.inr z)))
theorem sNum_R {T : Nat → Int32} {i : Nat} (h : (sNum T 0 i).1 = true) : ¬ pX6_isRoof (sNum T 0 i).2.1 = 0 := by
  have e : ∀ z, ¬ pX7_isNumber 0 z = 0 → ¬ pX6_isRoof z = 0 := fun z hz => by
    unfold pX7_isNumber at hz
    rw [if_pos rfl] at hz
    exact hz
  unfold sNum
  unfold sNum at h
  split
  · rename_i c
    rw [if_pos c] at h
    exact absurd h Bool.false_ne_true
  · rename_i c
    split
    · exact e _ (fun z => c (Or.inr z))
    · rename_i c2
      exact e _ (fun z => c2 (Or.inr (Or.inr z)))
/-- what a whole order tells -/
def OT (T : Nat → Int32) (i : Nat) : Prop := ((T i = 104 ∨ T i = 116 ∨ T i = 119) ∧ (∃ o k, o < 4 ∧ k < 28 ∧ ¬ pX7_isGangway (nI k) = 0 ∧ (sOrd T i).2.2.1 = nI o ∧ (sOrd T i).2.2.2 = nI k)) ∨ (T i = 99 ∧ ∃ k, k < 16 ∧ (sOrd T i).2.2.1 = nI k) ∨ T i = 100
theorem sOrd_OT {T : Nat → Int32} {i : Nat} (h : (sOrd T i).1 = true) : OT T i := by
  by_cases c : T i = 104 ∨ T i = 116 ∨ T i = 119
  · refine Or.inl ⟨c, ?_⟩
    have e : sOrd T i = sPair T i := if_pos c
    rw [e] at h ⊢
    obtain ⟨p1, p2⟩ := sPair_ok h
    obtain ⟨o, ho, e1⟩ := vp_in_of p1 (by decide)
    obtain ⟨k, hk, e2⟩ := vp_in_of p2 (by decide)
    refine ⟨o, k, ho, hk, ?_, e1, e2⟩
    rw [← e2]
    unfold sPair at h ⊢
    split
    · rename_i c1
      rw [if_pos c1] at h
      exact absurd h Bool.false_ne_true
    · rename_i c1
      rw [if_neg c1] at h
      split
      · rename_i c2
        rw [if_pos c2] at h
        split
        · rename_i c3
          exact sNum_G c3
        · rename_i c3
          rw [if_neg c3] at h
          exact absurd h Bool.false_ne_true
      · rename_i c2
        rw [if_neg c2] at h
        exact absurd h Bool.false_ne_true
  · unfold OT
    unfold sOrd at h ⊢
    rw [if_neg c] at h ⊢
    by_cases c1 : T i = 99
    · rw [if_pos c1] at h ⊢
      by_cases c2 : (sNum T 0 (i + 1)).1 = true
      · rw [if_pos c2]
        exact Or.inr (Or.inl ⟨c1, wi_roof (sNum_R c2)⟩)
      · rw [if_neg c2] at h
        exact absurd h Bool.false_ne_true
    · rw [if_neg c1] at h
      by_cases c2 : T i = 100
      · exact Or.inr (Or.inr c2)
      · rw [if_neg c2] at h
        exact absurd h Bool.false_ne_true
/-- one order carried out on both sides -/
def CO (c : Int32) (z : Int32) : Prop := (10 ≤ z ∧ c = 0) ∨ (¬ 10 ≤ z ∧ c = z ∧ ¬ c = 0)
theorem CO_cause {z : Int32} (hz : ¬ z = 0) : CO (pX6_causeIn z) z := by
  unfold pX6_causeIn CO
  by_cases c : z < 10
  · rw [if_pos c]
    exact Or.inr ⟨Int32.not_le.mpr c, rfl, hz⟩
  · rw [if_neg c]
    exact Or.inl ⟨Int32.not_lt.mp c, rfl⟩
theorem w_does (H : RC N u w (m 0)) (hN : N < 900000) {o k : Nat} (hl : ((x 10 = 104 ∨ x 10 = 116 ∨ x 10 = 119) ∧ o < 4 ∧ k < 28 ∧ ¬ pX7_isGangway (nI k) = 0 ∧ x 11 = nI o ∧ x 12 = nI k ∧ rd 4 = nI o ∧ rd 5 = nI k) ∨ (x 10 = 99 ∧ k < 16 ∧ x 11 = nI k ∧ rd 5 = nI k) ∨ x 10 = 100) (h3 : rd 3 = x 10) : RC (N + 2) (pX6_carryOutOrder rt sg pw rd u w h r v tu tw su sw g).2.1 (pX6_carryOutOrder rt sg pw rd u w h r v tu tw su sw g).2.2 ((pX7_doesOrder m x).2.1 0) ∧ CO (pX6_carryOutOrder rt sg pw rd u w h r v tu tw su sw g).1 (pX7_doesOrder m x).1 := by
  unfold pX6_carryOutOrder pX7_doesOrder
  rw [h3]
  rcases hl with ⟨hl, ho, hk, hg, e1, e2, e3, e4⟩ | ⟨hl, hk, e1, e2⟩ | hl
  · have n99 : ¬ x 10 = 99 := by rcases hl with z | z | z <;> rw [z] <;> decide
    rw [if_neg n99, if_neg n99, e1, e2, e3, e4]
    by_cases c1 : x 10 = 104
    · rw [if_pos c1, if_pos c1]
      obtain ⟨q1, q2, q3⟩ := w_hang (v := x) H ho hk
      refine ⟨RC_cg q2 (by omega) (fun _ _ => rfl), ?_⟩
      dsimp only
      rw [q1]
      exact CO_cause q3
    · rw [if_neg c1, if_neg c1]
      by_cases c2 : x 10 = 116
      · rw [if_pos c2, if_pos c2]
        obtain ⟨q1, q2, q3⟩ := w_take (v := x) H (by omega) ho hk
        refine ⟨RC_cg q2 (by omega) (fun _ _ => rfl), ?_⟩
        dsimp only
        rw [q1]
        exact CO_cause q3
      · have c3 : x 10 = 119 := (hl.resolve_left c1).resolve_left c2
        rw [if_neg c2, if_neg c2, if_pos c3, if_pos c3]
        have es := e_stands (x := x) H ho hk (by rw [isG_eq]; exact hg)
        by_cases c4 : pX0_standsAt u w (nI o) (nI k) = 0
        · rw [if_pos c4, if_pos (es.mp c4)]
          exact ⟨RC_cg H (by omega) (fun _ _ => rfl), Or.inr ⟨show ¬ (10 : Int32) ≤ -2 by decide, rfl, show ¬ (-2 : Int32) = 0 by decide⟩⟩
        · rw [if_neg c4, if_neg (fun z => c4 (es.mpr z))]
          obtain ⟨q1, q2, q3⟩ := w_walk (v := x) H ho hk
          refine ⟨RC_cg q2 (by omega) (fun _ _ => rfl), ?_⟩
          dsimp only
          rw [q1]
          exact CO_cause q3
  · rw [if_pos hl, if_pos hl, e1, e2]
    obtain ⟨q1, q2, q3⟩ := w_chimney (x := x) H hk
    refine ⟨RC_cg q1 (by omega) (fun _ _ => rfl), Or.inl ⟨?_, rfl⟩⟩
    dsimp only
    rw [q3, ones_ct]
    exact Int32.not_lt.mp (ten_ge (by have := fb_ct_le (bt (pX7_smoke (pX7_goChimney m x (nI k)).2.1 x)) 16; omega))
  · have n1 : ¬ x 10 = 99 := by rw [hl]; decide
    have n2 : ¬ x 10 = 104 := by rw [hl]; decide
    have n3 : ¬ x 10 = 116 := by rw [hl]; decide
    have n4 : ¬ x 10 = 119 := by rw [hl]; decide
    rw [if_neg n1, if_neg n1, if_neg n2, if_neg n2, if_neg n3, if_neg n3, if_neg n4, if_neg n4]
    obtain ⟨q1, q2, q3⟩ := w_day (v := x) H (by omega)
    generalize pX7_goDay m x = z at q1 q2 q3 ⊢
    generalize pX0_passDay u w = y at q1 ⊢
    refine ⟨q1, Or.inl ⟨?_, rfl⟩⟩
    dsimp only
    rw [q2, c7_clean q1 (by omega)]
    exact Int32.not_lt.mp (ten_ge (by have := fb_ct_le (clB (z.2.1 0)) 28; omega))
/-- the class's next order -/
theorem rd_next {i : Nat} (h1 : rd 1 = nI i) (hp : pw 1 = nI n) (hn : n ≤ 60) (hch : CH sg) (hi : i < n) (hs : sOK (sg 0) n i) : (pX2_readNext rd sg pw).1 = 1 ∧ (pX2_readNext rd sg pw).2 1 = nI (if (sOrd (tx (sg 0) n 0) i).2.1 < n then (sOrd (tx (sg 0) n 0) i).2.1 + 1 else (sOrd (tx (sg 0) n 0) i).2.1) ∧ (pX2_readNext rd sg pw).2 2 = nI i ∧ (pX2_readNext rd sg pw).2 3 = tx (sg 0) n 0 i ∧ (tx (sg 0) n 0 i = 104 ∨ tx (sg 0) n 0 i = 116 ∨ tx (sg 0) n 0 i = 119 → (pX2_readNext rd sg pw).2 4 = (sOrd (tx (sg 0) n 0) i).2.2.1 ∧ (pX2_readNext rd sg pw).2 5 = (sOrd (tx (sg 0) n 0) i).2.2.2) ∧ (tx (sg 0) n 0 i = 99 → (pX2_readNext rd sg pw).2 5 = (sOrd (tx (sg 0) n 0) i).2.2.1) := by
  obtain ⟨a1, a2, a3, a4, a5⟩ := rd_order h1 hp hn hch (show i < 800 by omega)
  obtain ⟨s1, s2⟩ := sOK_step (by omega) hn hs
  have hb := sOrd_n s1
  rw [sOrd_e] at a1 a2 a5
  rw [tx_44 hi] at a4 a5
  rw [if_pos s1] at a1
  obtain ⟨b1, b2⟩ := a5 s1
  unfold pX2_readNext
  rw [h1, hp, if_pos (nI_lt hi (by omega))]
  generalize pX2_readOrder rd sg pw = z at a1 a2 a3 a4 b1 b2 ⊢
  rw [a1]
  dsimp only
  rw [rd_sign a2 hp hn (by omega)]
  by_cases c : (sOrd (tx (sg 0) n 0) i).2.1 < n
  · rw [tx_44 c, if_pos (s2 c).1, if_pos c]
    exact ⟨rfl, rfl, a3, a4, b1, b2⟩
  · rw [tx_out c, if_neg (show ¬ (32 : Int32) = 44 by decide), if_neg c]
    exact ⟨rfl, a2, a3, a4, b1, b2⟩
def RZ (rt : Nat → Int32) (m : Nat → Nat → Int32) (x : Nat → Int32) : Prop := rt 8 = x 13 ∧ (¬ rt 8 = 0 → rt 9 = m 5 0 ∧ rt 10 = m 5 1 ∧ rt 11 = m 5 2)
def SIM (N n : Nat) (rt0 : Nat → Int32) (m0 : Nat → Nat → Int32) (x0 : Nat → Int32) (sg : Nat → Nat → Int32) (pw : Nat → Int32) (hh : Nat → (Nat → Nat → Int32) × (Nat → Int32)) (rr : Nat) (vv : Nat → Int32) (c : Int32 × (Nat → Int32) × (Nat → Nat → Int32) × (Nat → Int32) × (Nat → Int32) × (Nat → (Nat → Nat → Int32) × (Nat → Int32)) × Nat × (Nat → Int32) × (Nat → Nat → Int32) × (Nat → Int32)) (z : Int32 × (Nat → Nat → Int32) × (Nat → Int32)) : Prop := ∃ (cf : Int32) (rtf rdf : Nat → Int32) (uf : Nat → Nat → Int32) (wf : Nat → Int32) (mf : Nat → Nat → Int32) (xf : Nat → Int32), c = (cf, rtf, sg, pw, rdf, hh, rr, vv, uf, wf) ∧ z = (cf, mf, xf) ∧ RC N uf wf (mf 0) ∧ (∀ k, k ≠ 0 → k ≠ 5 → mf k = m0 k) ∧ xf 3 = x0 3 ∧ xf 5 = x0 5 ∧ xf 7 = 0 ∧ rtf 3 = rt0 3 ∧ RZ rtf mf xf
theorem run_out {N1 : Nat} {m0 : Nat → Nat → Int32} {x0 : Nat → Int32} {rt1 rd1 : Nat → Int32} {u1 : Nat → Nat → Int32} {w1 : Nat → Int32} {m1 : Nat → Nat → Int32} {x1 : Nat → Int32} {k k7 cnt : Nat} {ct : Int32} (hR : RC N1 u1 w1 (m1 0)) (hz : RZ rt1 m1 x1) (hend : ¬ rt1 8 = 0 ∨ (x1 7 ≤ x1 8 ∧ ¬ rd1 1 < pw 1)) (h7 : 1 ≤ k7) : SIM N1 n rt1 m1 x1 sg (va_up pw 1 0) (va_up h ((r + 3) % 4) (u, w)) ((r + 3) % 4) (va_up v 1 (if 4 < ((v 1) + (1 : Int32)) then 4 else ((v 1) + (1 : Int32)))) (pX6_run_L42 rt sg pw rd u w h r v tu tw su sw g k cnt ct rt1 rd1 u1 w1) (pX7_run_L26 m0 x0 kn n k7 ct m1 x1) := by
  obtain ⟨k7, rfl⟩ : ∃ q, k7 = q + 1 := ⟨k7 - 1, by omega⟩
  have e7 : pX7_run_L26 m0 x0 kn n (k7 + 1) ct m1 x1 = (ct, m1, va_up x1 7 0) := by
    rw [pX7_run_L26_s]
    by_cases c : x1 13 = 0
    · rw [if_pos c]
      rcases hend with q | q
      · exact absurd (hz.1.trans c) q
      · rw [if_pos q.1]
    · rw [if_neg c]
  have e6 : ∃ rdf, pX6_run_L42 rt sg pw rd u w h r v tu tw su sw g k cnt ct rt1 rd1 u1 w1 = (ct, rt1, sg, va_up pw 1 0, rdf, va_up h ((r + 3) % 4) (u, w), (r + 3) % 4, va_up v 1 (if 4 < ((v 1) + (1 : Int32)) then 4 else ((v 1) + (1 : Int32))), u1, w1) := by
    cases k with
    | zero => exact ⟨rd1, rfl⟩
    | succ k =>
      rw [pX6_run_L42_s]
      by_cases c : rt1 8 = 0
      · rw [if_pos c]
        rcases hend with q | q
        · exact absurd c q
        · have er : pX2_readNext rd1 sg pw = (0, rd1) := by
            unfold pX2_readNext
            rw [if_neg q.2]
          rw [er, if_pos rfl]
          exact ⟨_, rfl⟩
      · rw [if_neg c]
        exact ⟨_, rfl⟩
  obtain ⟨rdf, e6⟩ := e6
  exact ⟨ct, rt1, rdf, u1, w1, m1, va_up x1 7 0, e6, e7, hR, fun _ _ _ => rfl, rfl, rfl, rfl, rfl, hz⟩
theorem SIM_k {N1 N2 : Nat} {rt0 rt1 : Nat → Int32} {m0 m1 : Nat → Nat → Int32} {x0 x1 : Nat → Int32} {c : Int32 × (Nat → Int32) × (Nat → Nat → Int32) × (Nat → Int32) × (Nat → Int32) × (Nat → (Nat → Nat → Int32) × (Nat → Int32)) × Nat × (Nat → Int32) × (Nat → Nat → Int32) × (Nat → Int32)} {z : Int32 × (Nat → Nat → Int32) × (Nat → Int32)} (S : SIM N1 n rt1 m1 x1 sg pw h r v c z) (hN : N1 ≤ N2) (hm : ∀ k, k ≠ 0 → k ≠ 5 → m1 k = m0 k) (h3 : x1 3 = x0 3) (h5 : x1 5 = x0 5) (hr : rt1 3 = rt0 3) : SIM N2 n rt0 m0 x0 sg pw h r v c z := by
  obtain ⟨cf, rtf, rdf, uf, wf, mf, xf, e1, e2, e3, e4, e5, e6, e7, e8, e9⟩ := S
  exact ⟨cf, rtf, rdf, uf, wf, mf, xf, e1, e2, RC_cg e3 hN (fun _ _ => rfl), fun k k0 k5 => (e4 k k0 k5).trans (hm k k0 k5), e5.trans h3, e6.trans h5, e7, e8.trans hr, e9⟩
theorem run_sim {m0 : Nat → Nat → Int32} {x0 : Nat → Int32} (hp : pw 1 = nI n) (hn : n ≤ 60) (hch : CH sg) : ∀ (j k k7 cnt i i7 N1 : Nat) (rt1 rd1 : Nat → Int32) (u1 : Nat → Nat → Int32) (w1 : Nat → Int32) (m1 : Nat → Nat → Int32) (x1 : Nat → Int32), n ≤ i + j → j ≤ k → j + 1 ≤ k7 → i ≤ 100 → rt1 8 = 0 → x1 13 = 0 → RC N1 u1 w1 (m1 0) → N1 + 2 * j < 900000 → rd1 1 = nI i → x1 8 = nI i7 → ((i = i7 ∧ (i < n → sOK (sg 0) n i)) ∨ (n ≤ i ∧ n ≤ i7 ∧ i7 ≤ 100)) → x1 7 = nI n → x1 9 = 1 → (∀ q, q < n → sg 0 q = m1 4 q) →
    SIM (N1 + 2 * j) n rt1 m1 x1 sg (va_up pw 1 0) (va_up h ((r + 3) % 4) (u, w)) ((r + 3) % 4) (va_up v 1 (if 4 < ((v 1) + (1 : Int32)) then 4 else ((v 1) + (1 : Int32)))) (pX6_run_L42 rt sg pw rd u w h r v tu tw su sw g k cnt (nI cnt) rt1 rd1 u1 w1) (pX7_run_L26 m0 x0 kn n k7 (nI cnt) m1 x1) := by
  intro j
  induction j with
  | zero =>
    intro k k7 cnt i i7 N1 rt1 rd1 u1 w1 m1 x1 hj hk h7 hi hr8 h13 hR hN h1 h8 hpos hx7 hx9 ht
    have q : n ≤ i7 ∧ i7 ≤ 100 := by
      rcases hpos with z | z
      · exact ⟨by omega, by omega⟩
      · exact z.2
    exact run_out hR ⟨hr8.trans h13.symm, fun z => absurd hr8 z⟩ (Or.inr ⟨by rw [hx7, h8]; exact nI_le q.1 (by omega), by rw [h1, hp]; exact nI_nlt (by omega) (by omega)⟩) (by omega)
  | succ j ih =>
    intro k k7 cnt i i7 N1 rt1 rd1 u1 w1 m1 x1 hj hk h7 hi hr8 h13 hR hN h1 h8 hpos hx7 hx9 ht
    by_cases hin : i < n
    · obtain ⟨rfl, hs⟩ : i = i7 ∧ (i < n → sOK (sg 0) n i) := by
        rcases hpos with z | z
        · exact z
        · omega
      have hs := hs hin
      obtain ⟨s1, s2⟩ := sOK_step (by omega) hn hs
      have hb := sOrd_n s1
      obtain ⟨r1, r2, r3, r4, r5, r6⟩ := rd_next h1 hp hn hch hin hs
      have et : tx (sg 0) n 0 = tx (m1 4) n 0 := sTxt_cg ht
      obtain ⟨k, rfl⟩ : ∃ q, k = q + 1 := ⟨k - 1, by omega⟩
      obtain ⟨k7, rfl⟩ : ∃ q, k7 = q + 1 := ⟨k7 - 1, by omega⟩
      have ew := W5_id h8
      rw [hx9] at ew
      obtain ⟨A, B, eo, ef⟩ := order_W5 m1 hx7 hn (i := i) (by omega) (x1 10) (x1 11) (x1 12)
      rw [← ew, ← et, if_pos s1] at eo
      rw [← et] at ef
      rw [pX6_run_L42_s, pX7_run_L26_s, if_pos hr8, r1, if_neg (show ¬ (1 : Int32) = 0 by decide), if_pos h13, if_neg (show ¬ x1 7 ≤ x1 8 by rw [hx7, h8]; exact nI_ge hin (by omega)), eo]
      have ey : va_up (W5 x1 (sOrd (tx (sg 0) n 0) i).2.1 1 (tx (sg 0) n 0 i) A B) 8 (W5 x1 (sOrd (tx (sg 0) n 0) i).2.1 1 (tx (sg 0) n 0 i) A B 8 + (1 : Int32)) = W5 x1 ((sOrd (tx (sg 0) n 0) i).2.1 + 1) 1 (tx (sg 0) n 0 i) A B := by
        rw [W5_8, nI_1, W5_u8]
      dsimp only
      rw [ey, h8]
      have hot := sOrd_OT s1
      generalize pX2_readNext rd1 sg pw = zn at r1 r2 r3 r4 r5 r6 ⊢
      have hx10 : W5 x1 ((sOrd (tx (sg 0) n 0) i).2.1 + 1) 1 (tx (sg 0) n 0 i) A B 10 = tx (sg 0) n 0 i := rfl
      have hx11 : W5 x1 ((sOrd (tx (sg 0) n 0) i).2.1 + 1) 1 (tx (sg 0) n 0 i) A B 11 = A := rfl
      have hx12 : W5 x1 ((sOrd (tx (sg 0) n 0) i).2.1 + 1) 1 (tx (sg 0) n 0 i) A B 12 = B := rfl
      have hx8' : W5 x1 ((sOrd (tx (sg 0) n 0) i).2.1 + 1) 1 (tx (sg 0) n 0 i) A B 8 = nI ((sOrd (tx (sg 0) n 0) i).2.1 + 1) := rfl
      have hx9' : W5 x1 ((sOrd (tx (sg 0) n 0) i).2.1 + 1) 1 (tx (sg 0) n 0 i) A B 9 = 1 := rfl
      have hxk : ∀ k, k < 8 ∨ 12 < k → W5 x1 ((sOrd (tx (sg 0) n 0) i).2.1 + 1) 1 (tx (sg 0) n 0 i) A B k = x1 k := fun k hk => W5_k _ _ _ _ _ _ hk
      generalize W5 x1 ((sOrd (tx (sg 0) n 0) i).2.1 + 1) 1 (tx (sg 0) n 0 i) A B = y at hx10 hx11 hx12 hx8' hx9' hxk ⊢
      have hd : ∃ o q, ((y 10 = 104 ∨ y 10 = 116 ∨ y 10 = 119) ∧ o < 4 ∧ q < 28 ∧ ¬ pX7_isGangway (nI q) = 0 ∧ y 11 = nI o ∧ y 12 = nI q ∧ zn.2 4 = nI o ∧ zn.2 5 = nI q) ∨ (y 10 = 99 ∧ q < 16 ∧ y 11 = nI q ∧ zn.2 5 = nI q) ∨ y 10 = 100 := by
        rw [hx10, hx11, hx12]
        rcases hot with ⟨l1, o, q, ho, hq, hG, f1, f2⟩ | ⟨l1, q, hq, f1⟩ | l1
        · have n1 : ¬ tx (sg 0) n 0 i = 99 := by rcases l1 with z | z | z <;> rw [z] <;> decide
          have n2 : ¬ tx (sg 0) n 0 i = 100 := by rcases l1 with z | z | z <;> rw [z] <;> decide
          obtain ⟨g1, g2⟩ := ef s1 n2
          obtain ⟨g3, g4⟩ := r5 l1
          exact ⟨o, q, Or.inl ⟨l1, ho, hq, hG, g1.trans f1, (g2 n1).trans f2, g3.trans f1, g4.trans f2⟩⟩
        · have n2 : ¬ tx (sg 0) n 0 i = 100 := by rw [l1]; decide
          exact ⟨0, q, Or.inr (Or.inl ⟨l1, hq, (ef s1 n2).1.trans f1, (r6 l1).trans f1⟩)⟩
        · exact ⟨0, 0, Or.inr (Or.inr l1)⟩
      obtain ⟨o, q, hd⟩ := hd
      obtain ⟨d1, d2⟩ := w_does (rt := rt1) (sg := sg) (pw := pw) (rd := zn.2) (h := va_up h ((r + 3) % 4) (u, w)) (r := (r + 3) % 4) (v := va_up v 1 (if 4 < ((v 1) + (1 : Int32)) then 4 else ((v 1) + (1 : Int32)))) (tu := tu) (tw := tw) (su := su) (sw := sw) (g := g) hR (by omega) hd (r4.trans hx10.symm)
      have k0 := K0_does m1 y
      generalize pX6_carryOutOrder rt1 sg pw zn.2 u1 w1 (va_up h ((r + 3) % 4) (u, w)) ((r + 3) % 4) (va_up v 1 (if 4 < ((v 1) + (1 : Int32)) then 4 else ((v 1) + (1 : Int32)))) tu tw su sw g = cc at d1 d2 ⊢
      generalize pX7_doesOrder m1 y = dd at d1 d2 k0 ⊢
      obtain ⟨kw, km⟩ := k0
      rcases d2 with ⟨z1, z2⟩ | ⟨z1, z2, z3⟩
      · rw [if_pos z1, if_pos z2, nI_1]
        refine SIM_k (rt1 := rt1) (m1 := dd.2.1) (x1 := dd.2.2) (N1 := N1 + 2 + 2 * j) (ih k k7 (cnt + 1) (if (sOrd (tx (sg 0) n 0) i).2.1 < n then (sOrd (tx (sg 0) n 0) i).2.1 + 1 else (sOrd (tx (sg 0) n 0) i).2.1) ((sOrd (tx (sg 0) n 0) i).2.1 + 1) (N1 + 2) rt1 zn.2 cc.2.1 cc.2.2 dd.2.1 dd.2.2 (by split <;> omega) (by omega) (by omega) (by split <;> omega) hr8 (by rw [kw, hxk 13 (by omega)]; exact h13) d1 (by omega) r2 (by rw [kw]; exact hx8') ?_ (by rw [kw, hxk 7 (by omega)]; exact hx7) (by rw [kw]; exact hx9') (fun q hq => by rw [km 4 (by decide)]; exact ht q hq)) (by omega) (fun k a _ => km k a) (by rw [kw]; exact hxk 3 (by omega)) (by rw [kw]; exact hxk 5 (by omega)) rfl
        by_cases c : (sOrd (tx (sg 0) n 0) i).2.1 < n
        · rw [if_pos c]
          exact Or.inl ⟨rfl, fun _ => (s2 c).2⟩
        · rw [if_neg c]
          exact Or.inr ⟨by omega, by omega, by omega⟩
      · rw [if_neg z1, if_neg (show ¬ cc.1 = 0 from z3)]
        have hks : pX6_keepStop rt1 sg pw zn.2 cc.2.1 cc.2.2 (va_up h ((r + 3) % 4) (u, w)) ((r + 3) % 4) (va_up v 1 (if 4 < ((v 1) + (1 : Int32)) then 4 else ((v 1) + (1 : Int32)))) tu tw su sw g cc.1 (nI cnt) = va_up (va_up (va_up (va_up rt1 8 1) 9 cc.1) 10 (nI cnt)) 11 (zn.2 2) := rfl
        rw [hks]
        refine SIM_k (rt1 := va_up (va_up (va_up (va_up rt1 8 1) 9 cc.1) 10 (nI cnt)) 11 (zn.2 2)) (m1 := va_up dd.2.1 5 (upd (upd (upd (dd.2.1 5) 0 dd.1) 1 (nI cnt)) 2 (nI i))) (x1 := va_up dd.2.2 13 1) (N1 := N1 + 2) (run_out d1 ⟨rfl, fun _ => ⟨?_, ?_, ?_⟩⟩ (Or.inl (show ¬ (1 : Int32) = 0 by decide)) (by omega)) (by omega) (fun k a b => (va_up_ne _ _ b).trans (km k a)) ?_ ?_ rfl
        · show cc.1 = upd (upd (upd (dd.2.1 5) 0 dd.1) 1 (nI cnt)) 2 (nI i) 0
          rw [pk_un (by decide), pk_un (by decide), pk_us]
          exact z2
        · show nI cnt = upd (upd (upd (dd.2.1 5) 0 dd.1) 1 (nI cnt)) 2 (nI i) 1
          rw [pk_un (by decide), pk_us]
        · show zn.2 2 = upd (upd (upd (dd.2.1 5) 0 dd.1) 1 (nI cnt)) 2 (nI i) 2
          rw [pk_us]
          exact r3
        · show dd.2.2 3 = x1 3
          rw [kw]
          exact hxk 3 (by omega)
        · show dd.2.2 5 = x1 5
          rw [kw]
          exact hxk 5 (by omega)
    · have q : n ≤ i7 ∧ i7 ≤ 100 := by
        rcases hpos with z | z
        · exact ⟨by omega, by omega⟩
        · exact z.2
      exact SIM_k (run_out hR ⟨hr8.trans h13.symm, fun z => absurd hr8 z⟩ (Or.inr ⟨by rw [hx7, h8]; exact nI_le q.1 (by omega), by rw [h1, hp]; exact nI_nlt (by omega) (by omega)⟩) (by omega)) (by omega) (fun _ _ _ => rfl) rfl rfl rfl
theorem sOrd_le (T : Nat → Int32) (i : Nat) : (sOrd T i).2.1 ≤ i + 5 := by
  have e := fun b j => sNum_pos T b j
  have e1 := e 1 (i + 3)
  have e0 := e 0 (i + 1)
  unfold sOrd sPair
  (repeat' split) <;> dsimp only <;> omega
theorem sTxt_pos (f : Nat → Int32) (n : Nat) : ∀ k i : Nat, i ≤ n → n ≤ 1000 → (sTxt (tx f n 0) n k i).2 ≤ n + 5 := by
  intro k
  induction k with
  | zero =>
    intro i h1 h2
    show i ≤ n + 5
    omega
  | succ k ih =>
    intro i h1 h2
    have hl := sOrd_le (tx f n 0) i
    rw [sTxt_s]
    by_cases c1 : (sOrd (tx f n 0) i).1 = true
    · have hb := sOrd_n c1
      rw [if_pos c1]
      by_cases c2 : n ≤ (sOrd (tx f n 0) i).2.1
      · rw [if_pos c2]
        dsimp only
        omega
      · rw [if_neg c2]
        by_cases c3 : tx f n 0 (sOrd (tx f n 0) i).2.1 = 44
        · rw [if_pos c3]
          exact ih _ (by omega) h2
        · rw [if_neg c3]
          dsimp only
          omega
    · rw [if_neg c1]
      dsimp only
      omega
theorem q_run (H : RA N rt sg pw u w h r v su sw m x kn n) (hN : N < 800000) : (pX6_run rt sg pw rd u w h r v tu tw su sw g).1 = (pX7_run m x kn n).1 ∧ ∃ kn' n', RA (N + 120) (pX6_run rt sg pw rd u w h r v tu tw su sw g).2.1 (pX6_run rt sg pw rd u w h r v tu tw su sw g).2.2.1 (pX6_run rt sg pw rd u w h r v tu tw su sw g).2.2.2.1 (pX6_run rt sg pw rd u w h r v tu tw su sw g).2.2.2.2.2.2.2.2.1 (pX6_run rt sg pw rd u w h r v tu tw su sw g).2.2.2.2.2.2.2.2.2 (pX6_run rt sg pw rd u w h r v tu tw su sw g).2.2.2.2.2.1 (pX6_run rt sg pw rd u w h r v tu tw su sw g).2.2.2.2.2.2.1 (pX6_run rt sg pw rd u w h r v tu tw su sw g).2.2.2.2.2.2.2.1 su sw (pX7_run m x kn n).2.1 (pX7_run m x kn n).2.2 kn' n' := by
  have hcp := H
  obtain ⟨ha, hb, hc, ⟨d1, d2, d3, d4, d5⟩, he⟩ := hcp
  obtain ⟨A, B, C, ei⟩ := isText_eq m d3 d1
  have ef := rd_fault (rd := rd) d2 d1 d4
  have et : tx (sg 0) n 0 = tx (m 4) n 0 := sTxt_cg d5
  rw [et] at ef
  unfold pX6_run pX7_run
  rw [ef, ei]
  by_cases c : (sTxt (tx (m 4) n 0) n 198 0).1 = true
  · rw [if_pos c, if_pos c, if_pos rfl]
    dsimp only
    rw [if_neg (show ¬ (1 : Int32) = 0 by decide)]
    have hx3 : W5 x (sTxt (tx (m 4) n 0) n 198 0).2 1 A B C 3 = x 3 := W5_k _ _ _ _ _ _ (by omega)
    have hx5 : W5 x (sTxt (tx (m 4) n 0) n 198 0).2 1 A B C 5 = x 5 := W5_k _ _ _ _ _ _ (by omega)
    have hx7 : W5 x (sTxt (tx (m 4) n 0) n 198 0).2 1 A B C 7 = x 7 := W5_k _ _ _ _ _ _ (by omega)
    have hx9 : W5 x (sTxt (tx (m 4) n 0) n 198 0).2 1 A B C 9 = 1 := rfl
    have hx13 : W5 x (sTxt (tx (m 4) n 0) n 198 0).2 1 A B C 13 = x 13 := W5_k _ _ _ _ _ _ (by omega)
    generalize W5 x (sTxt (tx (m 4) n 0) n 198 0).2 1 A B C = y at hx3 hx5 hx7 hx9 hx13 ⊢
    have H2 : RA N rt sg pw u w h r v su sw m y kn n := ⟨ha, by rw [hx3]; exact hb, by rw [hx5]; exact hc, ⟨d1, d2, by rw [hx7]; exact d3, d4, d5⟩, by rw [hx13]; exact he⟩
    have hR := RA_rec H2
    have P := fun {u' w' m' x'} => RA_push (N' := N + 120) (u' := u') (w' := w') (m' := m') (x' := x') H2 (by omega)
    have w7 := rec_w m y kn (k := 7) (by decide)
    have w9 := rec_w m y kn (k := 9) (by decide)
    have m4 := rec_u m y kn (k := 4) (by decide)
    have w5 := rec_w m y kn (k := 5) (by decide)
    have m3 := rec_u m y kn (k := 3) (by decide)
    have S := run_sim (rt := rt) (rd := rd) (u := u) (w := w) (h := h) (r := r) (v := v) (tu := tu) (tw := tw) (su := su) (sw := sw) (g := g) (kn := kn) (m0 := m) (x0 := x) d2 d1 d4 60 60 200 0 0 0 N (va_up rt 8 0) (pX2_rewind (pX2_firstFault rd sg pw).2 sg pw) u w (pX7_records m y kn).1 (va_up (va_up (pX7_records m y kn).2 8 0) 13 0) (by omega) (by omega) (by omega) (by omega) rfl rfl hR (by omega) rfl rfl (Or.inl ⟨rfl, fun _ => by unfold sOK; rw [et]; exact c⟩) (w7.trans (hx7.trans d3)) (w9.trans hx9) (fun q hq => by rw [m4]; exact d5 q hq)
    rw [nI_0] at S
    generalize pX6_run_L42 rt sg pw rd u w h r v tu tw su sw g 60 0 0 (va_up rt 8 0) (pX2_rewind (pX2_firstFault rd sg pw).2 sg pw) u w = cc at S ⊢
    generalize pX7_run_L26 m x kn n 200 0 (pX7_records m y kn).1 (va_up (va_up (pX7_records m y kn).2 8 0) 13 0) = zz at S ⊢
    obtain ⟨cf, rtf, rdf, uf, wf, mf, xf, rfl, rfl, e3, e4, e5, e6, e7, e8, e9⟩ := S
    have PP := P (u' := uf) (w' := wf) (m' := va_up (pX7_records m y kn).1 0 (mf 0)) (x' := (pX7_records m y kn).2) e3 (fun k hk => va_up_ne _ _ hk) rfl
    obtain ⟨p1, p2, p3, -, -⟩ := PP
    have f2 : mf 2 = (pX7_records m y kn).1 2 := e4 2 (by decide) (by decide)
    have f3 : mf 3 = (pX7_records m y kn).1 3 := e4 3 (by decide) (by decide)
    have g3 : xf 3 = (pX7_records m y kn).2 3 := e5
    have g5 : xf 5 = (pX7_records m y kn).2 5 := e6
    refine ⟨rfl, (if kn = 4 then 4 else kn + 1), 0, p1, ?_, ?_, ⟨by omega, rfl, e7, d4, fun j hj => absurd hj (Nat.not_lt_zero j)⟩, e9⟩
    · dsimp only
      rw [f2, g3]
      exact p2
    · dsimp only
      rw [f3, g5, e8]
      exact p3
  · rw [if_neg c, if_neg c, if_neg (show ¬ nI (sTxt (tx (m 4) n 0) n 198 0).2 = -4 from ?_)]
    · dsimp only
      rw [if_pos rfl]
      have hx3 : W5 x (sTxt (tx (m 4) n 0) n 198 0).2 0 A B C 3 = x 3 := W5_k _ _ _ _ _ _ (by omega)
      have hx5 : W5 x (sTxt (tx (m 4) n 0) n 198 0).2 0 A B C 5 = x 5 := W5_k _ _ _ _ _ _ (by omega)
      have hx7 : W5 x (sTxt (tx (m 4) n 0) n 198 0).2 0 A B C 7 = x 7 := W5_k _ _ _ _ _ _ (by omega)
      have hx13 : W5 x (sTxt (tx (m 4) n 0) n 198 0).2 0 A B C 13 = x 13 := W5_k _ _ _ _ _ _ (by omega)
      generalize W5 x (sTxt (tx (m 4) n 0) n 198 0).2 0 A B C = y at hx3 hx5 hx7 hx13 ⊢
      refine ⟨rfl, kn, n, RA_mono (N := N) ⟨ha, ?_, ?_, ⟨d1, d2, ?_, d4, d5⟩, ?_⟩ (by omega)⟩
      · dsimp only
        rw [hx3]
        exact hb
      · dsimp only
        rw [hx5]
        exact hc
      · dsimp only
        rw [hx7]
        exact d3
      · dsimp only
        rw [hx13]
        exact he
    · intro z
      have hle := sTxt_pos (m 4) n 198 0 (by omega) (by omega)
      have h1 := congrArg Int32.toInt z
      rw [nI_toInt (by omega), show (-4 : Int32).toInt = -4 by decide] at h1
      omega
end RUN
