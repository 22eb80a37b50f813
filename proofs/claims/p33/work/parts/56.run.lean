/-! ===== run, order by order ===== -/
section RU
variable {rt : (Nat → Int32)} {sg : (Nat → Nat → Int32)} {pw : (Nat → Int32)} {rd : (Nat → Int32)} {u : (Nat → Nat → Int32)} {w : (Nat → Int32)} {h : (Nat → (Nat → Nat → Int32) × (Nat → Int32))} {r : Nat} {v : (Nat → Int32)} {tu : (Nat → Nat → Int32)} {tw : (Nat → Int32)} {su : (Nat → Nat → Int32)} {sw : (Nat → Int32)} {g : (Nat → Nat → Int32)} {n K : Nat}
/-- how a run ends: told orders done, all K of them or a stop -/
def EN (n K ct : Nat) (rt : Nat → Int32) (w w1 : Nat → Int32) : Prop := (ct = K ∧ rt 8 = 0 ∧ w1 18 = w 18) ∨ (ct < K ∧ ¬ rt 8 = 0 ∧ rt 10 = nI ct ∧ (∃ p, 2 * ct ≤ p ∧ p < n ∧ rt 11 = nI p) ∧ ((rt 9 = -2 ∧ w1 18 = w 18) ∨ ∃ c, 1 ≤ c ∧ c ≤ 9 ∧ rt 9 = nI c ∧ w1 18 = w 18 + (1 : Int32)))
def RE (B n K : Nat) (sg : Nat → Nat → Int32) (pw : Nat → Int32) (h : Nat → (Nat → Nat → Int32) × (Nat → Int32)) (r : Nat) (v : Nat → Int32) (u : Nat → Nat → Int32) (w : Nat → Int32) (rt1 : Nat → Int32) (Q : Int32 × (Nat → Int32) × (Nat → Nat → Int32) × (Nat → Int32) × (Nat → Int32) × (Nat → (Nat → Nat → Int32) × (Nat → Int32)) × Nat × (Nat → Int32) × (Nat → Nat → Int32) × (Nat → Int32)) : Prop := ∃ ct rtf rdf uf wf, Q = (nI ct, rtf, sg, va_up pw 1 0, rdf, va_up h ((r + 3) % 4) (u, w), (r + 3) % 4, VP v, uf, wf) ∧ CI B uf wf ∧ rtf 3 = rt1 3 ∧ EN n K ct rtf w wf
theorem RE_mono {B B1 : Nat} {rt1 : Nat → Int32} {Q : Int32 × (Nat → Int32) × (Nat → Nat → Int32) × (Nat → Int32) × (Nat → Int32) × (Nat → (Nat → Nat → Int32) × (Nat → Int32)) × Nat × (Nat → Int32) × (Nat → Nat → Int32) × (Nat → Int32)} (hB : B ≤ B1) (H : RE B n K sg pw h r v u w rt1 Q) : RE B1 n K sg pw h r v u w rt1 Q := by
  obtain ⟨ct, rtf, rdf, uf, wf, e, c, d⟩ := H
  exact ⟨ct, rtf, rdf, uf, wf, e, CI_mono hB c, d⟩
theorem run_out {k idx : Nat} {x : Int32} {rt1 rd1 : Nat → Int32} {u1 : Nat → Nat → Int32} {w1 : Nat → Int32} (hend : ¬ rt1 8 = 0 ∨ ¬ rd1 1 < pw 1) : ∃ rdf, pX6_run_L42 rt sg pw rd u w h r v tu tw su sw g k idx x rt1 rd1 u1 w1 = (x, rt1, sg, va_up pw 1 0, rdf, va_up h ((r + 3) % 4) (u, w), (r + 3) % 4, VP v, u1, w1) := by
  cases k with
  | zero => exact ⟨rd1, rfl⟩
  | succ k =>
    rw [pX6_run_L42_s]
    by_cases c : rt1 8 = 0
    · rw [if_pos c]
      rcases hend with q | q
      · exact absurd c q
      · have er : pX2_readNext rd1 sg pw = (0, rd1) := by
          unfold pX2_readNext
          rw [if_neg q]
        rw [er, if_pos rfl]
        exact ⟨_, rfl⟩
    · rw [if_neg c]
      exact ⟨_, rfl⟩
theorem run_ind (hp : pw 1 = nI n) (hn : n ≤ 60) (hch : CH sg) (hK : cm (tx (sg 0) n 0) n + 1 = K) : ∀ (j k cnt i B1 : Nat) (rt1 rd1 : Nat → Int32) (u1 : Nat → Nat → Int32) (w1 : Nat → Int32), n ≤ i + j → j ≤ k → i ≤ 100 → rt1 8 = 0 → rd1 1 = nI i → (i < n ∧ sOK (sg 0) n i ∧ cm (tx (sg 0) n 0) i = cnt ∧ 2 * cnt ≤ i) ∨ (n ≤ i ∧ cnt = K) → CI B1 u1 w1 → B1 + 2 * j < 1000000 → w1 18 = w 18 →
    RE (B1 + 2 * j) n K sg pw h r v u w rt1 (pX6_run_L42 rt sg pw rd u w h r v tu tw su sw g k cnt (nI cnt) rt1 rd1 u1 w1) := by
  intro j
  induction j with
  | zero =>
    intro k cnt i B1 rt1 rd1 u1 w1 hj hk hi h8 h1 hpos H hB h18
    obtain ⟨rdf, e⟩ := run_out (rt := rt) (sg := sg) (pw := pw) (rd := rd) (u := u) (w := w) (h := h) (r := r) (v := v) (tu := tu) (tw := tw) (su := su) (sw := sw) (g := g) (k := k) (idx := cnt) (x := nI cnt) (rt1 := rt1) (rd1 := rd1) (u1 := u1) (w1 := w1) (Or.inr (by rw [h1, hp]; exact nI_nlt (by omega) (by omega)))
    rcases hpos with q | q
    · omega
    · exact ⟨cnt, rt1, rdf, u1, w1, e, CI_mono (by omega) H, rfl, Or.inl ⟨q.2, h8, h18⟩⟩
  | succ j ih =>
    intro k cnt i B1 rt1 rd1 u1 w1 hj hk hi h8 h1 hpos H hB h18
    by_cases hin : i < n
    · obtain ⟨-, hs, hc, h2⟩ : i < n ∧ sOK (sg 0) n i ∧ cm (tx (sg 0) n 0) i = cnt ∧ 2 * cnt ≤ i := hpos.resolve_right (fun z => by omega)
      obtain ⟨s1, s2⟩ := sOK_step (by omega) hn hs
      have hb := sOrd_n s1
      obtain ⟨r1, r2, r3, r4, r5, r6⟩ := rd_next h1 hp hn hch hin hs
      have hot := sOrd_OT s1
      have hce := cm_order (T := tx (sg 0) n 0) (i := i) (e := (sOrd (tx (sg 0) n 0) i).2.1) (by omega) (fun j a b => sOrd_c s1 a b)
      have hcl := cm_le (T := tx (sg 0) n 0) (i := i) (n := n) (by omega)
      obtain ⟨k, rfl⟩ : ∃ q, k = q + 1 := ⟨k - 1, by omega⟩
      rw [pX6_run_L42_s, if_pos h8, r1, if_neg (show ¬ (1 : Int32) = 0 by decide)]
      generalize pX2_readNext rd1 sg pw = zn at r1 r2 r3 r4 r5 r6 ⊢
      have hd : RD zn.2 := by
        unfold RD
        rw [r4]
        rcases hot with ⟨l1, o, q, ho, hq, hG, f1, f2⟩ | ⟨l1, q, hq, f1⟩ | l1
        · obtain ⟨g3, g4⟩ := r5 l1
          exact Or.inl ⟨l1, o, q, ho, hq, gS hG, g3.trans f1, g4.trans f2⟩
        · exact Or.inr (Or.inl ⟨l1, q, hq, (r6 l1).trans f1⟩)
        · exact Or.inr (Or.inr l1)
      have ho := order_OO (rt := rt1) (sg := sg) (pw := pw) (rd := zn.2) (h := va_up h ((r + 3) % 4) (u, w)) (r := (r + 3) % 4) (v := va_up v 1 (if 4 < ((v 1) + (1 : Int32)) then 4 else ((v 1) + (1 : Int32)))) (tu := tu) (tw := tw) (su := su) (sw := sw) (g := g) H (by omega) hd
      generalize pX6_carryOutOrder rt1 sg pw zn.2 u1 w1 (va_up h ((r + 3) % 4) (u, w)) ((r + 3) % 4) (va_up v 1 (if 4 < ((v 1) + (1 : Int32)) then 4 else ((v 1) + (1 : Int32)))) tu tw su sw g = cc at ho ⊢
      obtain ⟨HC, hz⟩ := ho
      by_cases c0 : cc.1 = 0
      · have e18 : cc.2.2 18 = w1 18 := by
          rcases hz with z | z | ⟨q, q1, q2, z, -⟩
          · exact z.2
          · exact z.2
          · rw [c0] at z
            exact absurd z.symm (nI_ne0 (by omega) (by omega))
        rw [if_pos c0, nI_1]
        refine RE_mono (by omega) (ih k (cnt + 1) (if (sOrd (tx (sg 0) n 0) i).2.1 < n then (sOrd (tx (sg 0) n 0) i).2.1 + 1 else (sOrd (tx (sg 0) n 0) i).2.1) (B1 + 2) rt1 zn.2 cc.2.1 cc.2.2 (by split <;> omega) (by omega) (by split <;> omega) h8 r2 ?_ HC (by omega) (e18.trans h18))
        by_cases c : (sOrd (tx (sg 0) n 0) i).2.1 < n
        · obtain ⟨t1, t2⟩ := s2 c
          rw [if_pos c]
          by_cases c5 : (sOrd (tx (sg 0) n 0) i).2.1 + 1 < n
          · exact Or.inl ⟨c5, t2, by rw [cm_s t1, hce, hc], by omega⟩
          · exfalso
            have := sTxt_end _ _ t2
            omega
        · rw [if_neg c]
          have : (sOrd (tx (sg 0) n 0) i).2.1 = n := by omega
          rw [this] at hce
          exact Or.inr ⟨by omega, by omega⟩
      · rw [if_neg c0]
        obtain ⟨rdf, e⟩ := run_out (rt := rt) (sg := sg) (pw := pw) (rd := rd) (u := u) (w := w) (h := h) (r := r) (v := v) (tu := tu) (tw := tw) (su := su) (sw := sw) (g := g) (k := k) (idx := cnt + 1) (x := nI cnt) (rt1 := va_up (va_up (va_up (va_up rt1 8 1) 9 cc.1) 10 (nI cnt)) 11 (zn.2 2)) (rd1 := zn.2) (u1 := cc.2.1) (w1 := cc.2.2) (Or.inl (show ¬ (1 : Int32) = 0 by decide))
        refine ⟨cnt, _, rdf, cc.2.1, cc.2.2, e, CI_mono (by omega) HC, rfl, Or.inr ⟨by omega, show ¬ (1 : Int32) = 0 by decide, rfl, ⟨i, h2, hin, r3⟩, ?_⟩⟩
        rcases hz with z | z | ⟨q, q1, q2, z, y⟩
        · exact absurd z.1 c0
        · exact Or.inl ⟨z.1, z.2.trans h18⟩
        · exact Or.inr ⟨q, q1, q2, z, by rw [y, h18]⟩
    · have q := hpos.resolve_left (fun z => hin z.1)
      obtain ⟨rdf, e⟩ := run_out (rt := rt) (sg := sg) (pw := pw) (rd := rd) (u := u) (w := w) (h := h) (r := r) (v := v) (tu := tu) (tw := tw) (su := su) (sw := sw) (g := g) (k := k) (idx := cnt) (x := nI cnt) (rt1 := rt1) (rd1 := rd1) (u1 := u1) (w1 := w1) (Or.inr (by rw [h1, hp]; exact nI_nlt (by omega) (by omega)))
      exact ⟨cnt, rt1, rdf, u1, w1, e, CI_mono (by omega) H, rfl, Or.inl ⟨q.2, h8, h18⟩⟩
end RU
