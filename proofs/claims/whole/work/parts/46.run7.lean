theorem rec_Lk (u : Nat → Nat → Int32) (w : Nat → Int32) (kn n k : Nat) (hk : k ≠ 2) : pX7_records_L10 u w kn n k = u k := by
  induction n with
  | zero => rfl
  | succ n ih =>
    rw [pX7_records_L10_s]
    exact (va_up_ne _ _ hk).trans ih
theorem rec_k1 {c : Prop} [Decidable c] {k : Nat} {z u : Nat → Nat → Int32} {a b : Nat → Int32} {x y : Nat → Int32} (hk : k ≠ 2) (h : z k = u k) : (if c then ((va_up z 2 a), x) else ((va_up u 2 b), y)).1 k = u k := by
  split
  · exact (va_up_ne _ _ hk).trans h
  · exact va_up_ne _ _ hk
theorem rec_u (u : Nat → Nat → Int32) (w : Nat → Int32) (kn : Nat) {k : Nat} (hk : k ≠ 2) : (pX7_records u w kn).1 k = u k := rec_k1 hk (rec_Lk u w kn 426 k hk)
theorem rec_w2 {c : Prop} [Decidable c] {k : Nat} {z u : Nat → Nat → Int32} {w : Nat → Int32} {x y : Int32} (hk : k ≠ 3) : (if c then (z, va_up w 3 x) else (u, va_up w 3 y)).2 k = w k := by
  split <;> exact va_up_ne _ _ hk
theorem rec_w (u : Nat → Nat → Int32) (w : Nat → Int32) (kn : Nat) {k : Nat} (hk : k ≠ 3) : (pX7_records u w kn).2 k = w k := rec_w2 hk
theorem TXT_rec {n kn : Nat} {u : Nat → Nat → Int32} {w : Nat → Int32} (h7 : w 7 = nI n) (hn : n ≤ 60) (h : ¬ (pX7_isText u w).1 = 0) : TXT n (pX7_records (pX7_isText u w).2.1 (pX7_isText u w).2.2 kn).1 (va_up (va_up (pX7_records (pX7_isText u w).2.1 (pX7_isText u w).2.2 kn).2 8 0) 13 0) := by
  obtain ⟨e1, e7, -, e9, e0⟩ := TXT_0 h7 hn h
  refine ⟨?_, hn, ?_, 0, rfl, by omega, fun _ => ?_⟩
  · exact (rec_w _ _ kn (k := 7) (by decide)).trans e7
  · exact (rec_w _ _ kn (k := 9) (by decide)).trans e9
  · rw [rec_u _ _ kn (k := 4) (by decide), e1]
    exact e0
theorem TXT_k {n : Nat} {u v : Nat → Nat → Int32} {w w' : Nat → Int32} (h : TXT n u w) (h4 : v 4 = u 4) (h7 : w' 7 = w 7) (h8 : w' 8 = w 8) (h9 : w' 9 = w 9) : TXT n v w' := by
  unfold TXT
  rw [h4, h7, h8, h9]
  exact h
theorem TXT_sp {n : Nat} {u : Nat → Nat → Int32} {w : Nat → Int32} (h : TXT n u w) : SP 61 w := by
  obtain ⟨_, hn, _, i, h8, hi, _⟩ := h
  exact ⟨i, h8, by omega⟩
theorem h7_l6 {n : Nat} {w : Nat → Int32} (h7 : w 7 = nI n) (hn : n ≤ 60) : w 7 ≤ 60 := by
  rw [h7]
  exact nI_le (b := 60) hn (by decide)
theorem TXT_6 {n : Nat} {u : Nat → Nat → Int32} {w : Nat → Int32} (h : TXT n u w) : w 7 ≤ 60 := h7_l6 h.1 h.2.1
theorem run_sp {n i i3 : Nat} {x : Int32} (hi : i < 1000) (h3 : i3 ≤ n + 1) (hn : n ≤ 60) (h : nI i < x) (e : x + (1 : Int32) = nI i3) : i + 1 < i3 := by
  rcases Nat.eq_zero_or_pos i3 with q | q
  · subst q
    have : x = -1 := by
      have h2 : x + (1 : Int32) + (-1 : Int32) = nI 0 + (-1 : Int32) := by rw [e]
      rw [Int32.add_assoc, show (1 : Int32) + (-1 : Int32) = 0 by decide, Int32.add_zero] at h2
      rw [h2]
      decide
    subst this
    have := Int32.lt_iff_toInt_lt.mp h
    rw [nI_toInt (by omega)] at this
    have e1 : (-1 : Int32).toInt = -1 := by decide
    omega
  · obtain ⟨k, rfl⟩ : ∃ k, i3 = k + 1 := ⟨i3 - 1, by omega⟩
    have : x = nI k := by
      have h2 : x + (1 : Int32) + (-1 : Int32) = nI k + (1 : Int32) + (-1 : Int32) := by rw [e, nI_1]
      rw [Int32.add_assoc, Int32.add_assoc, show (1 : Int32) + (-1 : Int32) = 0 by decide, Int32.add_zero, Int32.add_zero] at h2
      exact h2
    subst this
    have := Int32.lt_iff_toInt_lt.mp h
    rw [nI_toInt (by omega), nI_toInt (by omega)] at this
    omega
/-- a turn of the loop of run: what it keeps -/
theorem run_turn {n : Nat} {u : Nat → Nat → Int32} {w : Nat → Int32} (h : TXT n u w) (hc : ¬ w 7 ≤ w 8) (hl : LN u) (hm : u 0 2 ≤ 3) : OK7 (va_up (pX7_takesOrder u w).2 8 ((pX7_takesOrder u w).2 8 + (1 : Int32))) ∧ LN (pX7_takesOrder u w).1 ∧ (pX7_takesOrder u w).1 0 2 ≤ 3 ∧
    (∀ v w', v = (pX7_doesOrder (pX7_takesOrder u w).1 (va_up (pX7_takesOrder u w).2 8 ((pX7_takesOrder u w).2 8 + (1 : Int32)))).2.1 → w' = (pX7_doesOrder (pX7_takesOrder u w).1 (va_up (pX7_takesOrder u w).2 8 ((pX7_takesOrder u w).2 8 + (1 : Int32)))).2.2 → TXT n v w' ∧ LN v ∧ v 0 2 ≤ 3 ∧ (100 - (w' 8).toNatClampNeg) + 1 ≤ 100 - (w 8).toNatClampNeg) := by
  obtain ⟨t1, t2, t3, t4, t5⟩ := TXT_ord h hc
  have k0 := K0_does (pX7_takesOrder u w).1 (va_up (pX7_takesOrder u w).2 8 ((pX7_takesOrder u w).2 8 + (1 : Int32)))
  have ok : OK7 (va_up (pX7_takesOrder u w).2 8 ((pX7_takesOrder u w).2 8 + (1 : Int32))) := t1
  have iv := IV_does (u := (pX7_takesOrder u w).1) ok (by rw [t2]; exact hl)
  have s1 := TXT_sp h
  have s2 := h.2.1
  have t3c := t3
  obtain ⟨_, _, _, i3, e3, h3, _⟩ := t3c
  refine ⟨ok, by rw [t2]; exact hl, by rw [t2]; exact hm, fun v w' hv hw => ?_⟩
  have kw : w' = _ := hw.trans k0.1
  have kv : v 4 = u 4 := by rw [hv, k0.2 4 (by decide), t2]
  refine ⟨?_, by rw [hv]; exact iv.1, by rw [hv, iv.2, t2]; exact hm, ?_⟩
  · subst kw
    exact TXT_k ⟨t3.1, t3.2.1, t3.2.2.1, t3.2.2.2⟩ kv rfl rfl rfl
  · subst kw
    obtain ⟨_, _, _, i, e8, hi, _⟩ := h
    rw [show va_up (pX7_takesOrder u w).2 8 ((pX7_takesOrder u w).2 8 + (1 : Int32)) 8 = nI i3 from e3, e8, nI_clamp (by omega), nI_clamp (by omega)]
    have e3' : (pX7_takesOrder u w).2 8 + (1 : Int32) = nI i3 := e3
    have := run_sp (by omega) h3 s2 (e8 ▸ t5) e3'
    omega
def pX7_run_L26 (u : (Nat → Nat → Int32)) (w : (Nat → Int32)) (kn : Nat) (n : Nat) : Nat → Int32 → (Nat → Nat → Int32) → (Nat → Int32) → Int32 × (Nat → Nat → Int32) × (Nat → Int32)
  | 0, _, _, _ => (0, default, default)
  | k + 1, x0_1, u0_0, w0_0 => (if (w0_0 13) = 0 then (if (w0_0 7) ≤ (w0_0 8) then (x0_1, u0_0, (va_up w0_0 7 0)) else (if 10 ≤ (pX7_doesOrder (pX7_takesOrder u0_0 w0_0).1 (va_up (pX7_takesOrder u0_0 w0_0).2 8 (((pX7_takesOrder u0_0 w0_0).2 8) + (1 : Int32)))).1 then (pX7_run_L26 u w kn n k (x0_1 + (1 : Int32)) (pX7_doesOrder (pX7_takesOrder u0_0 w0_0).1 (va_up (pX7_takesOrder u0_0 w0_0).2 8 (((pX7_takesOrder u0_0 w0_0).2 8) + (1 : Int32)))).2.1 (pX7_doesOrder (pX7_takesOrder u0_0 w0_0).1 (va_up (pX7_takesOrder u0_0 w0_0).2 8 (((pX7_takesOrder u0_0 w0_0).2 8) + (1 : Int32)))).2.2) else (pX7_run_L26 u w kn n k x0_1 (va_up (pX7_doesOrder (pX7_takesOrder u0_0 w0_0).1 (va_up (pX7_takesOrder u0_0 w0_0).2 8 (((pX7_takesOrder u0_0 w0_0).2 8) + (1 : Int32)))).2.1 5 (upd (upd (upd ((pX7_doesOrder (pX7_takesOrder u0_0 w0_0).1 (va_up (pX7_takesOrder u0_0 w0_0).2 8 (((pX7_takesOrder u0_0 w0_0).2 8) + (1 : Int32)))).2.1 5) 0 (pX7_doesOrder (pX7_takesOrder u0_0 w0_0).1 (va_up (pX7_takesOrder u0_0 w0_0).2 8 (((pX7_takesOrder u0_0 w0_0).2 8) + (1 : Int32)))).1) 1 x0_1) 2 (w0_0 8))) (va_up (pX7_doesOrder (pX7_takesOrder u0_0 w0_0).1 (va_up (pX7_takesOrder u0_0 w0_0).2 8 (((pX7_takesOrder u0_0 w0_0).2 8) + (1 : Int32)))).2.2 13 1)))) else (x0_1, u0_0, (va_up w0_0 7 0)))
theorem pX7_run_L26_s (u : (Nat → Nat → Int32)) (w : (Nat → Int32)) (kn : Nat) (n : Nat) (k : Nat) (x0_1 : Int32) (u0_0 : (Nat → Nat → Int32)) (w0_0 : (Nat → Int32)) : pX7_run_L26 u w kn n (k + 1) x0_1 u0_0 w0_0 = (if (w0_0 13) = 0 then (if (w0_0 7) ≤ (w0_0 8) then (x0_1, u0_0, (va_up w0_0 7 0)) else (if 10 ≤ (pX7_doesOrder (pX7_takesOrder u0_0 w0_0).1 (va_up (pX7_takesOrder u0_0 w0_0).2 8 (((pX7_takesOrder u0_0 w0_0).2 8) + (1 : Int32)))).1 then (pX7_run_L26 u w kn n k (x0_1 + (1 : Int32)) (pX7_doesOrder (pX7_takesOrder u0_0 w0_0).1 (va_up (pX7_takesOrder u0_0 w0_0).2 8 (((pX7_takesOrder u0_0 w0_0).2 8) + (1 : Int32)))).2.1 (pX7_doesOrder (pX7_takesOrder u0_0 w0_0).1 (va_up (pX7_takesOrder u0_0 w0_0).2 8 (((pX7_takesOrder u0_0 w0_0).2 8) + (1 : Int32)))).2.2) else (pX7_run_L26 u w kn n k x0_1 (va_up (pX7_doesOrder (pX7_takesOrder u0_0 w0_0).1 (va_up (pX7_takesOrder u0_0 w0_0).2 8 (((pX7_takesOrder u0_0 w0_0).2 8) + (1 : Int32)))).2.1 5 (upd (upd (upd ((pX7_doesOrder (pX7_takesOrder u0_0 w0_0).1 (va_up (pX7_takesOrder u0_0 w0_0).2 8 (((pX7_takesOrder u0_0 w0_0).2 8) + (1 : Int32)))).2.1 5) 0 (pX7_doesOrder (pX7_takesOrder u0_0 w0_0).1 (va_up (pX7_takesOrder u0_0 w0_0).2 8 (((pX7_takesOrder u0_0 w0_0).2 8) + (1 : Int32)))).1) 1 x0_1) 2 (w0_0 8))) (va_up (pX7_doesOrder (pX7_takesOrder u0_0 w0_0).1 (va_up (pX7_takesOrder u0_0 w0_0).2 8 (((pX7_takesOrder u0_0 w0_0).2 8) + (1 : Int32)))).2.2 13 1)))) else (x0_1, u0_0, (va_up w0_0 7 0))) := rfl
def pX7_run (u : (Nat → Nat → Int32)) (w : (Nat → Int32)) (kn : Nat) (n : Nat) : Int32 × (Nat → Nat → Int32) × (Nat → Int32) := (if (pX7_isText u w).1 = 0 then ((-2), (pX7_isText u w).2.1, (pX7_isText u w).2.2) else (pX7_run_L26 u w kn n 200 0 (pX7_records (pX7_isText u w).2.1 (pX7_isText u w).2.2 kn).1 (va_up (va_up (pX7_records (pX7_isText u w).2.1 (pX7_isText u w).2.2 kn).2 8 0) 13 0)))
set_option maxHeartbeats 4000000 in
set_option maxRecDepth 100000 in
theorem kX7_run (l : Launch) (D : va_G) (cyC cyI cyO : ClassId) (A : Nat → Nat) (u : (Nat → Nat → Int32)) (w : (Nat → Int32)) (kn : Nat) (n : Nat) (hkn : kn ≤ 4) (hk : (w 3) = nI kn) (hm3 : ((u 0) 2) ≤ 3) (hln : LN u) (h7 : (w 7) = nI n) (hn : n ≤ 60) : MU l yX7_run (Ty yX7_run cX7_run 4 (some .int)) ({ frames := 7, cells := 0, slots := 0, locals := 156 } : Room) D cyC cyI cyO (wM cyI A u w) [.ref (A 0)] (some (.int (pX7_run u w kn n).1)) (wM cyI A (pX7_run u w kn n).2.1 (pX7_run u w kn n).2.2) := by
  intro sz
  refine Met.ofW (cc := cX7_run) (maxL := 4) (ret := (some .int)) (by decide) rfl ?_
  intro p e s m args below meth cd s₁ B hml hv
  obtain ⟨rfl, hsz, hP, hK, hD0⟩ := hv
  have hx := B.exec
  have hb := B.bytes
  have hr := B.returns
  have hts : ∀ w ∈ TB, w.before ([.ref (A 0)] : List Value).toArray s = true := fun w h => atoms_spec (ws := (Ty yX7_run cX7_run 4 (some .int))) B.pre w (List.mem_cons_of_mem _ h)
  have hown : s.vm.findClass RX7 = some m.cls := findClass_of_methodNamed B.named
  have hlocks := B.notSynchronized
  subst hsz
  have hD := hD0.self (sz := s.heap.size)
  have hA : ∀ q : Nat, s.heap.size ≤ q → (va_A (wM cyI A u w) s.heap.size) q := fun q h => Or.inr h
  generalize hAe : va_A (wM cyI A u w) s.heap.size = A0 at hD hA ⊢
  have hS : va_S A0 s.heap s.heap [] := va_S.rf
  have hl := lv_entry ([.ref (A 0)]) (n := 4) (Nat.le_of_ble_eq_true rfl)
  rw [lg_entry_eq]
  generalize (lg_sl ([.ref (A 0)]) ++ List.replicate (4 - (lg_sl ([.ref (A 0)])).length) Slot.unset).toArray = ls at hl ⊢
  have hl : lv_has ls 4 [(0, .ref (A 0))] := hl
  refine lv_aload_n hx hb dX7_run_0 rfl (lv_at hl 0 rfl) ?_
  obtain ⟨z_1, hz_1⟩ : ∃ q, q = (pX7_isText u w) := ⟨_, rfl⟩
  refine mV (ws := (wM cyI A u w)) (ws' := (wM cyI A z_1.2.1 z_1.2.2)) (As := []) (rest := []) hx hb hml hown hts hl.1 (WS := (wM cyI A u w)) (WS' := (wM cyI A z_1.2.1 z_1.2.2)) (ro := (some (.int z_1.1))) (by rw [hz_1]; exact kX7_isText l D cyC cyI cyO A u w (h7_l6 h7 hn)) bV_X7_isText  wml_RX7_182 ⟨rfl, rfl⟩ ⟨Nat.le_of_ble_eq_true rfl, Nat.le_of_ble_eq_true rfl, Nat.zero_le _, Nat.zero_le _⟩ [0, 1, 2, 3, 4, 5, 6] rfl rfl rfl rfl rfl hP hD hS hA hK 0 rfl rfl rfl rfl rfl (Nat.le_of_ble_eq_true rfl) dX7_run_1 (fun H locs hP hD hS => ?_)
  refine lv_if_ne (tgt := 10) hx hb dX7_run_4 (by decide) (fun c_2 => ?_) (fun c_2 => ?_)
  · refine lv_aload_n hx hb dX7_run_10 rfl (lv_at hl 0 rfl) ?_
    obtain ⟨z_3, hz_3⟩ : ∃ q, q = (pX7_records z_1.2.1 z_1.2.2 kn) := ⟨_, rfl⟩
    refine mV (ws := (wM cyI A z_1.2.1 z_1.2.2)) (ws' := (wM cyI A z_3.1 z_3.2)) (As := []) (rest := []) hx hb hml hown hts hl.1 (WS := (wM cyI A z_1.2.1 z_1.2.2)) (WS' := (wM cyI A z_3.1 z_3.2)) (ro := none) (by rw [hz_3]; exact kX7_recordsK l D cyC cyI cyO A z_1.2.1 z_1.2.2 kn hkn (by rw [hz_1]; exact ((TXT_0 h7 hn (by rw [← hz_1]; exact c_2)).2.2.1 3 (by decide)).trans hk)) bV_X7_records  wml_RX7_118 ⟨rfl, rfl⟩ ⟨Nat.le_of_ble_eq_true rfl, Nat.le_of_ble_eq_true rfl, Nat.zero_le _, Nat.zero_le _⟩ [0, 1, 2, 3, 4, 5, 6] rfl rfl rfl rfl rfl hP hD hS hA hK 0 rfl rfl rfl rfl rfl (Nat.le_of_ble_eq_true rfl) dX7_run_11 (fun H locs hP hD hS => ?_)
    refine lv_aload_n hx hb dX7_run_14 rfl (lv_at hl 0 rfl) ?_
    refine lv_iconst (v := 0) hx hb dX7_run_15 (by decide) ?_
    refine va_put (D := D) (ci := 6) (v := .int 0) (ty := .int) (C := RX7) (T := TX7) (N := 15) hx hb hts inT_X7 tyX7 tyX7_ok nmX7 hown hK.1 hP hD hS 0 rfl rfl 8 (by decide) (hts _ wfl_RX7_148) (fun _ h9 => h9) rfl (by decide +kernel) (by rfl) rfl (Nat.le_of_ble_eq_true rfl) dX7_run_16 (fun H locs hP hD hS => ?_)
    have hP : va_P D vwCl (wM cyI A z_3.1 (va_up z_3.2 8 0)) H := hP
    have hD : va_D A0 (wM cyI A z_3.1 (va_up z_3.2 8 0)) := hD
    refine lv_aload_n hx hb dX7_run_19 rfl (lv_at hl 0 rfl) ?_
    refine lv_iconst (v := 0) hx hb dX7_run_20 (by decide) ?_
    refine va_put (D := D) (ci := 6) (v := .int 0) (ty := .boolean) (C := RX7) (T := TX7) (N := 15) hx hb hts inT_X7 tyX7 tyX7_ok nmX7 hown hK.1 hP hD hS 0 rfl rfl 13 (by decide) (hts _ wfl_RX7_186) (fun _ h9 => h9) rfl (by decide +kernel) (by rfl) (by rfl) (Nat.le_of_ble_eq_true rfl) dX7_run_21 (fun H locs hP hD hS => ?_)
    have hP : va_P D vwCl (wM cyI A z_3.1 (va_up (va_up z_3.2 8 0) 13 0)) H := hP
    have hD : va_D A0 (wM cyI A z_3.1 (va_up (va_up z_3.2 8 0) 13 0)) := hD
    refine lv_iconst (v := 0) hx hb dX7_run_24 (by decide) ?_
    refine lv_istore_n (lv' := [(1, .int 0), (0, .ref (A 0))]) hx hb dX7_run_25 rfl hl (by decide) rfl (fun ls hl => ?_)
    have key_26 : ∀ k : Nat, ∀ (x0_1 : Int32) (u0_0 : (Nat → Nat → Int32)) (w0_0 : (Nat → Int32)), (if (w0_0 13) = 0 then 1 + (100 - ((w0_0 8)).toNatClampNeg) else 0) < k → pX7_run_L26 u w kn n k x0_1 u0_0 w0_0 = (pX7_run u w kn n) → TXT n u0_0 w0_0 → LN u0_0 → (((u0_0 0) 2) ≤ 3) → ∀ (H : Heap) (locs : List Loc), va_P D vwCl (wM cyI A u0_0 w0_0) H → va_D A0 (wM cyI A u0_0 w0_0) → va_S A0 s.heap H locs → ∀ (ls : Array Slot), lv_has ls 4 [(0, .ref (A 0)), (1, .int x0_1)] → W p l e (headSpec (Ty yX7_run cX7_run 4 (some .int)) ({ frames := 7, cells := 0, slots := 0, locals := 156 } : Room)).room s m ([.ref (A 0)] : List Value).toArray below meth cd H locs 0 0 (MQ below (MQQ (some (.int (pX7_run u w kn n).1)) D (wM cyI A (pX7_run u w kn n).2.1 (pX7_run u w kn n).2.2) A0) ([.ref (A 0)] : List Value).toArray s 0 0 A0) (F0 m 26 ls []) := by
      intro k
      induction k with
      | zero =>
        intro x0_1 u0_0 w0_0 hm_26 hN_26 htx hlni hm3i H locs hP hD hS ls hl
        exact absurd hm_26 (Nat.not_lt_zero _)
      | succ k ih_26 =>
        intro x0_1 u0_0 w0_0 hm_26 hN_26 htx hlni hm3i H locs hP hD hS ls hl
        refine lv_aload_n hx hb dX7_run_26 rfl (lv_at hl 0 rfl) ?_
        refine va_get (D := D) (ci := 6) (v := .int (w0_0 13)) (C := RX7) (T := TX7) (N := 15) hx hb hts inT_X7 hown hK.1 hP 0 rfl rfl 13 (by decide) (hts _ wfl_RX7_186) (fun _ h9 => h9) rfl dX7_run_27 ?_
        refine lv_if_ne (tgt := 109) hx hb dX7_run_30 (by decide) (fun c_4 => ?_) (fun c_4 => ?_)
        · refine lv_aload_n hx hb dX7_run_109 rfl (lv_at hl 0 rfl) ?_
          refine lv_iconst (v := 0) hx hb dX7_run_110 (by decide) ?_
          refine va_put (D := D) (ci := 6) (v := .int 0) (ty := .int) (C := RX7) (T := TX7) (N := 15) hx hb hts inT_X7 tyX7 tyX7_ok nmX7 hown hK.1 hP hD hS 0 rfl rfl 7 (by decide) (hts _ wfl_RX7_145) (fun _ h9 => h9) rfl (by decide +kernel) (by rfl) rfl (Nat.le_of_ble_eq_true rfl) dX7_run_111 (fun H locs hP hD hS => ?_)
          have hP : va_P D vwCl (wM cyI A u0_0 (va_up w0_0 7 0)) H := hP
          have hD : va_D A0 (wM cyI A u0_0 (va_up w0_0 7 0)) := hD
          refine lv_iload_n hx hb dX7_run_114 rfl (lv_at hl 1 rfl) ?_
          have e9 : (pX7_run u w kn n) = (x0_1, u0_0, (va_up w0_0 7 0)) := by rw [← hN_26, pX7_run_L26_s] <;> simp only [← hz_1, ← hz_3, if_neg c_4]
          have e9_0 : (pX7_run u w kn n).1 = x0_1 := by rw [e9]
          have e9_1 : (pX7_run u w kn n).2.1 = u0_0 := by rw [e9]
          have e9_2 : (pX7_run u w kn n).2.2 = (va_up w0_0 7 0) := by rw [e9]
          exact W.iret (v := x0_1) hx hb hr (fun t ht hW => ⟨⟨by rw [e9_0], by rw [e9_1, e9_2, ht]; exact hP⟩, hS.F ht⟩) hS.2.2 dX7_run_115
        · refine lv_aload_n hx hb dX7_run_33 rfl (lv_at hl 0 rfl) ?_
          refine va_get (D := D) (ci := 6) (v := .int (w0_0 8)) (C := RX7) (T := TX7) (N := 15) hx hb hts inT_X7 hown hK.1 hP 0 rfl rfl 8 (by decide) (hts _ wfl_RX7_148) (fun _ h9 => h9) rfl dX7_run_34 ?_
          refine lv_aload_n hx hb dX7_run_37 rfl (lv_at hl 0 rfl) ?_
          refine va_get (D := D) (ci := 6) (v := .int (w0_0 7)) (C := RX7) (T := TX7) (N := 15) hx hb hts inT_X7 hown hK.1 hP 0 rfl rfl 7 (by decide) (hts _ wfl_RX7_145) (fun _ h9 => h9) rfl dX7_run_38 ?_
          refine lv_icmp_ge (tgt := 109) hx hb dX7_run_41 (by decide) (fun c_5 => ?_) (fun c_5 => ?_)
          · refine lv_aload_n hx hb dX7_run_109 rfl (lv_at hl 0 rfl) ?_
            refine lv_iconst (v := 0) hx hb dX7_run_110 (by decide) ?_
            refine va_put (D := D) (ci := 6) (v := .int 0) (ty := .int) (C := RX7) (T := TX7) (N := 15) hx hb hts inT_X7 tyX7 tyX7_ok nmX7 hown hK.1 hP hD hS 0 rfl rfl 7 (by decide) (hts _ wfl_RX7_145) (fun _ h9 => h9) rfl (by decide +kernel) (by rfl) rfl (Nat.le_of_ble_eq_true rfl) dX7_run_111 (fun H locs hP hD hS => ?_)
            have hP : va_P D vwCl (wM cyI A u0_0 (va_up w0_0 7 0)) H := hP
            have hD : va_D A0 (wM cyI A u0_0 (va_up w0_0 7 0)) := hD
            refine lv_iload_n hx hb dX7_run_114 rfl (lv_at hl 1 rfl) ?_
            have e9 : (pX7_run u w kn n) = (x0_1, u0_0, (va_up w0_0 7 0)) := by rw [← hN_26, pX7_run_L26_s] <;> simp only [← hz_1, ← hz_3, if_pos c_4, if_pos c_5]
            have e9_0 : (pX7_run u w kn n).1 = x0_1 := by rw [e9]
            have e9_1 : (pX7_run u w kn n).2.1 = u0_0 := by rw [e9]
            have e9_2 : (pX7_run u w kn n).2.2 = (va_up w0_0 7 0) := by rw [e9]
            exact W.iret (v := x0_1) hx hb hr (fun t ht hW => ⟨⟨by rw [e9_0], by rw [e9_1, e9_2, ht]; exact hP⟩, hS.F ht⟩) hS.2.2 dX7_run_115
          · refine lv_aload_n hx hb dX7_run_44 rfl (lv_at hl 0 rfl) ?_
            refine va_get (D := D) (ci := 6) (v := .int (w0_0 8)) (C := RX7) (T := TX7) (N := 15) hx hb hts inT_X7 hown hK.1 hP 0 rfl rfl 8 (by decide) (hts _ wfl_RX7_148) (fun _ h9 => h9) rfl dX7_run_45 ?_
            refine lv_istore_n (lv' := [(2, .int (w0_0 8)), (0, .ref (A 0)), (1, .int x0_1)]) hx hb dX7_run_48 rfl hl (by decide) rfl (fun ls hl => ?_)
            refine lv_aload_n hx hb dX7_run_49 rfl (lv_at hl 1 rfl) ?_
            obtain ⟨z_6, hz_6⟩ : ∃ q, q = (pX7_takesOrder u0_0 w0_0) := ⟨_, rfl⟩
            refine mV (ws := (wM cyI A u0_0 w0_0)) (ws' := (wM cyI A z_6.1 z_6.2)) (As := []) (rest := []) hx hb hml hown hts hl.1 (WS := (wM cyI A u0_0 w0_0)) (WS' := (wM cyI A z_6.1 z_6.2)) (ro := none) (by rw [hz_6]; exact kX7_takesOrder l D cyC cyI cyO A u0_0 w0_0 (SP_le (TXT_sp htx) (by decide)) (TXT_6 htx)) bV_X7_takesOrder  wml_RX7_179 ⟨rfl, rfl⟩ ⟨Nat.le_of_ble_eq_true rfl, Nat.le_of_ble_eq_true rfl, Nat.zero_le _, Nat.zero_le _⟩ [0, 1, 2, 3, 4, 5, 6] rfl rfl rfl rfl rfl hP hD hS hA hK 0 rfl rfl rfl rfl rfl (Nat.le_of_ble_eq_true rfl) dX7_run_50 (fun H locs hP hD hS => ?_)
            refine lv_aload_n hx hb dX7_run_53 rfl (lv_at hl 1 rfl) ?_
            refine lv_dup hx hb dX7_run_54 rfl ?_
            refine va_get (D := D) (ci := 6) (v := .int (z_6.2 8)) (C := RX7) (T := TX7) (N := 15) hx hb hts inT_X7 hown hK.1 hP 0 rfl rfl 8 (by decide) (hts _ wfl_RX7_148) (fun _ h9 => h9) rfl dX7_run_55 ?_
            refine lv_iconst (v := 1) hx hb dX7_run_58 (by decide) ?_
            refine lv_iadd hx hb dX7_run_59 ?_
            refine va_put (D := D) (ci := 6) (v := .int ((z_6.2 8) + (1 : Int32))) (ty := .int) (C := RX7) (T := TX7) (N := 15) hx hb hts inT_X7 tyX7 tyX7_ok nmX7 hown hK.1 hP hD hS 0 rfl rfl 8 (by decide) (hts _ wfl_RX7_148) (fun _ h9 => h9) rfl (by decide +kernel) (by rfl) rfl (Nat.le_of_ble_eq_true rfl) dX7_run_60 (fun H locs hP hD hS => ?_)
            have hP : va_P D vwCl (wM cyI A z_6.1 (va_up z_6.2 8 ((z_6.2 8) + (1 : Int32)))) H := hP
            have hD : va_D A0 (wM cyI A z_6.1 (va_up z_6.2 8 ((z_6.2 8) + (1 : Int32)))) := hD
            refine lv_aload_n hx hb dX7_run_63 rfl (lv_at hl 1 rfl) ?_
            obtain ⟨z_7, hz_7⟩ : ∃ q, q = (pX7_doesOrder z_6.1 (va_up z_6.2 8 ((z_6.2 8) + (1 : Int32)))) := ⟨_, rfl⟩
            refine mV (ws := (wM cyI A z_6.1 (va_up z_6.2 8 ((z_6.2 8) + (1 : Int32))))) (ws' := (wM cyI A z_7.2.1 z_7.2.2)) (As := []) (rest := []) hx hb hml hown hts hl.1 (WS := (wM cyI A z_6.1 (va_up z_6.2 8 ((z_6.2 8) + (1 : Int32))))) (WS' := (wM cyI A z_7.2.1 z_7.2.2)) (ro := (some (.int z_7.1))) (by rw [hz_7]; exact kX7_doesOrder l D cyC cyI cyO A z_6.1 (va_up z_6.2 8 ((z_6.2 8) + (1 : Int32))) (by rw [hz_6]; exact (run_turn htx c_5 hlni hm3i).2.2.1) (by rw [hz_6]; exact (run_turn htx c_5 hlni hm3i).2.1) (by rw [hz_6]; exact (run_turn htx c_5 hlni hm3i).1)) bV_X7_doesOrder  wml_RX7_189 ⟨rfl, rfl⟩ ⟨Nat.le_of_ble_eq_true rfl, Nat.le_of_ble_eq_true rfl, Nat.zero_le _, Nat.zero_le _⟩ [0, 1, 2, 3, 4, 5, 6] rfl rfl rfl rfl rfl hP hD hS hA hK 0 rfl rfl rfl rfl rfl (Nat.le_of_ble_eq_true rfl) dX7_run_64 (fun H locs hP hD hS => ?_)
            refine lv_istore_n (lv' := [(3, .int z_7.1), (2, .int (w0_0 8)), (0, .ref (A 0)), (1, .int x0_1)]) hx hb dX7_run_67 rfl hl (by decide) rfl (fun ls hl => ?_)
            refine lv_iload_n hx hb dX7_run_68 rfl (lv_at hl 0 rfl) ?_
            refine lv_bipush (v := 10) hx hb dX7_run_69 (by decide) ?_
            refine lv_icmp_ge (tgt := 103) hx hb dX7_run_71 (by decide) (fun c_8 => ?_) (fun c_8 => ?_)
            · refine lv_iinc (v := (x0_1 + (1 : Int32))) (lv' := [(1, .int (x0_1 + (1 : Int32))), (3, .int z_7.1), (2, .int (w0_0 8)), (0, .ref (A 0))]) hx hb dX7_run_103 hl (k := 3) rfl rfl (by decide) rfl (fun ls hl => ?_)
              refine lv_goto (tgt := 26) hx hb dX7_run_106 (by decide) ?_
              exact ih_26  (x0_1 + (1 : Int32)) z_7.2.1 z_7.2.2 (by have h9 := ((run_turn htx c_5 hlni hm3i).2.2.2 z_7.2.1 z_7.2.2 (by rw [hz_7, hz_6]) (by rw [hz_7, hz_6])).2.2.2; rw [if_pos c_4] at hm_26; split <;> omega) (by rw [← hN_26, pX7_run_L26_s] <;> simp only [← hz_1, ← hz_3, ← hz_6, ← hz_7, if_pos c_4, if_neg c_5, if_pos c_8]) ((run_turn htx c_5 hlni hm3i).2.2.2 z_7.2.1 z_7.2.2 (by rw [hz_7, hz_6]) (by rw [hz_7, hz_6])).1 ((run_turn htx c_5 hlni hm3i).2.2.2 z_7.2.1 z_7.2.2 (by rw [hz_7, hz_6]) (by rw [hz_7, hz_6])).2.1 ((run_turn htx c_5 hlni hm3i).2.2.2 z_7.2.1 z_7.2.2 (by rw [hz_7, hz_6]) (by rw [hz_7, hz_6])).2.2.1 _ _ hP hD hS ls (lv_sub hl [3, 0] rfl)
            · refine lv_aload_n hx hb dX7_run_74 rfl (lv_at hl 2 rfl) ?_
              refine lv_iconst (v := 1) hx hb dX7_run_75 (by decide) ?_
              refine va_put (D := D) (ci := 6) (v := .int 1) (ty := .boolean) (C := RX7) (T := TX7) (N := 15) hx hb hts inT_X7 tyX7 tyX7_ok nmX7 hown hK.1 hP hD hS 0 rfl rfl 13 (by decide) (hts _ wfl_RX7_186) (fun _ h9 => h9) rfl (by decide +kernel) (by rfl) (by rfl) (Nat.le_of_ble_eq_true rfl) dX7_run_76 (fun H locs hP hD hS => ?_)
              have hP : va_P D vwCl (wM cyI A z_7.2.1 (va_up z_7.2.2 13 1)) H := hP
              have hD : va_D A0 (wM cyI A z_7.2.1 (va_up z_7.2.2 13 1)) := hD
              refine lv_aload_n hx hb dX7_run_79 rfl (lv_at hl 2 rfl) ?_
              refine va_get (D := D) (ci := 6) (v := .ref (A 6)) (C := RX7) (T := TX7) (N := 15) hx hb hts inT_X7 hown hK.1 hP 0 rfl rfl 14 (by decide) (hts _ wfl_RX7_25) (fun _ h9 => h9) rfl dX7_run_80 ?_
              refine lv_iconst (v := 0) hx hb dX7_run_83 (by decide) ?_
              refine lv_iload_n hx hb dX7_run_84 rfl (lv_at hl 0 rfl) ?_
              obtain ⟨z_9, hz_9⟩ : ∃ q, q = (upd (z_7.2.1 5) 0 z_7.1) := ⟨_, rfl⟩
              refine va_iast (D := D) (f := (z_7.2.1 5)) hx hb hK.1 hP hD hS 6 1 rfl rfl (vp_lit (by decide)) dX7_run_85 (fun H locs hP hD hS => ?_)
              have hP : va_P D vwCl (wM cyI A (va_up z_7.2.1 5 (upd (z_7.2.1 5) 0 z_7.1)) (va_up z_7.2.2 13 1)) H := hP
              have hD : va_D A0 (wM cyI A (va_up z_7.2.1 5 (upd (z_7.2.1 5) 0 z_7.1)) (va_up z_7.2.2 13 1)) := hD
              rw [← hz_9] at hP hD
              refine lv_aload_n hx hb dX7_run_86 rfl (lv_at hl 2 rfl) ?_
              refine va_get (D := D) (ci := 6) (v := .ref (A 6)) (C := RX7) (T := TX7) (N := 15) hx hb hts inT_X7 hown hK.1 hP 0 rfl rfl 14 (by decide) (hts _ wfl_RX7_25) (fun _ h9 => h9) rfl dX7_run_87 ?_
              refine lv_iconst (v := 1) hx hb dX7_run_90 (by decide) ?_
              refine lv_iload_n hx hb dX7_run_91 rfl (lv_at hl 3 rfl) ?_
              obtain ⟨z_10, hz_10⟩ : ∃ q, q = (upd z_9 1 x0_1) := ⟨_, rfl⟩
              refine va_iast (D := D) (f := z_9) hx hb hK.1 hP hD hS 6 1 rfl rfl (vp_lit (by decide)) dX7_run_92 (fun H locs hP hD hS => ?_)
              have hP : va_P D vwCl (wM cyI A (va_up z_7.2.1 5 (upd z_9 1 x0_1)) (va_up z_7.2.2 13 1)) H := hP
              have hD : va_D A0 (wM cyI A (va_up z_7.2.1 5 (upd z_9 1 x0_1)) (va_up z_7.2.2 13 1)) := hD
              rw [← hz_10] at hP hD
              refine lv_aload_n hx hb dX7_run_93 rfl (lv_at hl 2 rfl) ?_
              refine va_get (D := D) (ci := 6) (v := .ref (A 6)) (C := RX7) (T := TX7) (N := 15) hx hb hts inT_X7 hown hK.1 hP 0 rfl rfl 14 (by decide) (hts _ wfl_RX7_25) (fun _ h9 => h9) rfl dX7_run_94 ?_
              refine lv_iconst (v := 2) hx hb dX7_run_97 (by decide) ?_
              refine lv_iload_n hx hb dX7_run_98 rfl (lv_at hl 1 rfl) ?_
              obtain ⟨z_11, hz_11⟩ : ∃ q, q = (upd z_10 2 (w0_0 8)) := ⟨_, rfl⟩
              refine va_iast (D := D) (f := z_10) hx hb hK.1 hP hD hS 6 1 rfl rfl (vp_lit (by decide)) dX7_run_99 (fun H locs hP hD hS => ?_)
              have hP : va_P D vwCl (wM cyI A (va_up z_7.2.1 5 (upd z_10 2 (w0_0 8))) (va_up z_7.2.2 13 1)) H := hP
              have hD : va_D A0 (wM cyI A (va_up z_7.2.1 5 (upd z_10 2 (w0_0 8))) (va_up z_7.2.2 13 1)) := hD
              rw [← hz_11] at hP hD
              refine lv_goto (tgt := 106) hx hb dX7_run_100 (by decide) ?_
              refine lv_goto (tgt := 26) hx hb dX7_run_106 (by decide) ?_
              exact ih_26  x0_1 (va_up z_7.2.1 5 z_11) (va_up z_7.2.2 13 1) (by rw [if_pos c_4] at hm_26; rw [if_neg (show ¬ (va_up z_7.2.2 13 1) 13 = 0 from (by decide : ¬ (1 : Int32) = 0))]; omega) (by rw [← hN_26, pX7_run_L26_s] <;> simp only [← hz_1, ← hz_3, ← hz_6, ← hz_7, ← hz_9, ← hz_10, ← hz_11, if_pos c_4, if_neg c_5, if_neg c_8]) (TXT_k ((run_turn htx c_5 hlni hm3i).2.2.2 z_7.2.1 z_7.2.2 (by rw [hz_7, hz_6]) (by rw [hz_7, hz_6])).1 rfl rfl rfl rfl) ((run_turn htx c_5 hlni hm3i).2.2.2 z_7.2.1 z_7.2.2 (by rw [hz_7, hz_6]) (by rw [hz_7, hz_6])).2.1 ((run_turn htx c_5 hlni hm3i).2.2.2 z_7.2.1 z_7.2.2 (by rw [hz_7, hz_6]) (by rw [hz_7, hz_6])).2.2.1 _ _ hP hD hS ls (lv_sub hl [2, 3] rfl)
    exact key_26 200 0 z_3.1 (va_up (va_up z_3.2 8 0) 13 0) (by split <;> omega) (by simp only [pX7_run, ← hz_1, ← hz_3, if_neg c_2]) (by rw [hz_3, hz_1]; exact TXT_rec h7 hn (by rw [← hz_1]; exact c_2)) (by rw [hz_3, hz_1]; exact LN_rec (by rw [(TXT_0 h7 hn (by rw [← hz_1]; exact c_2)).1]; exact hln)) (by rw [hz_3, rec_u0, hz_1, (TXT_0 h7 hn (by rw [← hz_1]; exact c_2)).1]; exact hm3) _ _ hP hD hS ls (lv_sub hl [1, 0] rfl)
  · refine lv_bipush (v := (-2)) hx hb dX7_run_7 (by decide) ?_
    have e9 : (pX7_run u w kn n) = ((-2), z_1.2.1, z_1.2.2) := by simp only [pX7_run, ← hz_1, if_pos c_2]
    have e9_0 : (pX7_run u w kn n).1 = (-2) := by rw [e9]
    have e9_1 : (pX7_run u w kn n).2.1 = z_1.2.1 := by rw [e9]
    have e9_2 : (pX7_run u w kn n).2.2 = z_1.2.2 := by rw [e9]
    exact W.iret (v := (-2)) hx hb hr (fun t ht hW => ⟨⟨by rw [e9_0], by rw [e9_1, e9_2, ht]; exact hP⟩, hS.F ht⟩) hS.2.2 dX7_run_9
theorem bV_X7_run : BV RX7 yX7_run cX7_run 4 (some .int) 0 := ⟨wcd_X7_run, wim_X7_run, wse_X7_run, win_RX7, by decide +kernel⟩
