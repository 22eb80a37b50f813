theorem vp_ad {x n i : Nat} (h : x + 142 ≤ n) (hi : i < 142) (hn : n < 1000) : vp_in (nI x + nI i) n := by
  rw [nI_add]
  exact vp_in_nI (by omega) (by omega)
theorem sh142 (i : Nat) : nI i + (142 : Int32) = nI (i + 142) := nI_add i 142
theorem vp_sh {i : Nat} (h : i < 426) : vp_in (nI i + (142 : Int32)) 568 := by
  rw [sh142]
  exact vp_in_nI (by omega) (by decide)
theorem kn4 {kn : Nat} (h : kn ≤ 4) (hc : nI kn = 4) : kn = 4 := (nI_eq (by omega) (by decide)).mp (hc : nI kn = nI 4)
theorem kn3 {kn : Nat} (h : kn ≤ 4) (hc : ¬ nI kn = 4) : kn ≤ 3 := by
  rcases Nat.lt_or_ge kn 4 with q | q
  · omega
  · exact absurd (show nI kn = 4 by rw [show kn = 4 by omega]; rfl) hc
theorem va_up_id {α : Type} {f : Nat → α} {k : Nat} {x : α} (h : f k = x) : va_up f k x = f := by
  funext j
  unfold va_up
  split
  · rename_i e
    rw [e, h]
  · rfl
def FU : Nat := 4294967298
def SB (a b : Int32) : Prop := a ||| b = b
def tn (x : Int32) : Nat := x.toBitVec.toNat
theorem SB_rf (x : Int32) : SB x x := Int32.or_self
theorem SB_or {a b : Int32} (c : Int32) (h : SB a b) : SB a (b ||| c) := by
  unfold SB at h ⊢
  rw [← Int32.or_assoc, h]
theorem tn_ub (x : Int32) : tn x < 4294967296 := x.toBitVec.isLt
theorem tn_lt {a b : Int32} (h : SB a b) (hn : ¬ b = a) : tn a < tn b := by
  have h1 : tn a ||| tn b = tn b := by
    have := congrArg (fun z : Int32 => z.toBitVec.toNat) h
    simpa [tn, BitVec.toNat_or] using this
  have h2 : tn a ≤ tn b := by
    rw [← h1]
    exact Nat.left_le_or
  rcases Nat.lt_or_ge (tn a) (tn b) with q | q
  · exact q
  · have e : tn b = tn a := by omega
    exact absurd (Int32.toBitVec_inj.mp (BitVec.eq_of_toNat_eq e)) hn
def pX7_copies_L3 (u1 : (Nat → Nat → Int32)) (u2 : (Nat → Nat → Int32)) (x1 : Nat) (y1 : Nat) (n1 : Nat) (n2 : Nat) : Nat → (Nat → Nat → Int32) := fo (fun i x_i => (va_up x_i 0 (upd (x_i 0) (y1 + i) ((u1 0) (x1 + i))))) u2
theorem pX7_copies_L3_s (u1 : (Nat → Nat → Int32)) (u2 : (Nat → Nat → Int32)) (x1 : Nat) (y1 : Nat) (n1 : Nat) (n2 : Nat) (i : Nat) : pX7_copies_L3 u1 u2 x1 y1 n1 n2 (i + 1) = (va_up (pX7_copies_L3 u1 u2 x1 y1 n1 n2 i) 0 (upd ((pX7_copies_L3 u1 u2 x1 y1 n1 n2 i) 0) (y1 + i) ((u1 0) (x1 + i)))) := rfl
theorem pX7_copies_L3_0 (u1 : (Nat → Nat → Int32)) (u2 : (Nat → Nat → Int32)) (x1 : Nat) (y1 : Nat) (n1 : Nat) (n2 : Nat) : pX7_copies_L3 u1 u2 x1 y1 n1 n2 0 = u2 := rfl
def pX7_copies (u1 : (Nat → Nat → Int32)) (u2 : (Nat → Nat → Int32)) (x1 : Nat) (y1 : Nat) (n1 : Nat) (n2 : Nat) : (Nat → Nat → Int32) := (pX7_copies_L3 u1 u2 x1 y1 n1 n2 142)
set_option maxHeartbeats 4000000 in
set_option maxRecDepth 100000 in
theorem kX7_copies (l : Launch) (D : va_G) (cyC cyI cyO : ClassId) (Q1 : Nat → Nat) (Q2 : Nat → Nat) (u1 : (Nat → Nat → Int32)) (u2 : (Nat → Nat → Int32)) (x1 : Nat) (y1 : Nat) (n1 : Nat) (n2 : Nat) (h1 : x1 + 142 ≤ n1) (h2 : y1 + 142 ≤ n2) (hn1 : n1 < 1000) (hn2 : n2 < 1000) : MU l yX7_copies (Ty yX7_copies cX7_copies 5 none) ({ frames := 0, cells := 0, slots := 0, locals := 0 } : Room) D cyC cyI cyO (wQ cyI n1 Q1 u1 ++ (wQ cyI n2 Q2 u2)) [.ref (Q1 0), .int (nI x1), .ref (Q2 0), .int (nI y1)] none (wQ cyI n1 Q1 u1 ++ (wQ cyI n2 Q2 (pX7_copies u1 u2 x1 y1 n1 n2))) := by
  intro sz
  refine Met.ofW (cc := cX7_copies) (maxL := 5) (ret := none) (by decide) rfl ?_
  intro p e s m args below meth cd s₁ B hml hv
  obtain ⟨rfl, hsz, hP, hK, hD0⟩ := hv
  have hx := B.exec
  have hb := B.bytes
  have hr := B.returns
  have hts : ∀ w ∈ TB, w.before ([.ref (Q1 0), .int (nI x1), .ref (Q2 0), .int (nI y1)] : List Value).toArray s = true := fun w h => atoms_spec (ws := (Ty yX7_copies cX7_copies 5 none)) B.pre w (List.mem_cons_of_mem _ h)
  have hown : s.vm.findClass RX7 = some m.cls := findClass_of_methodNamed B.named
  have hlocks := B.notSynchronized
  subst hsz
  have hD := hD0.self (sz := s.heap.size)
  have hA : ∀ q : Nat, s.heap.size ≤ q → (va_A (wQ cyI n1 Q1 u1 ++ (wQ cyI n2 Q2 u2)) s.heap.size) q := fun q h => Or.inr h
  generalize hAe : va_A (wQ cyI n1 Q1 u1 ++ (wQ cyI n2 Q2 u2)) s.heap.size = A0 at hD hA ⊢
  have hS : va_S A0 s.heap s.heap [] := va_S.rf
  have hl := lv_entry ([.ref (Q1 0), .int (nI x1), .ref (Q2 0), .int (nI y1)]) (n := 5) (Nat.le_of_ble_eq_true rfl)
  rw [lg_entry_eq]
  generalize (lg_sl ([.ref (Q1 0), .int (nI x1), .ref (Q2 0), .int (nI y1)]) ++ List.replicate (5 - (lg_sl ([.ref (Q1 0), .int (nI x1), .ref (Q2 0), .int (nI y1)])).length) Slot.unset).toArray = ls at hl ⊢
  have hl : lv_has ls 5 [(0, .ref (Q1 0)), (1, .int (nI x1)), (2, .ref (Q2 0)), (3, .int (nI y1))] := hl
  refine lv_iconst (v := 0) hx hb dX7_copies_0 (by decide) ?_
  refine lv_istore (lv' := [(4, .int 0), (0, .ref (Q1 0)), (1, .int (nI x1)), (2, .ref (Q2 0)), (3, .int (nI y1))]) hx hb dX7_copies_1 hl (by decide) rfl (fun ls hl => ?_)
  have key_3 : ∀ k i : Nat, i + k = 142 → ∀ (H : Heap) (locs : List Loc), va_P D vwCl (wQ cyI n1 Q1 u1 ++ (wQ cyI n2 Q2 (pX7_copies_L3 u1 u2 x1 y1 n1 n2 i))) H → va_D A0 (wQ cyI n1 Q1 u1 ++ (wQ cyI n2 Q2 (pX7_copies_L3 u1 u2 x1 y1 n1 n2 i))) → va_S A0 s.heap H locs → ∀ (ls : Array Slot), lv_has ls 5 [(0, .ref (Q1 0)), (1, .int (nI x1)), (2, .ref (Q2 0)), (3, .int (nI y1)), (4, .int (nI i))] → W p l e (headSpec (Ty yX7_copies cX7_copies 5 none) ({ frames := 0, cells := 0, slots := 0, locals := 0 } : Room)).room s m ([.ref (Q1 0), .int (nI x1), .ref (Q2 0), .int (nI y1)] : List Value).toArray below meth cd H locs 0 0 (MQ below (MQQ none D (wQ cyI n1 Q1 u1 ++ (wQ cyI n2 Q2 (pX7_copies u1 u2 x1 y1 n1 n2))) A0) ([.ref (Q1 0), .int (nI x1), .ref (Q2 0), .int (nI y1)] : List Value).toArray s 0 0 A0) (F0 m 3 ls []) := by
    intro k
    induction k with
    | zero =>
      intro i hi H locs hP hD hS ls hl
      obtain rfl : i = 142 := hi
      obtain ⟨z_1, hz_1⟩ : ∃ q, q = (pX7_copies_L3 u1 u2 x1 y1 n1 n2 142) := ⟨_, rfl⟩
      rw [← hz_1] at hP hD
      refine lv_iload hx hb dX7_copies_3 (lv_at hl 4 rfl) ?_
      refine lv_sipush (v := 142) hx hb dX7_copies_5 (by decide) ?_
      refine lv_icmp_ge (tgt := 29) hx hb dX7_copies_8 (by decide) (fun c_2 => ?_) (fun c_2 => absurd (le_of (C := 142) (N := 142) (by decide)) c_2)
      have e9 : (pX7_copies u1 u2 x1 y1 n1 n2) = z_1 := by simp only [pX7_copies, ← hz_1]
      exact W.vret hx hb hr (fun t ht hW => ⟨⟨rfl, by rw [e9, ht]; exact hP⟩, hS.F ht⟩) hS.2.2 dX7_copies_29
    | succ k ih_3 =>
      intro i hi H locs hP hD hS ls hl
      have hlt : i < 142 := by omega
      refine lv_iload hx hb dX7_copies_3 (lv_at hl 4 rfl) ?_
      refine lv_sipush (v := 142) hx hb dX7_copies_5 (by decide) ?_
      refine lv_icmp_ge (tgt := 29) hx hb dX7_copies_8 (by decide) (fun c_3 => absurd c_3 (nle_of (C := 142) (N := 142) (by decide) hlt (by decide))) (fun c_3 => ?_)
      refine lv_aload_n hx hb dX7_copies_11 rfl (lv_at hl 2 rfl) ?_
      refine lv_iload_n hx hb dX7_copies_12 rfl (lv_at hl 3 rfl) ?_
      refine lv_iload hx hb dX7_copies_13 (lv_at hl 4 rfl) ?_
      refine lv_iadd hx hb dX7_copies_15 ?_
      refine lv_aload_n hx hb dX7_copies_16 rfl (lv_at hl 0 rfl) ?_
      refine lv_iload_n hx hb dX7_copies_17 rfl (lv_at hl 1 rfl) ?_
      refine lv_iload hx hb dX7_copies_18 (lv_at hl 4 rfl) ?_
      refine lv_iadd hx hb dX7_copies_20 ?_
      refine va_iald (D := D) (f := (u1 0)) hx hb hK.1 hP 0 1 rfl rfl (vp_ad h1 hlt hn1) dX7_copies_21 ?_
      refine W.eq (g2 := F0 m _ ls [.int ((u1 0) (x1 + i)), .int ((nI y1) + (nI i)), .ref (Q2 0)]) (by rw [nI_add, nI_clamp (show x1 + i < 2 ^ 31 by omega)] <;> rfl) ?_
      obtain ⟨z_4, hz_4⟩ : ∃ q, q = (upd ((pX7_copies_L3 u1 u2 x1 y1 n1 n2 i) 0) (y1 + i) ((u1 0) (x1 + i))) := ⟨_, rfl⟩
      refine va_iast (D := D) (f := ((pX7_copies_L3 u1 u2 x1 y1 n1 n2 i) 0)) hx hb hK.1 hP hD hS 1 1 rfl rfl (vp_ad h2 hlt hn2) dX7_copies_22 (fun H locs hP hD hS => ?_)
      rw [nI_add, nI_clamp (show y1 + i < 2 ^ 31 by omega)] at hP hD
      have hP : va_P D vwCl (wQ cyI n1 Q1 u1 ++ (wQ cyI n2 Q2 (va_up (pX7_copies_L3 u1 u2 x1 y1 n1 n2 i) 0 (upd ((pX7_copies_L3 u1 u2 x1 y1 n1 n2 i) 0) (y1 + i) ((u1 0) (x1 + i)))))) H := hP
      have hD : va_D A0 (wQ cyI n1 Q1 u1 ++ (wQ cyI n2 Q2 (va_up (pX7_copies_L3 u1 u2 x1 y1 n1 n2 i) 0 (upd ((pX7_copies_L3 u1 u2 x1 y1 n1 n2 i) 0) (y1 + i) ((u1 0) (x1 + i)))))) := hD
      rw [← hz_4] at hP hD
      refine lv_iinc (v := (nI (i + 1))) (lv' := [(4, .int (nI (i + 1))), (0, .ref (Q1 0)), (1, .int (nI x1)), (2, .ref (Q2 0)), (3, .int (nI y1))]) hx hb dX7_copies_23 hl (k := 4) rfl (nI_succ i).symm (by decide) rfl (fun ls hl => ?_)
      refine lv_goto (tgt := 3) hx hb dX7_copies_26 (by decide) ?_
      have e8 : pX7_copies_L3 u1 u2 x1 y1 n1 n2 (i + 1) = (va_up (pX7_copies_L3 u1 u2 x1 y1 n1 n2 i) 0 z_4) := by rw [pX7_copies_L3_s] <;> simp only [← hz_4]
      exact ih_3 (i + 1) (by omega) _ _ (by rw [e8]; exact hP) (by rw [e8]; exact hD) hS ls (lv_sub hl [1, 2, 3, 4, 0] rfl)
  exact key_3 142 0 (Nat.zero_add 142) _ _ (hP) (hD) hS ls (lv_sub hl [1, 2, 3, 4, 0] rfl)
theorem bS_X7_copies : BS yX7_copies cX7_copies 5 none 4 := ⟨wcd_X7_copies, wst_X7_copies, win_RX7, by decide +kernel⟩
def pX7_records_L10 (u : (Nat → Nat → Int32)) (w : (Nat → Int32)) (kn : Nat) : Nat → (Nat → Nat → Int32) := fo (fun i x_i => (va_up x_i 2 (upd (x_i 2) i ((x_i 2) (i + 142))))) u
theorem pX7_records_L10_s (u : (Nat → Nat → Int32)) (w : (Nat → Int32)) (kn : Nat) (i : Nat) : pX7_records_L10 u w kn (i + 1) = (va_up (pX7_records_L10 u w kn i) 2 (upd ((pX7_records_L10 u w kn i) 2) i (((pX7_records_L10 u w kn i) 2) (i + 142)))) := rfl
theorem pX7_records_L10_0 (u : (Nat → Nat → Int32)) (w : (Nat → Int32)) (kn : Nat) : pX7_records_L10 u w kn 0 = u := rfl
def pX7_records (u : (Nat → Nat → Int32)) (w : (Nat → Int32)) (kn : Nat) : (Nat → Nat → Int32) × (Nat → Int32) := (if (nI kn) = 4 then ((va_up (pX7_records_L10 u w kn 426) 2 ((pX7_copies (fun _ => ((pX7_records_L10 u w kn 426) 0)) (fun _ => ((pX7_records_L10 u w kn 426) 2)) 0 (142 * (kn - 1)) 142 568) 0)), (va_up w 3 (((nI kn) - (1 : Int32)) + (1 : Int32)))) else ((va_up u 2 ((pX7_copies (fun _ => (u 0)) (fun _ => (u 2)) 0 (142 * kn) 142 568) 0)), (va_up w 3 ((nI kn) + (1 : Int32)))))
set_option maxHeartbeats 4000000 in
set_option maxRecDepth 100000 in
theorem kX7_records (l : Launch) (D : va_G) (cyC cyI cyO : ClassId) (A : Nat → Nat) (u : (Nat → Nat → Int32)) (w : (Nat → Int32)) (kn : Nat) (hkn : kn ≤ 4) : MU l yX7_records (Ty yX7_records cX7_records 2 none) ({ frames := 1, cells := 0, slots := 0, locals := 24 } : Room) D cyC cyI cyO (wM cyI A u (va_up w 3 (nI kn))) [.ref (A 0)] none (wM cyI A (pX7_records u w kn).1 (pX7_records u w kn).2) := by
  intro sz
  refine Met.ofW (cc := cX7_records) (maxL := 2) (ret := none) (by decide) rfl ?_
  intro p e s m args below meth cd s₁ B hml hv
  obtain ⟨rfl, hsz, hP, hK, hD0⟩ := hv
  have hx := B.exec
  have hb := B.bytes
  have hr := B.returns
  have hts : ∀ w ∈ TB, w.before ([.ref (A 0)] : List Value).toArray s = true := fun w h => atoms_spec (ws := (Ty yX7_records cX7_records 2 none)) B.pre w (List.mem_cons_of_mem _ h)
  have hown : s.vm.findClass RX7 = some m.cls := findClass_of_methodNamed B.named
  have hlocks := B.notSynchronized
  subst hsz
  have hD := hD0.self (sz := s.heap.size)
  have hA : ∀ q : Nat, s.heap.size ≤ q → (va_A (wM cyI A u (va_up w 3 (nI kn))) s.heap.size) q := fun q h => Or.inr h
  generalize hAe : va_A (wM cyI A u (va_up w 3 (nI kn))) s.heap.size = A0 at hD hA ⊢
  have hS : va_S A0 s.heap s.heap [] := va_S.rf
  have hl := lv_entry ([.ref (A 0)]) (n := 2) (Nat.le_of_ble_eq_true rfl)
  rw [lg_entry_eq]
  generalize (lg_sl ([.ref (A 0)]) ++ List.replicate (2 - (lg_sl ([.ref (A 0)])).length) Slot.unset).toArray = ls at hl ⊢
  have hl : lv_has ls 2 [(0, .ref (A 0))] := hl
  refine lv_aload_n hx hb dX7_records_0 rfl (lv_at hl 0 rfl) ?_
  refine va_get (D := D) (ci := 6) (v := .int (nI kn)) (C := RX7) (T := TX7) (N := 15) hx hb hts inT_X7 hown hK.1 hP 0 rfl rfl 3 (by decide) (hts _ wfl_RX7_33) (fun _ h9 => h9) rfl dX7_records_1 ?_
  refine lv_iconst (v := 4) hx hb dX7_records_4 (by decide) ?_
  refine lv_icmp_ne (tgt := 49) hx hb dX7_records_5 (by decide) (fun c_1 => ?_) (fun c_1 => ?_)
  · refine lv_aload_n hx hb dX7_records_49 rfl (lv_at hl 0 rfl) ?_
    refine va_get (D := D) (ci := 6) (v := .ref (A 1)) (C := RX7) (T := TX7) (N := 15) hx hb hts inT_X7 hown hK.1 hP 0 rfl rfl 0 (by decide) (hts _ wfl_RX7_7) (fun _ h9 => h9) rfl dX7_records_50 ?_
    refine lv_iconst (v := 0) hx hb dX7_records_53 (by decide) ?_
    refine lv_aload_n hx hb dX7_records_54 rfl (lv_at hl 0 rfl) ?_
    refine va_get (D := D) (ci := 6) (v := .ref (A 3)) (C := RX7) (T := TX7) (N := 15) hx hb hts inT_X7 hown hK.1 hP 0 rfl rfl 2 (by decide) (hts _ wfl_RX7_16) (fun _ h9 => h9) rfl dX7_records_55 ?_
    refine lv_sipush (v := 142) hx hb dX7_records_58 (by decide) ?_
    refine lv_aload_n hx hb dX7_records_61 rfl (lv_at hl 0 rfl) ?_
    refine va_get (D := D) (ci := 6) (v := .int (nI kn)) (C := RX7) (T := TX7) (N := 15) hx hb hts inT_X7 hown hK.1 hP 0 rfl rfl 3 (by decide) (hts _ wfl_RX7_33) (fun _ h9 => h9) rfl dX7_records_62 ?_
    refine lv_imul hx hb dX7_records_65 ?_
    refine W.eq (g2 := F0 m _ ls [.int (nI (142 * kn)), .ref (A 3), .int 0, .ref (A 1)]) (by rw [show ((142 : Int32) * (nI kn)) = (nI (142 * kn)) from (pk_mul 142 kn)] <;> rfl) ?_
    obtain ⟨z_2, hz_2⟩ : ∃ q, q = (pX7_copies (fun _ => (u 0)) (fun _ => (u 2)) 0 (142 * kn) 142 568) := ⟨_, rfl⟩
    refine mS (ws := (wM cyI A u (va_up w 3 (nI kn)))) (ws' := (wM cyI A (va_up u 2 (z_2 0)) (va_up w 3 (nI kn)))) (As := [.ref (A 1), .int 0, .ref (A 3), .int (nI (142 * kn))]) (rest := []) hx hb hml hown hts hl.1 (WS := (wQ cyI 142 (fun _ => (A 1)) (fun _ => (u 0)) ++ (wQ cyI 568 (fun _ => (A 3)) (fun _ => (u 2))))) (WS' := (wQ cyI 142 (fun _ => (A 1)) (fun _ => (u 0)) ++ (wQ cyI 568 (fun _ => (A 3)) z_2))) (ro := none) (by rw [hz_2]; exact kX7_copies l D cyC cyI cyO (fun _ => (A 1)) (fun _ => (A 3)) (fun _ => (u 0)) (fun _ => (u 2)) 0 (142 * kn) 142 568 (by decide) (by have h9 := kn3 hkn c_1; omega) (by decide) (by decide)) bS_X7_copies  wml_RX7_37 ⟨rfl, rfl⟩ ⟨Nat.le_of_ble_eq_true rfl, Nat.le_of_ble_eq_true rfl, Nat.zero_le _, Nat.zero_le _⟩ [1, 3] rfl rfl rfl rfl rfl hP hD hS hA hK rfl rfl (Nat.le_of_ble_eq_true rfl) dX7_records_66 (fun H locs hP hD hS => ?_)
    refine lv_aload_n hx hb dX7_records_69 rfl (lv_at hl 0 rfl) ?_
    refine lv_dup hx hb dX7_records_70 rfl ?_
    refine va_get (D := D) (ci := 6) (v := .int (nI kn)) (C := RX7) (T := TX7) (N := 15) hx hb hts inT_X7 hown hK.1 hP 0 rfl rfl 3 (by decide) (hts _ wfl_RX7_33) (fun _ h9 => h9) rfl dX7_records_71 ?_
    refine lv_iconst (v := 1) hx hb dX7_records_74 (by decide) ?_
    refine lv_iadd hx hb dX7_records_75 ?_
    refine va_put (D := D) (ci := 6) (v := .int ((nI kn) + (1 : Int32))) (ty := .int) (C := RX7) (T := TX7) (N := 15) hx hb hts inT_X7 tyX7 tyX7_ok nmX7 hown hK.1 hP hD hS 0 rfl rfl 3 (by decide) (hts _ wfl_RX7_33) (fun _ h9 => h9) rfl (by decide +kernel) (by rfl) rfl (Nat.le_of_ble_eq_true rfl) dX7_records_76 (fun H locs hP hD hS => ?_)
    have hP : va_P D vwCl (wM cyI A (va_up u 2 (z_2 0)) (va_up w 3 ((nI kn) + (1 : Int32)))) H := hP
    have hD : va_D A0 (wM cyI A (va_up u 2 (z_2 0)) (va_up w 3 ((nI kn) + (1 : Int32)))) := hD
    have e9 : (pX7_records u w kn) = ((va_up u 2 (z_2 0)), (va_up w 3 ((nI kn) + (1 : Int32)))) := by simp only [pX7_records, ← hz_2, if_neg c_1]
    have e9_0 : (pX7_records u w kn).1 = (va_up u 2 (z_2 0)) := by rw [e9]
    have e9_1 : (pX7_records u w kn).2 = (va_up w 3 ((nI kn) + (1 : Int32))) := by rw [e9]
    exact W.vret hx hb hr (fun t ht hW => ⟨⟨rfl, by rw [e9_0, e9_1, ht]; exact hP⟩, hS.F ht⟩) hS.2.2 dX7_records_79
  · refine lv_iconst (v := 0) hx hb dX7_records_8 (by decide) ?_
    refine lv_istore_n (lv' := [(1, .int 0), (0, .ref (A 0))]) hx hb dX7_records_9 rfl hl (by decide) rfl (fun ls hl => ?_)
    have key_10 : ∀ k i : Nat, i + k = 426 → ∀ (H : Heap) (locs : List Loc), va_P D vwCl (wM cyI A (pX7_records_L10 u w kn i) (va_up w 3 (nI kn))) H → va_D A0 (wM cyI A (pX7_records_L10 u w kn i) (va_up w 3 (nI kn))) → va_S A0 s.heap H locs → ∀ (ls : Array Slot), lv_has ls 2 [(0, .ref (A 0)), (1, .int (nI i))] → W p l e (headSpec (Ty yX7_records cX7_records 2 none) ({ frames := 1, cells := 0, slots := 0, locals := 24 } : Room)).room s m ([.ref (A 0)] : List Value).toArray below meth cd H locs 0 0 (MQ below (MQQ none D (wM cyI A (pX7_records u w kn).1 (pX7_records u w kn).2) A0) ([.ref (A 0)] : List Value).toArray s 0 0 A0) (F0 m 10 ls []) := by
      intro k
      induction k with
      | zero =>
        intro i hi H locs hP hD hS ls hl
        obtain rfl : i = 426 := hi
        obtain ⟨z_3, hz_3⟩ : ∃ q, q = (pX7_records_L10 u w kn 426) := ⟨_, rfl⟩
        rw [← hz_3] at hP hD
        refine lv_iload_n hx hb dX7_records_10 rfl (lv_at hl 1 rfl) ?_
        refine lv_sipush (v := 426) hx hb dX7_records_11 (by decide) ?_
        refine lv_icmp_ge (tgt := 39) hx hb dX7_records_14 (by decide) (fun c_4 => ?_) (fun c_4 => absurd (le_of (C := 426) (N := 426) (by decide)) c_4)
        refine lv_aload_n hx hb dX7_records_39 rfl (lv_at hl 0 rfl) ?_
        refine lv_dup hx hb dX7_records_40 rfl ?_
        refine va_get (D := D) (ci := 6) (v := .int (nI kn)) (C := RX7) (T := TX7) (N := 15) hx hb hts inT_X7 hown hK.1 hP 0 rfl rfl 3 (by decide) (hts _ wfl_RX7_33) (fun _ h9 => h9) rfl dX7_records_41 ?_
        refine lv_iconst (v := 1) hx hb dX7_records_44 (by decide) ?_
        refine lv_isub hx hb dX7_records_45 ?_
        refine va_put (D := D) (ci := 6) (v := .int ((nI kn) - (1 : Int32))) (ty := .int) (C := RX7) (T := TX7) (N := 15) hx hb hts inT_X7 tyX7 tyX7_ok nmX7 hown hK.1 hP hD hS 0 rfl rfl 3 (by decide) (hts _ wfl_RX7_33) (fun _ h9 => h9) rfl (by decide +kernel) (by rfl) rfl (Nat.le_of_ble_eq_true rfl) dX7_records_46 (fun H locs hP hD hS => ?_)
        have hP : va_P D vwCl (wM cyI A z_3 (va_up w 3 ((nI kn) - (1 : Int32)))) H := hP
        have hD : va_D A0 (wM cyI A z_3 (va_up w 3 ((nI kn) - (1 : Int32)))) := hD
        refine lv_aload_n hx hb dX7_records_49 rfl (lv_at hl 0 rfl) ?_
        refine va_get (D := D) (ci := 6) (v := .ref (A 1)) (C := RX7) (T := TX7) (N := 15) hx hb hts inT_X7 hown hK.1 hP 0 rfl rfl 0 (by decide) (hts _ wfl_RX7_7) (fun _ h9 => h9) rfl dX7_records_50 ?_
        refine lv_iconst (v := 0) hx hb dX7_records_53 (by decide) ?_
        refine lv_aload_n hx hb dX7_records_54 rfl (lv_at hl 0 rfl) ?_
        refine va_get (D := D) (ci := 6) (v := .ref (A 3)) (C := RX7) (T := TX7) (N := 15) hx hb hts inT_X7 hown hK.1 hP 0 rfl rfl 2 (by decide) (hts _ wfl_RX7_16) (fun _ h9 => h9) rfl dX7_records_55 ?_
        refine lv_sipush (v := 142) hx hb dX7_records_58 (by decide) ?_
        refine lv_aload_n hx hb dX7_records_61 rfl (lv_at hl 0 rfl) ?_
        refine va_get (D := D) (ci := 6) (v := .int ((nI kn) - (1 : Int32))) (C := RX7) (T := TX7) (N := 15) hx hb hts inT_X7 hown hK.1 hP 0 rfl rfl 3 (by decide) (hts _ wfl_RX7_33) (fun _ h9 => h9) rfl dX7_records_62 ?_
        refine lv_imul hx hb dX7_records_65 ?_
        refine W.eq (g2 := F0 m _ ls [.int (nI (142 * (kn - 1))), .ref (A 3), .int 0, .ref (A 1)]) (by rw [show ((142 : Int32) * ((nI kn) - (1 : Int32))) = (nI (142 * (kn - 1))) from (by have h9 := kn4 hkn c_1; subst h9; rfl)] <;> rfl) ?_
        obtain ⟨z_5, hz_5⟩ : ∃ q, q = (pX7_copies (fun _ => (z_3 0)) (fun _ => (z_3 2)) 0 (142 * (kn - 1)) 142 568) := ⟨_, rfl⟩
        refine mS (ws := (wM cyI A z_3 (va_up w 3 ((nI kn) - (1 : Int32))))) (ws' := (wM cyI A (va_up z_3 2 (z_5 0)) (va_up w 3 ((nI kn) - (1 : Int32))))) (As := [.ref (A 1), .int 0, .ref (A 3), .int (nI (142 * (kn - 1)))]) (rest := []) hx hb hml hown hts hl.1 (WS := (wQ cyI 142 (fun _ => (A 1)) (fun _ => (z_3 0)) ++ (wQ cyI 568 (fun _ => (A 3)) (fun _ => (z_3 2))))) (WS' := (wQ cyI 142 (fun _ => (A 1)) (fun _ => (z_3 0)) ++ (wQ cyI 568 (fun _ => (A 3)) z_5))) (ro := none) (by rw [hz_5]; exact kX7_copies l D cyC cyI cyO (fun _ => (A 1)) (fun _ => (A 3)) (fun _ => (z_3 0)) (fun _ => (z_3 2)) 0 (142 * (kn - 1)) 142 568 (by decide) (by have h9 := kn4 hkn c_1; omega) (by decide) (by decide)) bS_X7_copies  wml_RX7_37 ⟨rfl, rfl⟩ ⟨Nat.le_of_ble_eq_true rfl, Nat.le_of_ble_eq_true rfl, Nat.zero_le _, Nat.zero_le _⟩ [1, 3] rfl rfl rfl rfl rfl hP hD hS hA hK rfl rfl (Nat.le_of_ble_eq_true rfl) dX7_records_66 (fun H locs hP hD hS => ?_)
        refine lv_aload_n hx hb dX7_records_69 rfl (lv_at hl 0 rfl) ?_
        refine lv_dup hx hb dX7_records_70 rfl ?_
        refine va_get (D := D) (ci := 6) (v := .int ((nI kn) - (1 : Int32))) (C := RX7) (T := TX7) (N := 15) hx hb hts inT_X7 hown hK.1 hP 0 rfl rfl 3 (by decide) (hts _ wfl_RX7_33) (fun _ h9 => h9) rfl dX7_records_71 ?_
        refine lv_iconst (v := 1) hx hb dX7_records_74 (by decide) ?_
        refine lv_iadd hx hb dX7_records_75 ?_
        refine va_put (D := D) (ci := 6) (v := .int (((nI kn) - (1 : Int32)) + (1 : Int32))) (ty := .int) (C := RX7) (T := TX7) (N := 15) hx hb hts inT_X7 tyX7 tyX7_ok nmX7 hown hK.1 hP hD hS 0 rfl rfl 3 (by decide) (hts _ wfl_RX7_33) (fun _ h9 => h9) rfl (by decide +kernel) (by rfl) rfl (Nat.le_of_ble_eq_true rfl) dX7_records_76 (fun H locs hP hD hS => ?_)
        have hP : va_P D vwCl (wM cyI A (va_up z_3 2 (z_5 0)) (va_up w 3 (((nI kn) - (1 : Int32)) + (1 : Int32)))) H := hP
        have hD : va_D A0 (wM cyI A (va_up z_3 2 (z_5 0)) (va_up w 3 (((nI kn) - (1 : Int32)) + (1 : Int32)))) := hD
        have e9 : (pX7_records u w kn) = ((va_up z_3 2 (z_5 0)), (va_up w 3 (((nI kn) - (1 : Int32)) + (1 : Int32)))) := by simp only [pX7_records, ← hz_3, ← hz_5, if_pos c_1]
        have e9_0 : (pX7_records u w kn).1 = (va_up z_3 2 (z_5 0)) := by rw [e9]
        have e9_1 : (pX7_records u w kn).2 = (va_up w 3 (((nI kn) - (1 : Int32)) + (1 : Int32))) := by rw [e9]
        exact W.vret hx hb hr (fun t ht hW => ⟨⟨rfl, by rw [e9_0, e9_1, ht]; exact hP⟩, hS.F ht⟩) hS.2.2 dX7_records_79
      | succ k ih_10 =>
        intro i hi H locs hP hD hS ls hl
        have hlt : i < 426 := by omega
        refine lv_iload_n hx hb dX7_records_10 rfl (lv_at hl 1 rfl) ?_
        refine lv_sipush (v := 426) hx hb dX7_records_11 (by decide) ?_
        refine lv_icmp_ge (tgt := 39) hx hb dX7_records_14 (by decide) (fun c_6 => absurd c_6 (nle_of (C := 426) (N := 426) (by decide) hlt (by decide))) (fun c_6 => ?_)
        refine lv_aload_n hx hb dX7_records_17 rfl (lv_at hl 0 rfl) ?_
        refine va_get (D := D) (ci := 6) (v := .ref (A 3)) (C := RX7) (T := TX7) (N := 15) hx hb hts inT_X7 hown hK.1 hP 0 rfl rfl 2 (by decide) (hts _ wfl_RX7_16) (fun _ h9 => h9) rfl dX7_records_18 ?_
        refine lv_iload_n hx hb dX7_records_21 rfl (lv_at hl 1 rfl) ?_
        refine lv_aload_n hx hb dX7_records_22 rfl (lv_at hl 0 rfl) ?_
        refine va_get (D := D) (ci := 6) (v := .ref (A 3)) (C := RX7) (T := TX7) (N := 15) hx hb hts inT_X7 hown hK.1 hP 0 rfl rfl 2 (by decide) (hts _ wfl_RX7_16) (fun _ h9 => h9) rfl dX7_records_23 ?_
        refine lv_iload_n hx hb dX7_records_26 rfl (lv_at hl 1 rfl) ?_
        refine lv_sipush (v := 142) hx hb dX7_records_27 (by decide) ?_
        refine lv_iadd hx hb dX7_records_30 ?_
        refine va_iald (D := D) (f := ((pX7_records_L10 u w kn i) 2)) hx hb hK.1 hP 3 1 rfl rfl (vp_sh hlt) dX7_records_31 ?_
        refine W.eq (g2 := F0 m _ ls [.int (((pX7_records_L10 u w kn i) 2) (i + 142)), .int (nI i), .ref (A 3)]) (by rw [sh142, nI_clamp (show i + 142 < 2 ^ 31 by omega)] <;> rfl) ?_
        obtain ⟨z_7, hz_7⟩ : ∃ q, q = (upd ((pX7_records_L10 u w kn i) 2) i (((pX7_records_L10 u w kn i) 2) (i + 142))) := ⟨_, rfl⟩
        refine va_iast (D := D) (f := ((pX7_records_L10 u w kn i) 2)) hx hb hK.1 hP hD hS 3 1 rfl rfl (vp_in_nI (Nat.lt_of_lt_of_le hlt (by decide)) (by decide)) dX7_records_32 (fun H locs hP hD hS => ?_)
        rw [nI_clamp (Nat.lt_trans hlt (by decide))] at hP hD
        have hP : va_P D vwCl (wM cyI A (va_up (pX7_records_L10 u w kn i) 2 (upd ((pX7_records_L10 u w kn i) 2) i (((pX7_records_L10 u w kn i) 2) (i + 142)))) (va_up w 3 (nI kn))) H := hP
        have hD : va_D A0 (wM cyI A (va_up (pX7_records_L10 u w kn i) 2 (upd ((pX7_records_L10 u w kn i) 2) i (((pX7_records_L10 u w kn i) 2) (i + 142)))) (va_up w 3 (nI kn))) := hD
        rw [← hz_7] at hP hD
        refine lv_iinc (v := (nI (i + 1))) (lv' := [(1, .int (nI (i + 1))), (0, .ref (A 0))]) hx hb dX7_records_33 hl (k := 1) rfl (nI_succ i).symm (by decide) rfl (fun ls hl => ?_)
        refine lv_goto (tgt := 10) hx hb dX7_records_36 (by decide) ?_
        have e8 : pX7_records_L10 u w kn (i + 1) = (va_up (pX7_records_L10 u w kn i) 2 z_7) := by rw [pX7_records_L10_s] <;> simp only [← hz_7, if_pos c_1]
        exact ih_10 (i + 1) (by omega) _ _ (by rw [e8]; exact hP) (by rw [e8]; exact hD) hS ls (lv_sub hl [1, 0] rfl)
    exact key_10 426 0 (Nat.zero_add 426) _ _ (hP) (hD) hS ls (lv_sub hl [1, 0] rfl)
theorem bV_X7_records : BV RX7 yX7_records cX7_records 2 none 0 := ⟨wcd_X7_records, wim_X7_records, wse_X7_records, win_RX7, by decide +kernel⟩
