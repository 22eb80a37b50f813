theorem LN_of0 {u v : Nat → Nat → Int32} (h : LN u) (e : ∀ j : Nat, j < 28 → v 0 (30 + 4 * j + 1) = u 0 (30 + 4 * j + 1)) : LN v := fun j hj => by
  rw [e j hj]
  exact h j hj
def IV (r : Int32) (u : Nat → Nat → Int32) : Prop := LN u ∧ u 0 2 = r
theorem IV_l {r : Int32} {u : Nat → Nat → Int32} {w : Nat → Int32} {j k : Nat} {x : Int32} (hj : j < 28) (hk : k < 4) (hk2 : k ≠ 1) (h : IV r u) : IV r (pX7_lays u w (nI j) (nI k) x).1 := by
  refine ⟨LN_lays hj hk hk2 h.1, ?_⟩
  rw [lays_nI hj hk]
  exact (if_neg (by omega)).trans h.2
theorem IV_l2 {r : Int32} {u : Nat → Nat → Int32} {w : Nat → Int32} {j : Nat} {x : Int32} (hj : j < 28) (h : IV r u) : IV r (pX7_lays u w (nI j) 2 x).1 := IV_l (k := 2) hj (by decide) (by decide) h
theorem IV_l3 {r : Int32} {u : Nat → Nat → Int32} {w : Nat → Int32} {j : Nat} {x : Int32} (hj : j < 28) (h : IV r u) : IV r (pX7_lays u w (nI j) 3 x).1 := IV_l (k := 3) hj (by decide) (by decide) h
theorem gdL (u : Nat → Nat → Int32) (w : Nat → Int32) (h : LN u) (n : Nat) (hn : n ≤ 28) : IV (u 0 2) (pX7_goDay_L17 u w n).1 := by
  induction n with
  | zero => exact ⟨LN_up h (fun _ _ => by omega), rfl⟩
  | succ n ih =>
    have ih := ih (by omega)
    rw [pX7_goDay_L17_s]
    (repeat' split)
    · exact ih
    · with_reducible exact IV_l3 (by omega) (IV_l2 (by omega) ih)
    · with_reducible exact IV_l3 (by omega) (IV_l2 (by omega) ih)
theorem IV_up {r : Int32} {u : Nat → Nat → Int32} {f : Nat → Int32} {a b : Int32} (h : IV r u) (e : f = upd (upd (u 0) 3 a) 1 b) : IV r (va_up u 0 f) := by
  subst e
  exact ⟨LN_of0 h.1 (fun j hj => (pk_un (by omega)).trans (pk_un (by omega))), h.2⟩
theorem gd_iv (u : Nat → Nat → Int32) (w : Nat → Int32) (h : LN u) : IV (u 0 2) (pX7_goDay u w).2.1 := by
  have h1 := gdL u w h 28 (Nat.le_refl _)
  unfold pX7_goDay
  generalize pX7_goDay_L17 u w 28 = z at h1 ⊢
  split
  · exact IV_up h1 rfl
  · exact IV_up h1 rfl
def pX7_ifDays_L39 (u : (Nat → Nat → Int32)) (w : (Nat → Int32)) (a1 : Int32) (a2 : Int32) : Nat → Int32 → Int32 → (Nat → Nat → Int32) → (Nat → Int32) → Int32 × (Nat → Nat → Int32) × (Nat → Int32)
  | 0, _, _, _, _ => (0, default, default)
  | k + 1, x0_3, x0_4, u0_0, w0_0 => (if a1 ≤ x0_4 then (if a2 = 0 then (x0_3, (va_up u0_0 0 ((pX7_copies (fun _ => (u0_0 1)) (fun _ => (u0_0 0)) 0 0 142 142) 0)), w0_0) else (if a2 = 1 then ((pX7_sumOf u0_0 w0_0 2), (va_up u0_0 0 ((pX7_copies (fun _ => (u0_0 1)) (fun _ => (u0_0 0)) 0 0 142 142) 0)), w0_0) else (if a2 = 2 then ((pX7_sumOf u0_0 w0_0 3), (va_up u0_0 0 ((pX7_copies (fun _ => (u0_0 1)) (fun _ => (u0_0 0)) 0 0 142 142) 0)), w0_0) else (((u0_0 0) 1), (va_up u0_0 0 ((pX7_copies (fun _ => (u0_0 1)) (fun _ => (u0_0 0)) 0 0 142 142) 0)), w0_0)))) else (pX7_ifDays_L39 u w a1 a2 k (pX7_goDay u0_0 w0_0).1 (x0_4 + (1 : Int32)) (pX7_goDay u0_0 w0_0).2.1 (pX7_goDay u0_0 w0_0).2.2))
theorem pX7_ifDays_L39_s (u : (Nat → Nat → Int32)) (w : (Nat → Int32)) (a1 : Int32) (a2 : Int32) (k : Nat) (x0_3 : Int32) (x0_4 : Int32) (u0_0 : (Nat → Nat → Int32)) (w0_0 : (Nat → Int32)) : pX7_ifDays_L39 u w a1 a2 (k + 1) x0_3 x0_4 u0_0 w0_0 = (if a1 ≤ x0_4 then (if a2 = 0 then (x0_3, (va_up u0_0 0 ((pX7_copies (fun _ => (u0_0 1)) (fun _ => (u0_0 0)) 0 0 142 142) 0)), w0_0) else (if a2 = 1 then ((pX7_sumOf u0_0 w0_0 2), (va_up u0_0 0 ((pX7_copies (fun _ => (u0_0 1)) (fun _ => (u0_0 0)) 0 0 142 142) 0)), w0_0) else (if a2 = 2 then ((pX7_sumOf u0_0 w0_0 3), (va_up u0_0 0 ((pX7_copies (fun _ => (u0_0 1)) (fun _ => (u0_0 0)) 0 0 142 142) 0)), w0_0) else (((u0_0 0) 1), (va_up u0_0 0 ((pX7_copies (fun _ => (u0_0 1)) (fun _ => (u0_0 0)) 0 0 142 142) 0)), w0_0)))) else (pX7_ifDays_L39 u w a1 a2 k (pX7_goDay u0_0 w0_0).1 (x0_4 + (1 : Int32)) (pX7_goDay u0_0 w0_0).2.1 (pX7_goDay u0_0 w0_0).2.2)) := rfl
def pX7_ifDays (u : (Nat → Nat → Int32)) (w : (Nat → Int32)) (a1 : Int32) (a2 : Int32) : Int32 × (Nat → Nat → Int32) × (Nat → Int32) := (if (pX7_in a1 1 30) = 0 then ((-1), u, w) else (if (pX7_in a2 0 3) = 0 then ((-1), u, w) else (pX7_ifDays_L39 u w a1 a2 31 0 0 (va_up u 1 ((pX7_copies (fun _ => (u 0)) (fun _ => (u 1)) 0 0 142 142) 0)) w)))
set_option maxHeartbeats 4000000 in
set_option maxRecDepth 100000 in
theorem kX7_ifDays (l : Launch) (D : va_G) (cyC cyI cyO : ClassId) (A : Nat → Nat) (u : (Nat → Nat → Int32)) (w : (Nat → Int32)) (a1 : Int32) (a2 : Int32) (hm3 : ((u 0) 2) ≤ 3) (hln : LN u) : MU l yX7_ifDays (Ty yX7_ifDays cX7_ifDays 5 (some .int)) ({ frames := 5, cells := 0, slots := 0, locals := 114 } : Room) D cyC cyI cyO (wM cyI A u w) [.ref (A 0), .int a1, .int a2] (some (.int (pX7_ifDays u w a1 a2).1)) (wM cyI A (pX7_ifDays u w a1 a2).2.1 (pX7_ifDays u w a1 a2).2.2) := by
  intro sz
  refine Met.ofW (cc := cX7_ifDays) (maxL := 5) (ret := (some .int)) (by decide) rfl ?_
  intro p e s m args below meth cd s₁ B hml hv
  obtain ⟨rfl, hsz, hP, hK, hD0⟩ := hv
  have hx := B.exec
  have hb := B.bytes
  have hr := B.returns
  have hts : ∀ w ∈ TB, w.before ([.ref (A 0), .int a1, .int a2] : List Value).toArray s = true := fun w h => atoms_spec (ws := (Ty yX7_ifDays cX7_ifDays 5 (some .int))) B.pre w (List.mem_cons_of_mem _ h)
  have hown : s.vm.findClass RX7 = some m.cls := findClass_of_methodNamed B.named
  have hlocks := B.notSynchronized
  subst hsz
  have hD := hD0.self (sz := s.heap.size)
  have hA : ∀ q : Nat, s.heap.size ≤ q → (va_A (wM cyI A u w) s.heap.size) q := fun q h => Or.inr h
  generalize hAe : va_A (wM cyI A u w) s.heap.size = A0 at hD hA ⊢
  have hS : va_S A0 s.heap s.heap [] := va_S.rf
  have hl := lv_entry ([.ref (A 0), .int a1, .int a2]) (n := 5) (Nat.le_of_ble_eq_true rfl)
  rw [lg_entry_eq]
  generalize (lg_sl ([.ref (A 0), .int a1, .int a2]) ++ List.replicate (5 - (lg_sl ([.ref (A 0), .int a1, .int a2])).length) Slot.unset).toArray = ls at hl ⊢
  have hl : lv_has ls 5 [(0, .ref (A 0)), (1, .int a1), (2, .int a2)] := hl
  refine lv_iload_n hx hb dX7_ifDays_0 rfl (lv_at hl 1 rfl) ?_
  refine lv_iconst (v := 1) hx hb dX7_ifDays_1 (by decide) ?_
  refine lv_bipush (v := 30) hx hb dX7_ifDays_2 (by decide) ?_
  refine rS (As := [.int a1, .int 1, .int 30]) (rest := []) hx hb hml hown hts hl.1 (kX7_in l D cyC cyI cyO a1 1 30) bS_X7_in  wml_RX7_41 ⟨rfl, rfl⟩ ⟨Nat.le_of_ble_eq_true rfl, Nat.le_of_ble_eq_true rfl, Nat.zero_le _, Nat.zero_le _⟩ [] rfl hP hK rfl rfl (Nat.le_of_ble_eq_true rfl) dX7_ifDays_4 ?_
  refine lv_if_eq (tgt := 19) hx hb dX7_ifDays_7 (by decide) (fun c_1 => ?_) (fun c_1 => ?_)
  · refine lv_iconst (v := (-1)) hx hb dX7_ifDays_19 (by decide) ?_
    have e9 : (pX7_ifDays u w a1 a2) = ((-1), u, w) := by simp only [pX7_ifDays, if_pos c_1]
    have e9_0 : (pX7_ifDays u w a1 a2).1 = (-1) := by rw [e9]
    have e9_1 : (pX7_ifDays u w a1 a2).2.1 = u := by rw [e9]
    have e9_2 : (pX7_ifDays u w a1 a2).2.2 = w := by rw [e9]
    exact W.iret (v := (-1)) hx hb hr (fun t ht hW => ⟨⟨by rw [e9_0], by rw [e9_1, e9_2, ht]; exact hP⟩, hS.F ht⟩) hS.2.2 dX7_ifDays_20
  · refine lv_iload_n hx hb dX7_ifDays_10 rfl (lv_at hl 2 rfl) ?_
    refine lv_iconst (v := 0) hx hb dX7_ifDays_11 (by decide) ?_
    refine lv_iconst (v := 3) hx hb dX7_ifDays_12 (by decide) ?_
    refine rS (As := [.int a2, .int 0, .int 3]) (rest := []) hx hb hml hown hts hl.1 (kX7_in l D cyC cyI cyO a2 0 3) bS_X7_in  wml_RX7_41 ⟨rfl, rfl⟩ ⟨Nat.le_of_ble_eq_true rfl, Nat.le_of_ble_eq_true rfl, Nat.zero_le _, Nat.zero_le _⟩ [] rfl hP hK rfl rfl (Nat.le_of_ble_eq_true rfl) dX7_ifDays_13 ?_
    refine lv_if_ne (tgt := 21) hx hb dX7_ifDays_16 (by decide) (fun c_2 => ?_) (fun c_2 => ?_)
    · refine lv_aload_n hx hb dX7_ifDays_21 rfl (lv_at hl 0 rfl) ?_
      refine va_get (D := D) (ci := 6) (v := .ref (A 1)) (C := RX7) (T := TX7) (N := 15) hx hb hts inT_X7 hown hK.1 hP 0 rfl rfl 0 (by decide) (hts _ wfl_RX7_7) (fun _ h9 => h9) rfl dX7_ifDays_22 ?_
      refine lv_iconst (v := 0) hx hb dX7_ifDays_25 (by decide) ?_
      refine lv_aload_n hx hb dX7_ifDays_26 rfl (lv_at hl 0 rfl) ?_
      refine va_get (D := D) (ci := 6) (v := .ref (A 2)) (C := RX7) (T := TX7) (N := 15) hx hb hts inT_X7 hown hK.1 hP 0 rfl rfl 1 (by decide) (hts _ wfl_RX7_13) (fun _ h9 => h9) rfl dX7_ifDays_27 ?_
      refine lv_iconst (v := 0) hx hb dX7_ifDays_30 (by decide) ?_
      obtain ⟨z_3, hz_3⟩ : ∃ q, q = (pX7_copies (fun _ => (u 0)) (fun _ => (u 1)) 0 0 142 142) := ⟨_, rfl⟩
      refine mS (ws := (wM cyI A u w)) (ws' := (wM cyI A (va_up u 1 (z_3 0)) w)) (As := [.ref (A 1), .int 0, .ref (A 2), .int 0]) (rest := []) hx hb hml hown hts hl.1 (WS := (wQ cyI 142 (fun _ => (A 1)) (fun _ => (u 0)) ++ (wQ cyI 142 (fun _ => (A 2)) (fun _ => (u 1))))) (WS' := (wQ cyI 142 (fun _ => (A 1)) (fun _ => (u 0)) ++ (wQ cyI 142 (fun _ => (A 2)) z_3))) (ro := none) (by rw [hz_3]; exact kX7_copies l D cyC cyI cyO (fun _ => (A 1)) (fun _ => (A 2)) (fun _ => (u 0)) (fun _ => (u 1)) 0 0 142 142 (by decide) (by decide) (by decide) (by decide)) bS_X7_copies  wml_RX7_37 ⟨rfl, rfl⟩ ⟨Nat.le_of_ble_eq_true rfl, Nat.le_of_ble_eq_true rfl, Nat.zero_le _, Nat.zero_le _⟩ [1, 2] rfl rfl rfl rfl rfl hP hD hS hA hK rfl rfl (Nat.le_of_ble_eq_true rfl) dX7_ifDays_31 (fun H locs hP hD hS => ?_)
      refine lv_iconst (v := 0) hx hb dX7_ifDays_34 (by decide) ?_
      refine lv_istore_n (lv' := [(3, .int 0), (0, .ref (A 0)), (1, .int a1), (2, .int a2)]) hx hb dX7_ifDays_35 rfl hl (by decide) rfl (fun ls hl => ?_)
      refine lv_iconst (v := 0) hx hb dX7_ifDays_36 (by decide) ?_
      refine lv_istore (lv' := [(4, .int 0), (3, .int 0), (0, .ref (A 0)), (1, .int a1), (2, .int a2)]) hx hb dX7_ifDays_37 hl (by decide) rfl (fun ls hl => ?_)
      have key_39 : ∀ k : Nat, ∀ (x0_3 : Int32) (x0_4 : Int32) (u0_0 : (Nat → Nat → Int32)) (w0_0 : (Nat → Int32)), (30 - (x0_4).toNatClampNeg) < k → pX7_ifDays_L39 u w a1 a2 k x0_3 x0_4 u0_0 w0_0 = (pX7_ifDays u w a1 a2) → DC x0_4 → LN u0_0 → (((u0_0 0) 2) ≤ 3) → ∀ (H : Heap) (locs : List Loc), va_P D vwCl (wM cyI A u0_0 w0_0) H → va_D A0 (wM cyI A u0_0 w0_0) → va_S A0 s.heap H locs → ∀ (ls : Array Slot), lv_has ls 5 [(0, .ref (A 0)), (1, .int a1), (2, .int a2), (3, .int x0_3), (4, .int x0_4)] → W p l e (headSpec (Ty yX7_ifDays cX7_ifDays 5 (some .int)) ({ frames := 5, cells := 0, slots := 0, locals := 114 } : Room)).room s m ([.ref (A 0), .int a1, .int a2] : List Value).toArray below meth cd H locs 0 0 (MQ below (MQQ (some (.int (pX7_ifDays u w a1 a2).1)) D (wM cyI A (pX7_ifDays u w a1 a2).2.1 (pX7_ifDays u w a1 a2).2.2) A0) ([.ref (A 0), .int a1, .int a2] : List Value).toArray s 0 0 A0) (F0 m 39 ls []) := by
        intro k
        induction k with
        | zero =>
          intro x0_3 x0_4 u0_0 w0_0 hm_39 hN_39 hct hlni hm3i H locs hP hD hS ls hl
          exact absurd hm_39 (Nat.not_lt_zero _)
        | succ k ih_39 =>
          intro x0_3 x0_4 u0_0 w0_0 hm_39 hN_39 hct hlni hm3i H locs hP hD hS ls hl
          refine lv_iload hx hb dX7_ifDays_39 (lv_at hl 4 rfl) ?_
          refine lv_iload_n hx hb dX7_ifDays_41 rfl (lv_at hl 1 rfl) ?_
          refine lv_icmp_ge (tgt := 56) hx hb dX7_ifDays_42 (by decide) (fun c_4 => ?_) (fun c_4 => ?_)
          · refine lv_iload_n hx hb dX7_ifDays_56 rfl (lv_at hl 2 rfl) ?_
            refine lv_if_ne (tgt := 64) hx hb dX7_ifDays_57 (by decide) (fun c_5 => ?_) (fun c_5 => ?_)
            · refine lv_iload_n hx hb dX7_ifDays_64 rfl (lv_at hl 2 rfl) ?_
              refine lv_iconst (v := 1) hx hb dX7_ifDays_65 (by decide) ?_
              refine lv_icmp_ne (tgt := 77) hx hb dX7_ifDays_66 (by decide) (fun c_6 => ?_) (fun c_6 => ?_)
              · refine lv_iload_n hx hb dX7_ifDays_77 rfl (lv_at hl 2 rfl) ?_
                refine lv_iconst (v := 2) hx hb dX7_ifDays_78 (by decide) ?_
                refine lv_icmp_ne (tgt := 90) hx hb dX7_ifDays_79 (by decide) (fun c_7 => ?_) (fun c_7 => ?_)
                · refine lv_aload_n hx hb dX7_ifDays_90 rfl (lv_at hl 0 rfl) ?_
                  refine va_get (D := D) (ci := 6) (v := .ref (A 1)) (C := RX7) (T := TX7) (N := 15) hx hb hts inT_X7 hown hK.1 hP 0 rfl rfl 0 (by decide) (hts _ wfl_RX7_7) (fun _ h9 => h9) rfl dX7_ifDays_91 ?_
                  refine lv_iconst (v := 1) hx hb dX7_ifDays_94 (by decide) ?_
                  refine va_iald (D := D) (f := (u0_0 0)) hx hb hK.1 hP 1 1 rfl rfl (vp_lit (by decide)) dX7_ifDays_95 ?_
                  refine W.eq (g2 := F0 m _ ls [.int ((u0_0 0) 1)]) rfl ?_
                  refine lv_istore (lv' := [(4, .int ((u0_0 0) 1)), (0, .ref (A 0)), (1, .int a1), (2, .int a2), (3, .int x0_3)]) hx hb dX7_ifDays_96 hl (by decide) rfl (fun ls hl => ?_)
                  refine lv_aload_n hx hb dX7_ifDays_98 rfl (lv_at hl 1 rfl) ?_
                  refine va_get (D := D) (ci := 6) (v := .ref (A 2)) (C := RX7) (T := TX7) (N := 15) hx hb hts inT_X7 hown hK.1 hP 0 rfl rfl 1 (by decide) (hts _ wfl_RX7_13) (fun _ h9 => h9) rfl dX7_ifDays_99 ?_
                  refine lv_iconst (v := 0) hx hb dX7_ifDays_102 (by decide) ?_
                  refine lv_aload_n hx hb dX7_ifDays_103 rfl (lv_at hl 1 rfl) ?_
                  refine va_get (D := D) (ci := 6) (v := .ref (A 1)) (C := RX7) (T := TX7) (N := 15) hx hb hts inT_X7 hown hK.1 hP 0 rfl rfl 0 (by decide) (hts _ wfl_RX7_7) (fun _ h9 => h9) rfl dX7_ifDays_104 ?_
                  refine lv_iconst (v := 0) hx hb dX7_ifDays_107 (by decide) ?_
                  obtain ⟨z_8, hz_8⟩ : ∃ q, q = (pX7_copies (fun _ => (u0_0 1)) (fun _ => (u0_0 0)) 0 0 142 142) := ⟨_, rfl⟩
                  refine mS (ws := (wM cyI A u0_0 w0_0)) (ws' := (wM cyI A (va_up u0_0 0 (z_8 0)) w0_0)) (As := [.ref (A 2), .int 0, .ref (A 1), .int 0]) (rest := []) hx hb hml hown hts hl.1 (WS := (wQ cyI 142 (fun _ => (A 2)) (fun _ => (u0_0 1)) ++ (wQ cyI 142 (fun _ => (A 1)) (fun _ => (u0_0 0))))) (WS' := (wQ cyI 142 (fun _ => (A 2)) (fun _ => (u0_0 1)) ++ (wQ cyI 142 (fun _ => (A 1)) z_8))) (ro := none) (by rw [hz_8]; exact kX7_copies l D cyC cyI cyO (fun _ => (A 2)) (fun _ => (A 1)) (fun _ => (u0_0 1)) (fun _ => (u0_0 0)) 0 0 142 142 (by decide) (by decide) (by decide) (by decide)) bS_X7_copies  wml_RX7_37 ⟨rfl, rfl⟩ ⟨Nat.le_of_ble_eq_true rfl, Nat.le_of_ble_eq_true rfl, Nat.zero_le _, Nat.zero_le _⟩ [2, 1] rfl rfl rfl rfl rfl hP hD hS hA hK rfl rfl (Nat.le_of_ble_eq_true rfl) dX7_ifDays_108 (fun H locs hP hD hS => ?_)
                  refine lv_iload hx hb dX7_ifDays_111 (lv_at hl 0 rfl) ?_
                  have e9 : (pX7_ifDays u w a1 a2) = (((u0_0 0) 1), (va_up u0_0 0 (z_8 0)), w0_0) := by rw [← hN_39, pX7_ifDays_L39_s] <;> simp only [← hz_3, ← hz_8, if_pos c_4, if_neg c_5, if_neg c_6, if_neg c_7]
                  have e9_0 : (pX7_ifDays u w a1 a2).1 = ((u0_0 0) 1) := by rw [e9]
                  have e9_1 : (pX7_ifDays u w a1 a2).2.1 = (va_up u0_0 0 (z_8 0)) := by rw [e9]
                  have e9_2 : (pX7_ifDays u w a1 a2).2.2 = w0_0 := by rw [e9]
                  exact W.iret (v := ((u0_0 0) 1)) hx hb hr (fun t ht hW => ⟨⟨by rw [e9_0], by rw [e9_1, e9_2, ht]; exact hP⟩, hS.F ht⟩) hS.2.2 dX7_ifDays_113
                · refine lv_aload_n hx hb dX7_ifDays_82 rfl (lv_at hl 0 rfl) ?_
                  refine lv_iconst (v := 3) hx hb dX7_ifDays_83 (by decide) ?_
                  refine rV (As := [.int 3]) (rest := []) hx hb hml hown hts hl.1 (kX7_sumOf l D cyC cyI cyO A u0_0 w0_0 3 (vp_lit (by decide))) bV_X7_sumOf  wml_RX7_226 ⟨rfl, rfl⟩ ⟨Nat.le_of_ble_eq_true rfl, Nat.le_of_ble_eq_true rfl, Nat.zero_le _, Nat.zero_le _⟩ [0, 1, 2, 3, 4, 5, 6] rfl hP hK 0 rfl rfl rfl rfl rfl (Nat.le_of_ble_eq_true rfl) dX7_ifDays_84 ?_
                  refine lv_goto (tgt := 96) hx hb dX7_ifDays_87 (by decide) ?_
                  refine lv_istore (lv' := [(4, .int (pX7_sumOf u0_0 w0_0 3)), (0, .ref (A 0)), (1, .int a1), (2, .int a2), (3, .int x0_3)]) hx hb dX7_ifDays_96 hl (by decide) rfl (fun ls hl => ?_)
                  refine lv_aload_n hx hb dX7_ifDays_98 rfl (lv_at hl 1 rfl) ?_
                  refine va_get (D := D) (ci := 6) (v := .ref (A 2)) (C := RX7) (T := TX7) (N := 15) hx hb hts inT_X7 hown hK.1 hP 0 rfl rfl 1 (by decide) (hts _ wfl_RX7_13) (fun _ h9 => h9) rfl dX7_ifDays_99 ?_
                  refine lv_iconst (v := 0) hx hb dX7_ifDays_102 (by decide) ?_
                  refine lv_aload_n hx hb dX7_ifDays_103 rfl (lv_at hl 1 rfl) ?_
                  refine va_get (D := D) (ci := 6) (v := .ref (A 1)) (C := RX7) (T := TX7) (N := 15) hx hb hts inT_X7 hown hK.1 hP 0 rfl rfl 0 (by decide) (hts _ wfl_RX7_7) (fun _ h9 => h9) rfl dX7_ifDays_104 ?_
                  refine lv_iconst (v := 0) hx hb dX7_ifDays_107 (by decide) ?_
                  obtain ⟨z_9, hz_9⟩ : ∃ q, q = (pX7_copies (fun _ => (u0_0 1)) (fun _ => (u0_0 0)) 0 0 142 142) := ⟨_, rfl⟩
                  refine mS (ws := (wM cyI A u0_0 w0_0)) (ws' := (wM cyI A (va_up u0_0 0 (z_9 0)) w0_0)) (As := [.ref (A 2), .int 0, .ref (A 1), .int 0]) (rest := []) hx hb hml hown hts hl.1 (WS := (wQ cyI 142 (fun _ => (A 2)) (fun _ => (u0_0 1)) ++ (wQ cyI 142 (fun _ => (A 1)) (fun _ => (u0_0 0))))) (WS' := (wQ cyI 142 (fun _ => (A 2)) (fun _ => (u0_0 1)) ++ (wQ cyI 142 (fun _ => (A 1)) z_9))) (ro := none) (by rw [hz_9]; exact kX7_copies l D cyC cyI cyO (fun _ => (A 2)) (fun _ => (A 1)) (fun _ => (u0_0 1)) (fun _ => (u0_0 0)) 0 0 142 142 (by decide) (by decide) (by decide) (by decide)) bS_X7_copies  wml_RX7_37 ⟨rfl, rfl⟩ ⟨Nat.le_of_ble_eq_true rfl, Nat.le_of_ble_eq_true rfl, Nat.zero_le _, Nat.zero_le _⟩ [2, 1] rfl rfl rfl rfl rfl hP hD hS hA hK rfl rfl (Nat.le_of_ble_eq_true rfl) dX7_ifDays_108 (fun H locs hP hD hS => ?_)
                  refine lv_iload hx hb dX7_ifDays_111 (lv_at hl 0 rfl) ?_
                  have e9 : (pX7_ifDays u w a1 a2) = ((pX7_sumOf u0_0 w0_0 3), (va_up u0_0 0 (z_9 0)), w0_0) := by rw [← hN_39, pX7_ifDays_L39_s] <;> simp only [← hz_3, ← hz_9, if_pos c_4, if_neg c_5, if_neg c_6, if_pos c_7]
                  have e9_0 : (pX7_ifDays u w a1 a2).1 = (pX7_sumOf u0_0 w0_0 3) := by rw [e9]
                  have e9_1 : (pX7_ifDays u w a1 a2).2.1 = (va_up u0_0 0 (z_9 0)) := by rw [e9]
                  have e9_2 : (pX7_ifDays u w a1 a2).2.2 = w0_0 := by rw [e9]
                  exact W.iret (v := (pX7_sumOf u0_0 w0_0 3)) hx hb hr (fun t ht hW => ⟨⟨by rw [e9_0], by rw [e9_1, e9_2, ht]; exact hP⟩, hS.F ht⟩) hS.2.2 dX7_ifDays_113
              · refine lv_aload_n hx hb dX7_ifDays_69 rfl (lv_at hl 0 rfl) ?_
                refine lv_iconst (v := 2) hx hb dX7_ifDays_70 (by decide) ?_
                refine rV (As := [.int 2]) (rest := []) hx hb hml hown hts hl.1 (kX7_sumOf l D cyC cyI cyO A u0_0 w0_0 2 (vp_lit (by decide))) bV_X7_sumOf  wml_RX7_226 ⟨rfl, rfl⟩ ⟨Nat.le_of_ble_eq_true rfl, Nat.le_of_ble_eq_true rfl, Nat.zero_le _, Nat.zero_le _⟩ [0, 1, 2, 3, 4, 5, 6] rfl hP hK 0 rfl rfl rfl rfl rfl (Nat.le_of_ble_eq_true rfl) dX7_ifDays_71 ?_
                refine lv_goto (tgt := 96) hx hb dX7_ifDays_74 (by decide) ?_
                refine lv_istore (lv' := [(4, .int (pX7_sumOf u0_0 w0_0 2)), (0, .ref (A 0)), (1, .int a1), (2, .int a2), (3, .int x0_3)]) hx hb dX7_ifDays_96 hl (by decide) rfl (fun ls hl => ?_)
                refine lv_aload_n hx hb dX7_ifDays_98 rfl (lv_at hl 1 rfl) ?_
                refine va_get (D := D) (ci := 6) (v := .ref (A 2)) (C := RX7) (T := TX7) (N := 15) hx hb hts inT_X7 hown hK.1 hP 0 rfl rfl 1 (by decide) (hts _ wfl_RX7_13) (fun _ h9 => h9) rfl dX7_ifDays_99 ?_
                refine lv_iconst (v := 0) hx hb dX7_ifDays_102 (by decide) ?_
                refine lv_aload_n hx hb dX7_ifDays_103 rfl (lv_at hl 1 rfl) ?_
                refine va_get (D := D) (ci := 6) (v := .ref (A 1)) (C := RX7) (T := TX7) (N := 15) hx hb hts inT_X7 hown hK.1 hP 0 rfl rfl 0 (by decide) (hts _ wfl_RX7_7) (fun _ h9 => h9) rfl dX7_ifDays_104 ?_
                refine lv_iconst (v := 0) hx hb dX7_ifDays_107 (by decide) ?_
                obtain ⟨z_10, hz_10⟩ : ∃ q, q = (pX7_copies (fun _ => (u0_0 1)) (fun _ => (u0_0 0)) 0 0 142 142) := ⟨_, rfl⟩
                refine mS (ws := (wM cyI A u0_0 w0_0)) (ws' := (wM cyI A (va_up u0_0 0 (z_10 0)) w0_0)) (As := [.ref (A 2), .int 0, .ref (A 1), .int 0]) (rest := []) hx hb hml hown hts hl.1 (WS := (wQ cyI 142 (fun _ => (A 2)) (fun _ => (u0_0 1)) ++ (wQ cyI 142 (fun _ => (A 1)) (fun _ => (u0_0 0))))) (WS' := (wQ cyI 142 (fun _ => (A 2)) (fun _ => (u0_0 1)) ++ (wQ cyI 142 (fun _ => (A 1)) z_10))) (ro := none) (by rw [hz_10]; exact kX7_copies l D cyC cyI cyO (fun _ => (A 2)) (fun _ => (A 1)) (fun _ => (u0_0 1)) (fun _ => (u0_0 0)) 0 0 142 142 (by decide) (by decide) (by decide) (by decide)) bS_X7_copies  wml_RX7_37 ⟨rfl, rfl⟩ ⟨Nat.le_of_ble_eq_true rfl, Nat.le_of_ble_eq_true rfl, Nat.zero_le _, Nat.zero_le _⟩ [2, 1] rfl rfl rfl rfl rfl hP hD hS hA hK rfl rfl (Nat.le_of_ble_eq_true rfl) dX7_ifDays_108 (fun H locs hP hD hS => ?_)
                refine lv_iload hx hb dX7_ifDays_111 (lv_at hl 0 rfl) ?_
                have e9 : (pX7_ifDays u w a1 a2) = ((pX7_sumOf u0_0 w0_0 2), (va_up u0_0 0 (z_10 0)), w0_0) := by rw [← hN_39, pX7_ifDays_L39_s] <;> simp only [← hz_3, ← hz_10, if_pos c_4, if_neg c_5, if_pos c_6]
                have e9_0 : (pX7_ifDays u w a1 a2).1 = (pX7_sumOf u0_0 w0_0 2) := by rw [e9]
                have e9_1 : (pX7_ifDays u w a1 a2).2.1 = (va_up u0_0 0 (z_10 0)) := by rw [e9]
                have e9_2 : (pX7_ifDays u w a1 a2).2.2 = w0_0 := by rw [e9]
                exact W.iret (v := (pX7_sumOf u0_0 w0_0 2)) hx hb hr (fun t ht hW => ⟨⟨by rw [e9_0], by rw [e9_1, e9_2, ht]; exact hP⟩, hS.F ht⟩) hS.2.2 dX7_ifDays_113
            · refine lv_iload_n hx hb dX7_ifDays_60 rfl (lv_at hl 3 rfl) ?_
              refine lv_goto (tgt := 96) hx hb dX7_ifDays_61 (by decide) ?_
              refine lv_istore (lv' := [(4, .int x0_3), (0, .ref (A 0)), (1, .int a1), (2, .int a2), (3, .int x0_3)]) hx hb dX7_ifDays_96 hl (by decide) rfl (fun ls hl => ?_)
              refine lv_aload_n hx hb dX7_ifDays_98 rfl (lv_at hl 1 rfl) ?_
              refine va_get (D := D) (ci := 6) (v := .ref (A 2)) (C := RX7) (T := TX7) (N := 15) hx hb hts inT_X7 hown hK.1 hP 0 rfl rfl 1 (by decide) (hts _ wfl_RX7_13) (fun _ h9 => h9) rfl dX7_ifDays_99 ?_
              refine lv_iconst (v := 0) hx hb dX7_ifDays_102 (by decide) ?_
              refine lv_aload_n hx hb dX7_ifDays_103 rfl (lv_at hl 1 rfl) ?_
              refine va_get (D := D) (ci := 6) (v := .ref (A 1)) (C := RX7) (T := TX7) (N := 15) hx hb hts inT_X7 hown hK.1 hP 0 rfl rfl 0 (by decide) (hts _ wfl_RX7_7) (fun _ h9 => h9) rfl dX7_ifDays_104 ?_
              refine lv_iconst (v := 0) hx hb dX7_ifDays_107 (by decide) ?_
              obtain ⟨z_11, hz_11⟩ : ∃ q, q = (pX7_copies (fun _ => (u0_0 1)) (fun _ => (u0_0 0)) 0 0 142 142) := ⟨_, rfl⟩
              refine mS (ws := (wM cyI A u0_0 w0_0)) (ws' := (wM cyI A (va_up u0_0 0 (z_11 0)) w0_0)) (As := [.ref (A 2), .int 0, .ref (A 1), .int 0]) (rest := []) hx hb hml hown hts hl.1 (WS := (wQ cyI 142 (fun _ => (A 2)) (fun _ => (u0_0 1)) ++ (wQ cyI 142 (fun _ => (A 1)) (fun _ => (u0_0 0))))) (WS' := (wQ cyI 142 (fun _ => (A 2)) (fun _ => (u0_0 1)) ++ (wQ cyI 142 (fun _ => (A 1)) z_11))) (ro := none) (by rw [hz_11]; exact kX7_copies l D cyC cyI cyO (fun _ => (A 2)) (fun _ => (A 1)) (fun _ => (u0_0 1)) (fun _ => (u0_0 0)) 0 0 142 142 (by decide) (by decide) (by decide) (by decide)) bS_X7_copies  wml_RX7_37 ⟨rfl, rfl⟩ ⟨Nat.le_of_ble_eq_true rfl, Nat.le_of_ble_eq_true rfl, Nat.zero_le _, Nat.zero_le _⟩ [2, 1] rfl rfl rfl rfl rfl hP hD hS hA hK rfl rfl (Nat.le_of_ble_eq_true rfl) dX7_ifDays_108 (fun H locs hP hD hS => ?_)
              refine lv_iload hx hb dX7_ifDays_111 (lv_at hl 0 rfl) ?_
              have e9 : (pX7_ifDays u w a1 a2) = (x0_3, (va_up u0_0 0 (z_11 0)), w0_0) := by rw [← hN_39, pX7_ifDays_L39_s] <;> simp only [← hz_3, ← hz_11, if_pos c_4, if_pos c_5]
              have e9_0 : (pX7_ifDays u w a1 a2).1 = x0_3 := by rw [e9]
              have e9_1 : (pX7_ifDays u w a1 a2).2.1 = (va_up u0_0 0 (z_11 0)) := by rw [e9]
              have e9_2 : (pX7_ifDays u w a1 a2).2.2 = w0_0 := by rw [e9]
              exact W.iret (v := x0_3) hx hb hr (fun t ht hW => ⟨⟨by rw [e9_0], by rw [e9_1, e9_2, ht]; exact hP⟩, hS.F ht⟩) hS.2.2 dX7_ifDays_113
          · refine lv_aload_n hx hb dX7_ifDays_45 rfl (lv_at hl 0 rfl) ?_
            obtain ⟨z_12, hz_12⟩ : ∃ q, q = (pX7_goDay u0_0 w0_0) := ⟨_, rfl⟩
            refine mV (ws := (wM cyI A u0_0 w0_0)) (ws' := (wM cyI A z_12.2.1 z_12.2.2)) (As := []) (rest := []) hx hb hml hown hts hl.1 (WS := (wM cyI A u0_0 w0_0)) (WS' := (wM cyI A z_12.2.1 z_12.2.2)) (ro := (some (.int z_12.1))) (by rw [hz_12]; exact kX7_goDay l D cyC cyI cyO A u0_0 w0_0 hm3i hlni) bV_X7_goDay  wml_RX7_142 ⟨rfl, rfl⟩ ⟨Nat.le_of_ble_eq_true rfl, Nat.le_of_ble_eq_true rfl, Nat.zero_le _, Nat.zero_le _⟩ [0, 1, 2, 3, 4, 5, 6] rfl rfl rfl rfl rfl hP hD hS hA hK 0 rfl rfl rfl rfl rfl (Nat.le_of_ble_eq_true rfl) dX7_ifDays_46 (fun H locs hP hD hS => ?_)
            refine lv_istore_n (lv' := [(3, .int z_12.1), (0, .ref (A 0)), (1, .int a1), (2, .int a2), (4, .int x0_4)]) hx hb dX7_ifDays_49 rfl hl (by decide) rfl (fun ls hl => ?_)
            refine lv_iinc (v := (x0_4 + (1 : Int32))) (lv' := [(4, .int (x0_4 + (1 : Int32))), (3, .int z_12.1), (0, .ref (A 0)), (1, .int a1), (2, .int a2)]) hx hb dX7_ifDays_50 hl (k := 4) rfl rfl (by decide) rfl (fun ls hl => ?_)
            refine lv_goto (tgt := 39) hx hb dX7_ifDays_53 (by decide) ?_
            exact ih_39  z_12.1 (x0_4 + (1 : Int32)) z_12.2.1 z_12.2.2 (by have h9 := (dstep0 hct c_4 (w7_30 c_1)); omega) (by rw [← hN_39, pX7_ifDays_L39_s] <;> simp only [← hz_3, ← hz_12, if_neg c_4]) (dstep0 hct c_4 (w7_30 c_1)).2.2 (by rw [hz_12]; exact (gd_iv _ _ hlni).1) (by rw [hz_12, (gd_iv _ _ hlni).2]; exact hm3i) _ _ hP hD hS ls (lv_sub hl [2, 3, 4, 1, 0] rfl)
      exact key_39 31 0 0 (va_up u 1 (z_3 0)) w (by omega) (by simp only [pX7_ifDays, ← hz_3, if_neg c_1, if_neg c_2]) DC_0 hln hm3 _ _ hP hD hS ls (lv_sub hl [2, 3, 4, 1, 0] rfl)
    · refine lv_iconst (v := (-1)) hx hb dX7_ifDays_19 (by decide) ?_
      have e9 : (pX7_ifDays u w a1 a2) = ((-1), u, w) := by simp only [pX7_ifDays, if_neg c_1, if_pos c_2]
      have e9_0 : (pX7_ifDays u w a1 a2).1 = (-1) := by rw [e9]
      have e9_1 : (pX7_ifDays u w a1 a2).2.1 = u := by rw [e9]
      have e9_2 : (pX7_ifDays u w a1 a2).2.2 = w := by rw [e9]
      exact W.iret (v := (-1)) hx hb hr (fun t ht hW => ⟨⟨by rw [e9_0], by rw [e9_1, e9_2, ht]; exact hP⟩, hS.F ht⟩) hS.2.2 dX7_ifDays_20
theorem bV_X7_ifDays : BV RX7 yX7_ifDays cX7_ifDays 5 (some .int) 2 := ⟨wcd_X7_ifDays, wim_X7_ifDays, wse_X7_ifDays, win_RX7, by decide +kernel⟩
