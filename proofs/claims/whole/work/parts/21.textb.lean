theorem ADV_0 {k : Nat} {w : Nat → Int32} : ADV k w w := ADV_le (ADV_rf w) (Nat.zero_le _)
theorem ADV_s1 {k : Nat} {w X : Nat → Int32} {u : Nat → Nat → Int32} {b : Int32} (h : ADV k w X) : ADV (k + 1) w (pX7_takes u X b).2 := ADV_tr h (takes_adv _ _ _)
theorem ADV_s2 {k : Nat} {w X : Nat → Int32} {u : Nat → Nat → Int32} {b : Int32} (h : ADV k w X) : ADV (k + 2) w (pX7_takesNumber u X b).2.2 := ADV_tr h (takesNumber_adv _ _ _)
theorem ADV_u0 {k : Nat} {w X : Nat → Int32} {v : Int32} (h : ADV k w X) : ADV k w (va_up X 10 v) := h
theorem ADV_u1 {k : Nat} {w X : Nat → Int32} {v : Int32} (h : ADV k w X) : ADV k w (va_up X 11 v) := h
theorem ADV_u2 {k : Nat} {w X : Nat → Int32} {v : Int32} (h : ADV k w X) : ADV k w (va_up X 12 v) := h
theorem takesOrder_adv (u : Nat → Nat → Int32) (w : Nat → Int32) : ADV 8 w (pX7_takesOrder u w).2 := by
  unfold pX7_takesOrder
  repeat' split
  all_goals (repeat (first | with_reducible exact ADV_0 | with_reducible refine ADV_s1 ?_ | with_reducible refine ADV_s2 ?_ | with_reducible refine ADV_u0 ?_ | with_reducible refine ADV_u1 ?_ | with_reducible refine ADV_u2 ?_))
theorem SP_cl {n : Nat} {w : Nat → Int32} (h : SP n w) (hn : n < 2000) : (w 8).toNatClampNeg ≤ n := by
  obtain ⟨sp, h1, h2⟩ := h
  rw [h1, nI_clamp (by omega)]
  exact h2
theorem SP_lt {n : Nat} {w : Nat → Int32} (h : SP n w) (hn : n < 2000) (h6 : (w 7) ≤ 60) (hc : ¬ (w 7) ≤ (w 8)) : SP 59 w := by
  obtain ⟨sp, h1, h2⟩ := h
  rw [h1] at hc
  have a1 := Int32.le_iff_toInt_le.mp h6
  have a2 := Int32.lt_iff_toInt_lt.mp (Int32.not_le.mp hc)
  rw [nI_toInt (by omega)] at a2
  rw [show (60 : Int32).toInt = 60 from rfl] at a1
  exact ⟨sp, h1, by omega⟩
theorem adv_cl {n a : Nat} {w w' : Nat → Int32} (h : SP a w) (hv : ADV n w w') (hb : a + n < 2000) : (w 8).toNatClampNeg ≤ (w' 8).toNatClampNeg := by
  obtain ⟨sp, h1, h2⟩ := h
  obtain ⟨⟨d, a1, a2⟩, -⟩ := hv
  rw [a2, h1, nI_add, nI_clamp (by omega), nI_clamp (by omega)]
  omega
theorem takes_one {u : Nat → Nat → Int32} {w : Nat → Int32} {b : Int32} (h : ¬ ((pX7_takes u w b).2 9) = 0) : (pX7_takes u w b).2 8 = w 8 + 1 := by
  revert h
  unfold pX7_takes
  (repeat' split) <;> intro h
  · exact absurd rfl h
  · exact absurd rfl h
  · rfl
theorem it_dec {w wa wb : Nat → Int32} (h : SP 59 w) (h1 : wa 8 = w 8 + 1) (hv : ADV 8 wa wb) : (w 8).toNatClampNeg + 1 ≤ (wb 8).toNatClampNeg := by
  obtain ⟨sp, a1, a2⟩ := h
  obtain ⟨⟨d, b1, b2⟩, -⟩ := hv
  rw [b2, h1, a1, nI_1, nI_add, nI_clamp (by omega), nI_clamp (by omega)]
  omega
def BZ (w : Nat → Int32) : Prop := w 9 = 0 ∨ w 9 = 1
theorem takes_bz (u : Nat → Nat → Int32) (w : Nat → Int32) (b : Int32) : BZ (pX7_takes u w b).2 := by
  unfold pX7_takes
  (repeat' split) <;> first | exact Or.inl rfl | exact Or.inr rfl
theorem takesNumber_bz (u : Nat → Nat → Int32) (w : Nat → Int32) (b : Int32) : BZ (pX7_takesNumber u w b).2.2 := by
  unfold pX7_takesNumber
  (repeat' split) <;> exact takes_bz _ _ _
theorem BZ_u0 {X : Nat → Int32} {v : Int32} (h : BZ X) : BZ (va_up X 10 v) := h
theorem BZ_u1 {X : Nat → Int32} {v : Int32} (h : BZ X) : BZ (va_up X 11 v) := h
theorem BZ_u2 {X : Nat → Int32} {v : Int32} (h : BZ X) : BZ (va_up X 12 v) := h
theorem takesOrder_bz (u : Nat → Nat → Int32) (w : Nat → Int32) : BZ (pX7_takesOrder u w).2 := by
  unfold pX7_takesOrder
  repeat' split
  all_goals (repeat (first | with_reducible exact takes_bz _ _ _ | with_reducible exact takesNumber_bz _ _ _ | with_reducible refine BZ_u0 ?_ | with_reducible refine BZ_u1 ?_ | with_reducible refine BZ_u2 ?_))
def pX7_isText_L14 (u : (Nat → Nat → Int32)) (w : (Nat → Int32)) : Nat → (Nat → Nat → Int32) → (Nat → Int32) → Int32 × (Nat → Nat → Int32) × (Nat → Int32)
  | 0, _, _ => (0, default, default)
  | k + 1, u0_0, w0_0 => (if (w0_0 9) = 0 then ((w0_0 9), u0_0, w0_0) else (if (w0_0 7) ≤ (w0_0 8) then ((w0_0 9), u0_0, w0_0) else (if (pX7_here u0_0 w0_0) = 44 then (if ((pX7_takes u0_0 w0_0 1).2 9) = 0 then (pX7_isText_L14 u w k (pX7_takes u0_0 w0_0 1).1 (pX7_takes u0_0 w0_0 1).2) else (pX7_isText_L14 u w k (pX7_takesOrder (pX7_takes u0_0 w0_0 1).1 (pX7_takes u0_0 w0_0 1).2).1 (pX7_takesOrder (pX7_takes u0_0 w0_0 1).1 (pX7_takes u0_0 w0_0 1).2).2)) else (if ((pX7_takes u0_0 w0_0 0).2 9) = 0 then (pX7_isText_L14 u w k (pX7_takes u0_0 w0_0 0).1 (pX7_takes u0_0 w0_0 0).2) else (pX7_isText_L14 u w k (pX7_takesOrder (pX7_takes u0_0 w0_0 0).1 (pX7_takes u0_0 w0_0 0).2).1 (pX7_takesOrder (pX7_takes u0_0 w0_0 0).1 (pX7_takes u0_0 w0_0 0).2).2)))))
theorem pX7_isText_L14_s (u : (Nat → Nat → Int32)) (w : (Nat → Int32)) (k : Nat) (u0_0 : (Nat → Nat → Int32)) (w0_0 : (Nat → Int32)) : pX7_isText_L14 u w (k + 1) u0_0 w0_0 = (if (w0_0 9) = 0 then ((w0_0 9), u0_0, w0_0) else (if (w0_0 7) ≤ (w0_0 8) then ((w0_0 9), u0_0, w0_0) else (if (pX7_here u0_0 w0_0) = 44 then (if ((pX7_takes u0_0 w0_0 1).2 9) = 0 then (pX7_isText_L14 u w k (pX7_takes u0_0 w0_0 1).1 (pX7_takes u0_0 w0_0 1).2) else (pX7_isText_L14 u w k (pX7_takesOrder (pX7_takes u0_0 w0_0 1).1 (pX7_takes u0_0 w0_0 1).2).1 (pX7_takesOrder (pX7_takes u0_0 w0_0 1).1 (pX7_takes u0_0 w0_0 1).2).2)) else (if ((pX7_takes u0_0 w0_0 0).2 9) = 0 then (pX7_isText_L14 u w k (pX7_takes u0_0 w0_0 0).1 (pX7_takes u0_0 w0_0 0).2) else (pX7_isText_L14 u w k (pX7_takesOrder (pX7_takes u0_0 w0_0 0).1 (pX7_takes u0_0 w0_0 0).2).1 (pX7_takesOrder (pX7_takes u0_0 w0_0 0).1 (pX7_takes u0_0 w0_0 0).2).2))))) := rfl
def pX7_isText (u : (Nat → Nat → Int32)) (w : (Nat → Int32)) : Int32 × (Nat → Nat → Int32) × (Nat → Int32) := (pX7_isText_L14 u w 200 (pX7_takesOrder u (va_up (va_up w 8 0) 9 1)).1 (pX7_takesOrder u (va_up (va_up w 8 0) 9 1)).2)
set_option maxHeartbeats 4000000 in
set_option maxRecDepth 100000 in
theorem kX7_isText (l : Launch) (D : va_G) (cyC cyI cyO : ClassId) (A : Nat → Nat) (u : (Nat → Nat → Int32)) (w : (Nat → Int32)) (hl6 : (w 7) ≤ 60) : MU l yX7_isText (Ty yX7_isText cX7_isText 1 (some .boolean)) ({ frames := 5, cells := 0, slots := 0, locals := 107 } : Room) D cyC cyI cyO (wM cyI A u w) [.ref (A 0)] (some (.int (pX7_isText u w).1)) (wM cyI A (pX7_isText u w).2.1 (pX7_isText u w).2.2) := by
  intro sz
  refine Met.ofW (cc := cX7_isText) (maxL := 1) (ret := (some .boolean)) (by decide) rfl ?_
  intro p e s m args below meth cd s₁ B hml hv
  obtain ⟨rfl, hsz, hP, hK, hD0⟩ := hv
  have hx := B.exec
  have hb := B.bytes
  have hr := B.returns
  have hts : ∀ w ∈ TB, w.before ([.ref (A 0)] : List Value).toArray s = true := fun w h => atoms_spec (ws := (Ty yX7_isText cX7_isText 1 (some .boolean))) B.pre w (List.mem_cons_of_mem _ h)
  have hown : s.vm.findClass RX7 = some m.cls := findClass_of_methodNamed B.named
  have hlocks := B.notSynchronized
  subst hsz
  have hD := hD0.self (sz := s.heap.size)
  have hA : ∀ q : Nat, s.heap.size ≤ q → (va_A (wM cyI A u w) s.heap.size) q := fun q h => Or.inr h
  generalize hAe : va_A (wM cyI A u w) s.heap.size = A0 at hD hA ⊢
  have hS : va_S A0 s.heap s.heap [] := va_S.rf
  have hl := lv_entry ([.ref (A 0)]) (n := 1) (Nat.le_of_ble_eq_true rfl)
  rw [lg_entry_eq]
  generalize (lg_sl ([.ref (A 0)]) ++ List.replicate (1 - (lg_sl ([.ref (A 0)])).length) Slot.unset).toArray = ls at hl ⊢
  have hl : lv_has ls 1 [(0, .ref (A 0))] := hl
  refine lv_aload_n hx hb dX7_isText_0 rfl (lv_at hl 0 rfl) ?_
  refine lv_iconst (v := 0) hx hb dX7_isText_1 (by decide) ?_
  refine va_put (D := D) (ci := 6) (v := .int 0) (ty := .int) (C := RX7) (T := TX7) (N := 15) hx hb hts inT_X7 tyX7 tyX7_ok nmX7 hown hK.1 hP hD hS 0 rfl rfl 8 (by decide) (hts _ wfl_RX7_148) (fun _ h9 => h9) rfl (by decide +kernel) (by rfl) rfl (Nat.le_of_ble_eq_true rfl) dX7_isText_2 (fun H locs hP hD hS => ?_)
  have hP : va_P D vwCl (wM cyI A u (va_up w 8 0)) H := hP
  have hD : va_D A0 (wM cyI A u (va_up w 8 0)) := hD
  refine lv_aload_n hx hb dX7_isText_5 rfl (lv_at hl 0 rfl) ?_
  refine lv_iconst (v := 1) hx hb dX7_isText_6 (by decide) ?_
  refine va_put (D := D) (ci := 6) (v := .int 1) (ty := .boolean) (C := RX7) (T := TX7) (N := 15) hx hb hts inT_X7 tyX7 tyX7_ok nmX7 hown hK.1 hP hD hS 0 rfl rfl 9 (by decide) (hts _ wfl_RX7_151) (fun _ h9 => h9) rfl (by decide +kernel) (by rfl) (by rfl) (Nat.le_of_ble_eq_true rfl) dX7_isText_7 (fun H locs hP hD hS => ?_)
  have hP : va_P D vwCl (wM cyI A u (va_up (va_up w 8 0) 9 1)) H := hP
  have hD : va_D A0 (wM cyI A u (va_up (va_up w 8 0) 9 1)) := hD
  refine lv_aload_n hx hb dX7_isText_10 rfl (lv_at hl 0 rfl) ?_
  obtain ⟨z_1, hz_1⟩ : ∃ q, q = (pX7_takesOrder u (va_up (va_up w 8 0) 9 1)) := ⟨_, rfl⟩
  refine mV (ws := (wM cyI A u (va_up (va_up w 8 0) 9 1))) (ws' := (wM cyI A z_1.1 z_1.2)) (As := []) (rest := []) hx hb hml hown hts hl.1 (WS := (wM cyI A u (va_up (va_up w 8 0) 9 1))) (WS' := (wM cyI A z_1.1 z_1.2)) (ro := none) (by rw [hz_1]; exact kX7_takesOrder l D cyC cyI cyO A u (va_up (va_up w 8 0) 9 1) ⟨0, nI_0.symm, by decide⟩ hl6) bV_X7_takesOrder  wml_RX7_179 ⟨rfl, rfl⟩ ⟨Nat.le_of_ble_eq_true rfl, Nat.le_of_ble_eq_true rfl, Nat.zero_le _, Nat.zero_le _⟩ [0, 1, 2, 3, 4, 5, 6] rfl rfl rfl rfl rfl hP hD hS hA hK 0 rfl rfl rfl rfl rfl (Nat.le_of_ble_eq_true rfl) dX7_isText_11 (fun H locs hP hD hS => ?_)
  have key_14 : ∀ k : Nat, ∀ (u0_0 : (Nat → Nat → Int32)) (w0_0 : (Nat → Int32)), (if (w0_0 9) = 0 then 0 else 1 + (100 - ((w0_0 8)).toNatClampNeg)) < k → pX7_isText_L14 u w k u0_0 w0_0 = (pX7_isText u w) → SP 70 w0_0 → ((w0_0 7) ≤ 60) → BZ w0_0 → ∀ (H : Heap) (locs : List Loc), va_P D vwCl (wM cyI A u0_0 w0_0) H → va_D A0 (wM cyI A u0_0 w0_0) → va_S A0 s.heap H locs → ∀ (ls : Array Slot), lv_has ls 1 [(0, .ref (A 0))] → W p l e (headSpec (Ty yX7_isText cX7_isText 1 (some .boolean)) ({ frames := 5, cells := 0, slots := 0, locals := 107 } : Room)).room s m ([.ref (A 0)] : List Value).toArray below meth cd H locs 0 0 (MQ below (MQQ (some (.int (pX7_isText u w).1)) D (wM cyI A (pX7_isText u w).2.1 (pX7_isText u w).2.2) A0) ([.ref (A 0)] : List Value).toArray s 0 0 A0) (F0 m 14 ls []) := by
    intro k
    induction k with
    | zero =>
      intro u0_0 w0_0 hm_14 hN_14 hspi hl6i hbzi H locs hP hD hS ls hl
      exact absurd hm_14 (Nat.not_lt_zero _)
    | succ k ih_14 =>
      intro u0_0 w0_0 hm_14 hN_14 hspi hl6i hbzi H locs hP hD hS ls hl
      refine lv_aload_n hx hb dX7_isText_14 rfl (lv_at hl 0 rfl) ?_
      refine va_get (D := D) (ci := 6) (v := .int (w0_0 9)) (C := RX7) (T := TX7) (N := 15) hx hb hts inT_X7 hown hK.1 hP 0 rfl rfl 9 (by decide) (hts _ wfl_RX7_151) (fun _ h9 => h9) rfl dX7_isText_15 ?_
      refine lv_if_eq (tgt := 64) hx hb dX7_isText_18 (by decide) (fun c_2 => ?_) (fun c_2 => ?_)
      · refine lv_aload_n hx hb dX7_isText_64 rfl (lv_at hl 0 rfl) ?_
        refine va_get (D := D) (ci := 6) (v := .int (w0_0 9)) (C := RX7) (T := TX7) (N := 15) hx hb hts inT_X7 hown hK.1 hP 0 rfl rfl 9 (by decide) (hts _ wfl_RX7_151) (fun _ h9 => h9) rfl dX7_isText_65 ?_
        have e9 : (pX7_isText u w) = ((w0_0 9), u0_0, w0_0) := by rw [← hN_14, pX7_isText_L14_s] <;> simp only [← hz_1, if_pos c_2]
        have e9_0 : (pX7_isText u w).1 = (w0_0 9) := by rw [e9]
        have e9_1 : (pX7_isText u w).2.1 = u0_0 := by rw [e9]
        have e9_2 : (pX7_isText u w).2.2 = w0_0 := by rw [e9]
        exact W.zret (ty := .boolean) (v := (w0_0 9)) hx hb hr (nz hbzi) (fun t ht hW => ⟨⟨by rw [e9_0], by rw [e9_1, e9_2, ht]; exact hP⟩, hS.F ht⟩) hS.2.2 dX7_isText_68
      · refine lv_aload_n hx hb dX7_isText_21 rfl (lv_at hl 0 rfl) ?_
        refine va_get (D := D) (ci := 6) (v := .int (w0_0 8)) (C := RX7) (T := TX7) (N := 15) hx hb hts inT_X7 hown hK.1 hP 0 rfl rfl 8 (by decide) (hts _ wfl_RX7_148) (fun _ h9 => h9) rfl dX7_isText_22 ?_
        refine lv_aload_n hx hb dX7_isText_25 rfl (lv_at hl 0 rfl) ?_
        refine va_get (D := D) (ci := 6) (v := .int (w0_0 7)) (C := RX7) (T := TX7) (N := 15) hx hb hts inT_X7 hown hK.1 hP 0 rfl rfl 7 (by decide) (hts _ wfl_RX7_145) (fun _ h9 => h9) rfl dX7_isText_26 ?_
        refine lv_icmp_ge (tgt := 64) hx hb dX7_isText_29 (by decide) (fun c_3 => ?_) (fun c_3 => ?_)
        · refine lv_aload_n hx hb dX7_isText_64 rfl (lv_at hl 0 rfl) ?_
          refine va_get (D := D) (ci := 6) (v := .int (w0_0 9)) (C := RX7) (T := TX7) (N := 15) hx hb hts inT_X7 hown hK.1 hP 0 rfl rfl 9 (by decide) (hts _ wfl_RX7_151) (fun _ h9 => h9) rfl dX7_isText_65 ?_
          have e9 : (pX7_isText u w) = ((w0_0 9), u0_0, w0_0) := by rw [← hN_14, pX7_isText_L14_s] <;> simp only [← hz_1, if_neg c_2, if_pos c_3]
          have e9_0 : (pX7_isText u w).1 = (w0_0 9) := by rw [e9]
          have e9_1 : (pX7_isText u w).2.1 = u0_0 := by rw [e9]
          have e9_2 : (pX7_isText u w).2.2 = w0_0 := by rw [e9]
          exact W.zret (ty := .boolean) (v := (w0_0 9)) hx hb hr (nz hbzi) (fun t ht hW => ⟨⟨by rw [e9_0], by rw [e9_1, e9_2, ht]; exact hP⟩, hS.F ht⟩) hS.2.2 dX7_isText_68
        · refine lv_aload_n hx hb dX7_isText_32 rfl (lv_at hl 0 rfl) ?_
          refine lv_aload_n hx hb dX7_isText_33 rfl (lv_at hl 0 rfl) ?_
          refine rV (As := []) (rest := [.ref (A 0)]) hx hb hml hown hts hl.1 (kX7_here l D cyC cyI cyO A u0_0 w0_0 (SP_le hspi (by decide)) hl6i) bV_X7_here  wml_RX7_155 ⟨rfl, rfl⟩ ⟨Nat.le_of_ble_eq_true rfl, Nat.le_of_ble_eq_true rfl, Nat.zero_le _, Nat.zero_le _⟩ [0, 1, 2, 3, 4, 5, 6] rfl hP hK 0 rfl rfl rfl rfl rfl (Nat.le_of_ble_eq_true rfl) dX7_isText_34 ?_
          refine lv_bipush (v := 44) hx hb dX7_isText_37 (by decide) ?_
          refine lv_icmp_ne (tgt := 46) hx hb dX7_isText_39 (by decide) (fun c_4 => ?_) (fun c_4 => ?_)
          · refine lv_iconst (v := 0) hx hb dX7_isText_46 (by decide) ?_
            obtain ⟨z_5, hz_5⟩ : ∃ q, q = (pX7_takes u0_0 w0_0 0) := ⟨_, rfl⟩
            refine mV (ws := (wM cyI A u0_0 w0_0)) (ws' := (wM cyI A z_5.1 z_5.2)) (As := [.int 0]) (rest := []) hx hb hml hown hts hl.1 (WS := (wM cyI A u0_0 w0_0)) (WS' := (wM cyI A z_5.1 z_5.2)) (ro := none) (by rw [hz_5]; exact kX7_takes l D cyC cyI cyO A u0_0 w0_0 0) bV_X7_takes  wml_RX7_162 ⟨rfl, rfl⟩ ⟨Nat.le_of_ble_eq_true rfl, Nat.le_of_ble_eq_true rfl, Nat.zero_le _, Nat.zero_le _⟩ [0, 1, 2, 3, 4, 5, 6] rfl rfl rfl rfl rfl hP hD hS hA hK 0 rfl rfl rfl rfl rfl (Nat.le_of_ble_eq_true rfl) dX7_isText_47 (fun H locs hP hD hS => ?_)
            refine lv_aload_n hx hb dX7_isText_50 rfl (lv_at hl 0 rfl) ?_
            refine va_get (D := D) (ci := 6) (v := .int (z_5.2 9)) (C := RX7) (T := TX7) (N := 15) hx hb hts inT_X7 hown hK.1 hP 0 rfl rfl 9 (by decide) (hts _ wfl_RX7_151) (fun _ h9 => h9) rfl dX7_isText_51 ?_
            refine lv_if_eq (tgt := 14) hx hb dX7_isText_54 (by decide) (fun c_6 => ?_) (fun c_6 => ?_)
            · exact ih_14  z_5.1 z_5.2 (by rw [if_neg c_2] at hm_14; rw [if_pos c_6]; omega) (by rw [← hN_14, pX7_isText_L14_s] <;> simp only [← hz_1, ← hz_5, if_neg c_2, if_neg c_3, if_neg c_4, if_pos c_6]) (SP_le (SP_adv (SP_lt hspi (by decide) hl6i c_3) (w' := z_5.2) (n := 1) (b := 60) (by rw [hz_5]; exact takes_adv _ _ _) (by decide)) (by decide)) (l6_adv hl6i (w' := z_5.2) (n := 1) (by rw [hz_5]; exact takes_adv _ _ _)) (by rw [hz_5]; exact takes_bz _ _ _) _ _ hP hD hS ls (lv_sub hl [0] rfl)
            · refine lv_aload_n hx hb dX7_isText_57 rfl (lv_at hl 0 rfl) ?_
              obtain ⟨z_7, hz_7⟩ : ∃ q, q = (pX7_takesOrder z_5.1 z_5.2) := ⟨_, rfl⟩
              refine mV (ws := (wM cyI A z_5.1 z_5.2)) (ws' := (wM cyI A z_7.1 z_7.2)) (As := []) (rest := []) hx hb hml hown hts hl.1 (WS := (wM cyI A z_5.1 z_5.2)) (WS' := (wM cyI A z_7.1 z_7.2)) (ro := none) (by rw [hz_7]; exact kX7_takesOrder l D cyC cyI cyO A z_5.1 z_5.2 (SP_adv (SP_lt hspi (by decide) hl6i c_3) (w' := z_5.2) (n := 1) (by rw [hz_5]; exact takes_adv _ _ _) (by decide)) (l6_adv hl6i (w' := z_5.2) (n := 1) (by rw [hz_5]; exact takes_adv _ _ _))) bV_X7_takesOrder  wml_RX7_179 ⟨rfl, rfl⟩ ⟨Nat.le_of_ble_eq_true rfl, Nat.le_of_ble_eq_true rfl, Nat.zero_le _, Nat.zero_le _⟩ [0, 1, 2, 3, 4, 5, 6] rfl rfl rfl rfl rfl hP hD hS hA hK 0 rfl rfl rfl rfl rfl (Nat.le_of_ble_eq_true rfl) dX7_isText_58 (fun H locs hP hD hS => ?_)
              refine lv_goto (tgt := 14) hx hb dX7_isText_61 (by decide) ?_
              exact ih_14  z_7.1 z_7.2 (by rw [if_neg c_2] at hm_14; have h7 := it_dec (wa := z_5.2) (wb := z_7.2) (SP_lt hspi (by decide) hl6i c_3) (by rw [hz_5]; exact takes_one (by rw [← hz_5]; exact c_6)) (by rw [hz_7]; exact takesOrder_adv _ _); have h8 := SP_cl (SP_lt hspi (by decide) hl6i c_3) (by decide); split <;> omega) (by rw [← hN_14, pX7_isText_L14_s] <;> simp only [← hz_1, ← hz_5, ← hz_7, if_neg c_2, if_neg c_3, if_neg c_4, if_neg c_6]) (SP_adv (SP_adv (SP_lt hspi (by decide) hl6i c_3) (w' := z_5.2) (n := 1) (b := 60) (by rw [hz_5]; exact takes_adv _ _ _) (by decide)) (w' := z_7.2) (n := 8) (by rw [hz_7]; exact takesOrder_adv _ _) (by decide)) (l6_adv (l6_adv hl6i (w' := z_5.2) (n := 1) (by rw [hz_5]; exact takes_adv _ _ _)) (w' := z_7.2) (n := 8) (by rw [hz_7]; exact takesOrder_adv _ _)) (by rw [hz_7]; exact takesOrder_bz _ _) _ _ hP hD hS ls (lv_sub hl [0] rfl)
          · refine lv_iconst (v := 1) hx hb dX7_isText_42 (by decide) ?_
            refine lv_goto (tgt := 47) hx hb dX7_isText_43 (by decide) ?_
            obtain ⟨z_8, hz_8⟩ : ∃ q, q = (pX7_takes u0_0 w0_0 1) := ⟨_, rfl⟩
            refine mV (ws := (wM cyI A u0_0 w0_0)) (ws' := (wM cyI A z_8.1 z_8.2)) (As := [.int 1]) (rest := []) hx hb hml hown hts hl.1 (WS := (wM cyI A u0_0 w0_0)) (WS' := (wM cyI A z_8.1 z_8.2)) (ro := none) (by rw [hz_8]; exact kX7_takes l D cyC cyI cyO A u0_0 w0_0 1) bV_X7_takes  wml_RX7_162 ⟨rfl, rfl⟩ ⟨Nat.le_of_ble_eq_true rfl, Nat.le_of_ble_eq_true rfl, Nat.zero_le _, Nat.zero_le _⟩ [0, 1, 2, 3, 4, 5, 6] rfl rfl rfl rfl rfl hP hD hS hA hK 0 rfl rfl rfl rfl rfl (Nat.le_of_ble_eq_true rfl) dX7_isText_47 (fun H locs hP hD hS => ?_)
            refine lv_aload_n hx hb dX7_isText_50 rfl (lv_at hl 0 rfl) ?_
            refine va_get (D := D) (ci := 6) (v := .int (z_8.2 9)) (C := RX7) (T := TX7) (N := 15) hx hb hts inT_X7 hown hK.1 hP 0 rfl rfl 9 (by decide) (hts _ wfl_RX7_151) (fun _ h9 => h9) rfl dX7_isText_51 ?_
            refine lv_if_eq (tgt := 14) hx hb dX7_isText_54 (by decide) (fun c_9 => ?_) (fun c_9 => ?_)
            · exact ih_14  z_8.1 z_8.2 (by rw [if_neg c_2] at hm_14; rw [if_pos c_9]; omega) (by rw [← hN_14, pX7_isText_L14_s] <;> simp only [← hz_1, ← hz_8, if_neg c_2, if_neg c_3, if_pos c_4, if_pos c_9]) (SP_le (SP_adv (SP_lt hspi (by decide) hl6i c_3) (w' := z_8.2) (n := 1) (b := 60) (by rw [hz_8]; exact takes_adv _ _ _) (by decide)) (by decide)) (l6_adv hl6i (w' := z_8.2) (n := 1) (by rw [hz_8]; exact takes_adv _ _ _)) (by rw [hz_8]; exact takes_bz _ _ _) _ _ hP hD hS ls (lv_sub hl [0] rfl)
            · refine lv_aload_n hx hb dX7_isText_57 rfl (lv_at hl 0 rfl) ?_
              obtain ⟨z_10, hz_10⟩ : ∃ q, q = (pX7_takesOrder z_8.1 z_8.2) := ⟨_, rfl⟩
              refine mV (ws := (wM cyI A z_8.1 z_8.2)) (ws' := (wM cyI A z_10.1 z_10.2)) (As := []) (rest := []) hx hb hml hown hts hl.1 (WS := (wM cyI A z_8.1 z_8.2)) (WS' := (wM cyI A z_10.1 z_10.2)) (ro := none) (by rw [hz_10]; exact kX7_takesOrder l D cyC cyI cyO A z_8.1 z_8.2 (SP_adv (SP_lt hspi (by decide) hl6i c_3) (w' := z_8.2) (n := 1) (by rw [hz_8]; exact takes_adv _ _ _) (by decide)) (l6_adv hl6i (w' := z_8.2) (n := 1) (by rw [hz_8]; exact takes_adv _ _ _))) bV_X7_takesOrder  wml_RX7_179 ⟨rfl, rfl⟩ ⟨Nat.le_of_ble_eq_true rfl, Nat.le_of_ble_eq_true rfl, Nat.zero_le _, Nat.zero_le _⟩ [0, 1, 2, 3, 4, 5, 6] rfl rfl rfl rfl rfl hP hD hS hA hK 0 rfl rfl rfl rfl rfl (Nat.le_of_ble_eq_true rfl) dX7_isText_58 (fun H locs hP hD hS => ?_)
              refine lv_goto (tgt := 14) hx hb dX7_isText_61 (by decide) ?_
              exact ih_14  z_10.1 z_10.2 (by rw [if_neg c_2] at hm_14; have h7 := it_dec (wa := z_8.2) (wb := z_10.2) (SP_lt hspi (by decide) hl6i c_3) (by rw [hz_8]; exact takes_one (by rw [← hz_8]; exact c_9)) (by rw [hz_10]; exact takesOrder_adv _ _); have h8 := SP_cl (SP_lt hspi (by decide) hl6i c_3) (by decide); split <;> omega) (by rw [← hN_14, pX7_isText_L14_s] <;> simp only [← hz_1, ← hz_8, ← hz_10, if_neg c_2, if_neg c_3, if_pos c_4, if_neg c_9]) (SP_adv (SP_adv (SP_lt hspi (by decide) hl6i c_3) (w' := z_8.2) (n := 1) (b := 60) (by rw [hz_8]; exact takes_adv _ _ _) (by decide)) (w' := z_10.2) (n := 8) (by rw [hz_10]; exact takesOrder_adv _ _) (by decide)) (l6_adv (l6_adv hl6i (w' := z_8.2) (n := 1) (by rw [hz_8]; exact takes_adv _ _ _)) (w' := z_10.2) (n := 8) (by rw [hz_10]; exact takesOrder_adv _ _)) (by rw [hz_10]; exact takesOrder_bz _ _) _ _ hP hD hS ls (lv_sub hl [0] rfl)
  exact key_14 200 z_1.1 z_1.2 (by split <;> omega) (by simp only [pX7_isText, ← hz_1]) (by rw [hz_1]; exact SP_adv (a := 0) (w := (va_up (va_up w 8 0) 9 1)) ⟨0, nI_0.symm, Nat.le_refl _⟩ (takesOrder_adv _ _) (by decide)) (by rw [hz_1]; exact l6_adv (w := (va_up (va_up w 8 0) 9 1)) hl6 (takesOrder_adv _ _)) (by rw [hz_1]; exact takesOrder_bz _ _) _ _ hP hD hS ls (lv_sub hl [0] rfl)
theorem bV_X7_isText : BV RX7 yX7_isText cX7_isText 1 (some .boolean) 0 := ⟨wcd_X7_isText, wim_X7_isText, wse_X7_isText, win_RX7, by decide +kernel⟩
def pX7_fault (u : (Nat → Nat → Int32)) (w : (Nat → Int32)) : Int32 × (Nat → Nat → Int32) × (Nat → Int32) := (if (pX7_isText u w).1 = 0 then (((pX7_isText u w).2.2 8), (pX7_isText u w).2.1, (pX7_isText u w).2.2) else ((-4), (pX7_isText u w).2.1, (pX7_isText u w).2.2))
set_option maxHeartbeats 4000000 in
set_option maxRecDepth 100000 in
theorem kX7_fault (l : Launch) (D : va_G) (cyC cyI cyO : ClassId) (A : Nat → Nat) (u : (Nat → Nat → Int32)) (w : (Nat → Int32)) (hl6 : (w 7) ≤ 60) : MU l yX7_fault (Ty yX7_fault cX7_fault 1 (some .int)) ({ frames := 6, cells := 0, slots := 0, locals := 127 } : Room) D cyC cyI cyO (wM cyI A u w) [.ref (A 0)] (some (.int (pX7_fault u w).1)) (wM cyI A (pX7_fault u w).2.1 (pX7_fault u w).2.2) := by
  intro sz
  refine Met.ofW (cc := cX7_fault) (maxL := 1) (ret := (some .int)) (by decide) rfl ?_
  intro p e s m args below meth cd s₁ B hml hv
  obtain ⟨rfl, hsz, hP, hK, hD0⟩ := hv
  have hx := B.exec
  have hb := B.bytes
  have hr := B.returns
  have hts : ∀ w ∈ TB, w.before ([.ref (A 0)] : List Value).toArray s = true := fun w h => atoms_spec (ws := (Ty yX7_fault cX7_fault 1 (some .int))) B.pre w (List.mem_cons_of_mem _ h)
  have hown : s.vm.findClass RX7 = some m.cls := findClass_of_methodNamed B.named
  have hlocks := B.notSynchronized
  subst hsz
  have hD := hD0.self (sz := s.heap.size)
  have hA : ∀ q : Nat, s.heap.size ≤ q → (va_A (wM cyI A u w) s.heap.size) q := fun q h => Or.inr h
  generalize hAe : va_A (wM cyI A u w) s.heap.size = A0 at hD hA ⊢
  have hS : va_S A0 s.heap s.heap [] := va_S.rf
  have hl := lv_entry ([.ref (A 0)]) (n := 1) (Nat.le_of_ble_eq_true rfl)
  rw [lg_entry_eq]
  generalize (lg_sl ([.ref (A 0)]) ++ List.replicate (1 - (lg_sl ([.ref (A 0)])).length) Slot.unset).toArray = ls at hl ⊢
  have hl : lv_has ls 1 [(0, .ref (A 0))] := hl
  refine lv_aload_n hx hb dX7_fault_0 rfl (lv_at hl 0 rfl) ?_
  obtain ⟨z_1, hz_1⟩ : ∃ q, q = (pX7_isText u w) := ⟨_, rfl⟩
  refine mV (ws := (wM cyI A u w)) (ws' := (wM cyI A z_1.2.1 z_1.2.2)) (As := []) (rest := []) hx hb hml hown hts hl.1 (WS := (wM cyI A u w)) (WS' := (wM cyI A z_1.2.1 z_1.2.2)) (ro := (some (.int z_1.1))) (by rw [hz_1]; exact kX7_isText l D cyC cyI cyO A u w hl6) bV_X7_isText  wml_RX7_182 ⟨rfl, rfl⟩ ⟨Nat.le_of_ble_eq_true rfl, Nat.le_of_ble_eq_true rfl, Nat.zero_le _, Nat.zero_le _⟩ [0, 1, 2, 3, 4, 5, 6] rfl rfl rfl rfl rfl hP hD hS hA hK 0 rfl rfl rfl rfl rfl (Nat.le_of_ble_eq_true rfl) dX7_fault_1 (fun H locs hP hD hS => ?_)
  refine lv_if_eq (tgt := 12) hx hb dX7_fault_4 (by decide) (fun c_2 => ?_) (fun c_2 => ?_)
  · refine lv_aload_n hx hb dX7_fault_12 rfl (lv_at hl 0 rfl) ?_
    refine va_get (D := D) (ci := 6) (v := .int (z_1.2.2 8)) (C := RX7) (T := TX7) (N := 15) hx hb hts inT_X7 hown hK.1 hP 0 rfl rfl 8 (by decide) (hts _ wfl_RX7_148) (fun _ h9 => h9) rfl dX7_fault_13 ?_
    have e9 : (pX7_fault u w) = ((z_1.2.2 8), z_1.2.1, z_1.2.2) := by simp only [pX7_fault, ← hz_1, if_pos c_2]
    have e9_0 : (pX7_fault u w).1 = (z_1.2.2 8) := by rw [e9]
    have e9_1 : (pX7_fault u w).2.1 = z_1.2.1 := by rw [e9]
    have e9_2 : (pX7_fault u w).2.2 = z_1.2.2 := by rw [e9]
    exact W.iret (v := (z_1.2.2 8)) hx hb hr (fun t ht hW => ⟨⟨by rw [e9_0], by rw [e9_1, e9_2, ht]; exact hP⟩, hS.F ht⟩) hS.2.2 dX7_fault_16
  · refine lv_bipush (v := (-4)) hx hb dX7_fault_7 (by decide) ?_
    refine lv_goto (tgt := 16) hx hb dX7_fault_9 (by decide) ?_
    have e9 : (pX7_fault u w) = ((-4), z_1.2.1, z_1.2.2) := by simp only [pX7_fault, ← hz_1, if_neg c_2]
    have e9_0 : (pX7_fault u w).1 = (-4) := by rw [e9]
    have e9_1 : (pX7_fault u w).2.1 = z_1.2.1 := by rw [e9]
    have e9_2 : (pX7_fault u w).2.2 = z_1.2.2 := by rw [e9]
    exact W.iret (v := (-4)) hx hb hr (fun t ht hW => ⟨⟨by rw [e9_0], by rw [e9_1, e9_2, ht]; exact hP⟩, hS.F ht⟩) hS.2.2 dX7_fault_16
theorem bV_X7_fault : BV RX7 yX7_fault cX7_fault 1 (some .int) 0 := ⟨wcd_X7_fault, wim_X7_fault, wse_X7_fault, win_RX7, by decide +kernel⟩
