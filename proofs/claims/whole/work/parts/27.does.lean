def OK7 (w : Nat → Int32) : Prop := (w 10 = 104 ∨ w 10 = 116 ∨ w 10 = 119) → vp_in (w 11) 4 ∧ vp_in (w 12) 28
def pX7_doesOrder (u : (Nat → Nat → Int32)) (w : (Nat → Int32)) : Int32 × (Nat → Nat → Int32) × (Nat → Int32) := (if (w 10) = 99 then (((10 : Int32) + (pX7_goChimney u w (w 11)).1), (pX7_goChimney u w (w 11)).2.1, (pX7_goChimney u w (w 11)).2.2) else (if (w 10) = 104 then ((pX7_goHang u w (w 11) (w 12)).1, (pX7_goHang u w (w 11) (w 12)).2.1, (pX7_goHang u w (w 11) (w 12)).2.2) else (if (w 10) = 116 then ((pX7_goTake u w (w 11) (w 12)).1, (pX7_goTake u w (w 11) (w 12)).2.1, (pX7_goTake u w (w 11) (w 12)).2.2) else (if (w 10) = 119 then (if (pX7_isOfRoof (w 12) (pX7_ofOwner u w (w 11) 3)) = 0 then ((-2), u, w) else ((pX7_goWalk u w (w 11) (w 12)).1, (pX7_goWalk u w (w 11) (w 12)).2.1, (pX7_goWalk u w (w 11) (w 12)).2.2)) else (((10 : Int32) + (pX7_goDay u w).1), (pX7_goDay u w).2.1, (pX7_goDay u w).2.2)))))
set_option maxHeartbeats 4000000 in
set_option maxRecDepth 100000 in
theorem kX7_doesOrder (l : Launch) (D : va_G) (cyC cyI cyO : ClassId) (A : Nat → Nat) (u : (Nat → Nat → Int32)) (w : (Nat → Int32)) (hm3 : ((u 0) 2) ≤ 3) (hln : LN u) (hord : OK7 w) : MU l yX7_doesOrder (Ty yX7_doesOrder cX7_doesOrder 1 (some .int)) ({ frames := 6, cells := 0, slots := 0, locals := 136 } : Room) D cyC cyI cyO (wM cyI A u w) [.ref (A 0)] (some (.int (pX7_doesOrder u w).1)) (wM cyI A (pX7_doesOrder u w).2.1 (pX7_doesOrder u w).2.2) := by
  intro sz
  refine Met.ofW (cc := cX7_doesOrder) (maxL := 1) (ret := (some .int)) (by decide) rfl ?_
  intro p e s m args below meth cd s₁ B hml hv
  obtain ⟨rfl, hsz, hP, hK, hD0⟩ := hv
  have hx := B.exec
  have hb := B.bytes
  have hr := B.returns
  have hts : ∀ w ∈ TB, w.before ([.ref (A 0)] : List Value).toArray s = true := fun w h => atoms_spec (ws := (Ty yX7_doesOrder cX7_doesOrder 1 (some .int))) B.pre w (List.mem_cons_of_mem _ h)
  have hown : s.vm.findClass RX7 = some m.cls := findClass_of_methodNamed B.named
  have hlocks := B.notSynchronized
  subst hsz
  have hD := hD0.self (sz := s.heap.size)
  have hA : ∀ q : Nat, s.heap.size ≤ q → (va_A (wM cyI A u w) s.heap.size) q := fun q h => Or.inr h
  generalize hAe : va_A (wM cyI A u w) s.heap.size = A0 at hD hA ⊢
  have hS : va_S A0 s.heap s.heap [] := va_S.rf
  have hl := lv_entry ([.ref (A 0)]) (n := 1) (Nat.le_of_ble_eq_true rfl)
  rw [lg_entry_eq]
  generalize (lg_sl ([.ref (A 0)]) ++ List.replicate (1 - (lg_sl ([.ref (A 0)])).length) Slot.unset).toArray = ls at hl ⊢
  have hl : lv_has ls 1 [(0, .ref (A 0))] := hl
  refine lv_aload_n hx hb dX7_doesOrder_0 rfl (lv_at hl 0 rfl) ?_
  refine va_get (D := D) (ci := 6) (v := .int (w 10)) (C := RX7) (T := TX7) (N := 15) hx hb hts inT_X7 hown hK.1 hP 0 rfl rfl 10 (by decide) (hts _ wfl_RX7_166) (fun _ h9 => h9) rfl dX7_doesOrder_1 ?_
  by_cases c_1 : (w 10) = 99
  · refine lv_lookup (off := 107) (tgt := 111) hx hb dX7_doesOrder_4 (by decide) (by rw [c_1]; rfl) (by decide) ?_
    refine lv_bipush (v := 10) hx hb dX7_doesOrder_111 (by decide) ?_
    refine lv_aload_n hx hb dX7_doesOrder_113 rfl (lv_at hl 0 rfl) ?_
    refine lv_aload_n hx hb dX7_doesOrder_114 rfl (lv_at hl 0 rfl) ?_
    refine va_get (D := D) (ci := 6) (v := .int (w 11)) (C := RX7) (T := TX7) (N := 15) hx hb hts inT_X7 hown hK.1 hP 0 rfl rfl 11 (by decide) (hts _ wfl_RX7_169) (fun _ h9 => h9) rfl dX7_doesOrder_115 ?_
    obtain ⟨z_5, hz_5⟩ : ∃ q, q = (pX7_goChimney u w (w 11)) := ⟨_, rfl⟩
    refine mV (ws := (wM cyI A u w)) (ws' := (wM cyI A z_5.2.1 z_5.2.2)) (As := [.int (w 11)]) (rest := [.int 10]) hx hb hml hown hts hl.1 (WS := (wM cyI A u w)) (WS' := (wM cyI A z_5.2.1 z_5.2.2)) (ro := (some (.int z_5.1))) (by rw [hz_5]; exact kX7_goChimney l D cyC cyI cyO A u w (w 11) hm3) bV_X7_goChimney  wml_RX7_124 ⟨rfl, rfl⟩ ⟨Nat.le_of_ble_eq_true rfl, Nat.le_of_ble_eq_true rfl, Nat.zero_le _, Nat.zero_le _⟩ [0, 1, 2, 3, 4, 5, 6] rfl rfl rfl rfl rfl hP hD hS hA hK 0 rfl rfl rfl rfl rfl (Nat.le_of_ble_eq_true rfl) dX7_doesOrder_118 (fun H locs hP hD hS => ?_)
    refine lv_iadd hx hb dX7_doesOrder_121 ?_
    have e9 : (pX7_doesOrder u w) = (((10 : Int32) + z_5.1), z_5.2.1, z_5.2.2) := by simp only [pX7_doesOrder, ← hz_5, if_pos c_1]
    have e9_0 : (pX7_doesOrder u w).1 = ((10 : Int32) + z_5.1) := by rw [e9]
    have e9_1 : (pX7_doesOrder u w).2.1 = z_5.2.1 := by rw [e9]
    have e9_2 : (pX7_doesOrder u w).2.2 = z_5.2.2 := by rw [e9]
    exact W.iret (v := ((10 : Int32) + z_5.1)) hx hb hr (fun t ht hW => ⟨⟨by rw [e9_0], by rw [e9_1, e9_2, ht]; exact hP⟩, hS.F ht⟩) hS.2.2 dX7_doesOrder_122
  · by_cases c_2 : (w 10) = 104
    · refine lv_lookup (off := 44) (tgt := 48) hx hb dX7_doesOrder_4 (by decide) (by rw [c_2]; rfl) (by decide) ?_
      refine lv_aload_n hx hb dX7_doesOrder_48 rfl (lv_at hl 0 rfl) ?_
      refine lv_aload_n hx hb dX7_doesOrder_49 rfl (lv_at hl 0 rfl) ?_
      refine va_get (D := D) (ci := 6) (v := .int (w 11)) (C := RX7) (T := TX7) (N := 15) hx hb hts inT_X7 hown hK.1 hP 0 rfl rfl 11 (by decide) (hts _ wfl_RX7_169) (fun _ h9 => h9) rfl dX7_doesOrder_50 ?_
      refine lv_aload_n hx hb dX7_doesOrder_53 rfl (lv_at hl 0 rfl) ?_
      refine va_get (D := D) (ci := 6) (v := .int (w 12)) (C := RX7) (T := TX7) (N := 15) hx hb hts inT_X7 hown hK.1 hP 0 rfl rfl 12 (by decide) (hts _ wfl_RX7_176) (fun _ h9 => h9) rfl dX7_doesOrder_54 ?_
      obtain ⟨z_6, hz_6⟩ : ∃ q, q = (pX7_goHang u w (w 11) (w 12)) := ⟨_, rfl⟩
      refine mV (ws := (wM cyI A u w)) (ws' := (wM cyI A z_6.2.1 z_6.2.2)) (As := [.int (w 11), .int (w 12)]) (rest := []) hx hb hml hown hts hl.1 (WS := (wM cyI A u w)) (WS' := (wM cyI A z_6.2.1 z_6.2.2)) (ro := (some (.int z_6.1))) (by rw [hz_6]; exact kX7_goHang l D cyC cyI cyO A u w (w 11) (w 12) (hord (Or.inl c_2)).1 (hord (Or.inl c_2)).2 hm3) bV_X7_goHang  wml_RX7_130 ⟨rfl, rfl⟩ ⟨Nat.le_of_ble_eq_true rfl, Nat.le_of_ble_eq_true rfl, Nat.zero_le _, Nat.zero_le _⟩ [0, 1, 2, 3, 4, 5, 6] rfl rfl rfl rfl rfl hP hD hS hA hK 0 rfl rfl rfl rfl rfl (Nat.le_of_ble_eq_true rfl) dX7_doesOrder_57 (fun H locs hP hD hS => ?_)
      have e9 : (pX7_doesOrder u w) = (z_6.1, z_6.2.1, z_6.2.2) := by simp only [pX7_doesOrder, ← hz_6, if_neg c_1, if_pos c_2]
      have e9_0 : (pX7_doesOrder u w).1 = z_6.1 := by rw [e9]
      have e9_1 : (pX7_doesOrder u w).2.1 = z_6.2.1 := by rw [e9]
      have e9_2 : (pX7_doesOrder u w).2.2 = z_6.2.2 := by rw [e9]
      exact W.iret (v := z_6.1) hx hb hr (fun t ht hW => ⟨⟨by rw [e9_0], by rw [e9_1, e9_2, ht]; exact hP⟩, hS.F ht⟩) hS.2.2 dX7_doesOrder_60
    · by_cases c_3 : (w 10) = 116
      · refine lv_lookup (off := 57) (tgt := 61) hx hb dX7_doesOrder_4 (by decide) (by rw [c_3]; rfl) (by decide) ?_
        refine lv_aload_n hx hb dX7_doesOrder_61 rfl (lv_at hl 0 rfl) ?_
        refine lv_aload_n hx hb dX7_doesOrder_62 rfl (lv_at hl 0 rfl) ?_
        refine va_get (D := D) (ci := 6) (v := .int (w 11)) (C := RX7) (T := TX7) (N := 15) hx hb hts inT_X7 hown hK.1 hP 0 rfl rfl 11 (by decide) (hts _ wfl_RX7_169) (fun _ h9 => h9) rfl dX7_doesOrder_63 ?_
        refine lv_aload_n hx hb dX7_doesOrder_66 rfl (lv_at hl 0 rfl) ?_
        refine va_get (D := D) (ci := 6) (v := .int (w 12)) (C := RX7) (T := TX7) (N := 15) hx hb hts inT_X7 hown hK.1 hP 0 rfl rfl 12 (by decide) (hts _ wfl_RX7_176) (fun _ h9 => h9) rfl dX7_doesOrder_67 ?_
        obtain ⟨z_7, hz_7⟩ : ∃ q, q = (pX7_goTake u w (w 11) (w 12)) := ⟨_, rfl⟩
        refine mV (ws := (wM cyI A u w)) (ws' := (wM cyI A z_7.2.1 z_7.2.2)) (As := [.int (w 11), .int (w 12)]) (rest := []) hx hb hml hown hts hl.1 (WS := (wM cyI A u w)) (WS' := (wM cyI A z_7.2.1 z_7.2.2)) (ro := (some (.int z_7.1))) (by rw [hz_7]; exact kX7_goTake l D cyC cyI cyO A u w (w 11) (w 12) (hord (Or.inr (Or.inl c_3))).2) bV_X7_goTake  wml_RX7_133 ⟨rfl, rfl⟩ ⟨Nat.le_of_ble_eq_true rfl, Nat.le_of_ble_eq_true rfl, Nat.zero_le _, Nat.zero_le _⟩ [0, 1, 2, 3, 4, 5, 6] rfl rfl rfl rfl rfl hP hD hS hA hK 0 rfl rfl rfl rfl rfl (Nat.le_of_ble_eq_true rfl) dX7_doesOrder_70 (fun H locs hP hD hS => ?_)
        have e9 : (pX7_doesOrder u w) = (z_7.1, z_7.2.1, z_7.2.2) := by simp only [pX7_doesOrder, ← hz_7, if_neg c_1, if_neg c_2, if_pos c_3]
        have e9_0 : (pX7_doesOrder u w).1 = z_7.1 := by rw [e9]
        have e9_1 : (pX7_doesOrder u w).2.1 = z_7.2.1 := by rw [e9]
        have e9_2 : (pX7_doesOrder u w).2.2 = z_7.2.2 := by rw [e9]
        exact W.iret (v := z_7.1) hx hb hr (fun t ht hW => ⟨⟨by rw [e9_0], by rw [e9_1, e9_2, ht]; exact hP⟩, hS.F ht⟩) hS.2.2 dX7_doesOrder_73
      · by_cases c_4 : (w 10) = 119
        · refine lv_lookup (off := 70) (tgt := 74) hx hb dX7_doesOrder_4 (by decide) (by rw [c_4]; rfl) (by decide) ?_
          refine lv_aload_n hx hb dX7_doesOrder_74 rfl (lv_at hl 0 rfl) ?_
          refine va_get (D := D) (ci := 6) (v := .int (w 12)) (C := RX7) (T := TX7) (N := 15) hx hb hts inT_X7 hown hK.1 hP 0 rfl rfl 12 (by decide) (hts _ wfl_RX7_176) (fun _ h9 => h9) rfl dX7_doesOrder_75 ?_
          refine lv_aload_n hx hb dX7_doesOrder_78 rfl (lv_at hl 0 rfl) ?_
          refine lv_aload_n hx hb dX7_doesOrder_79 rfl (lv_at hl 0 rfl) ?_
          refine va_get (D := D) (ci := 6) (v := .int (w 11)) (C := RX7) (T := TX7) (N := 15) hx hb hts inT_X7 hown hK.1 hP 0 rfl rfl 11 (by decide) (hts _ wfl_RX7_169) (fun _ h9 => h9) rfl dX7_doesOrder_80 ?_
          refine lv_iconst (v := 3) hx hb dX7_doesOrder_83 (by decide) ?_
          refine rV (As := [.int (w 11), .int 3]) (rest := [.int (w 12)]) hx hb hml hown hts hl.1 (kX7_ofOwner l D cyC cyI cyO A u w (w 11) 3 (hord (Or.inr (Or.inr c_4))).1 (vp_lit (by decide))) bV_X7_ofOwner  wml_RX7_72 ⟨rfl, rfl⟩ ⟨Nat.le_of_ble_eq_true rfl, Nat.le_of_ble_eq_true rfl, Nat.zero_le _, Nat.zero_le _⟩ [0, 1, 2, 3, 4, 5, 6] rfl hP hK 0 rfl rfl rfl rfl rfl (Nat.le_of_ble_eq_true rfl) dX7_doesOrder_84 ?_
          refine rS (As := [.int (w 12), .int (pX7_ofOwner u w (w 11) 3)]) (rest := []) hx hb hml hown hts hl.1 (kX7_isOfRoof l D cyC cyI cyO (w 12) (pX7_ofOwner u w (w 11) 3)) bS_X7_isOfRoof  wml_RX7_136 ⟨rfl, rfl⟩ ⟨Nat.le_of_ble_eq_true rfl, Nat.le_of_ble_eq_true rfl, Nat.zero_le _, Nat.zero_le _⟩ [] rfl hP hK rfl rfl (Nat.le_of_ble_eq_true rfl) dX7_doesOrder_87 ?_
          refine lv_if_eq (tgt := 108) hx hb dX7_doesOrder_90 (by decide) (fun c_8 => ?_) (fun c_8 => ?_)
          · refine lv_bipush (v := (-2)) hx hb dX7_doesOrder_108 (by decide) ?_
            have e9 : (pX7_doesOrder u w) = ((-2), u, w) := by simp only [pX7_doesOrder, if_neg c_1, if_neg c_2, if_neg c_3, if_pos c_4, if_pos c_8]
            have e9_0 : (pX7_doesOrder u w).1 = (-2) := by rw [e9]
            have e9_1 : (pX7_doesOrder u w).2.1 = u := by rw [e9]
            have e9_2 : (pX7_doesOrder u w).2.2 = w := by rw [e9]
            exact W.iret (v := (-2)) hx hb hr (fun t ht hW => ⟨⟨by rw [e9_0], by rw [e9_1, e9_2, ht]; exact hP⟩, hS.F ht⟩) hS.2.2 dX7_doesOrder_110
          · refine lv_aload_n hx hb dX7_doesOrder_93 rfl (lv_at hl 0 rfl) ?_
            refine lv_aload_n hx hb dX7_doesOrder_94 rfl (lv_at hl 0 rfl) ?_
            refine va_get (D := D) (ci := 6) (v := .int (w 11)) (C := RX7) (T := TX7) (N := 15) hx hb hts inT_X7 hown hK.1 hP 0 rfl rfl 11 (by decide) (hts _ wfl_RX7_169) (fun _ h9 => h9) rfl dX7_doesOrder_95 ?_
            refine lv_aload_n hx hb dX7_doesOrder_98 rfl (lv_at hl 0 rfl) ?_
            refine va_get (D := D) (ci := 6) (v := .int (w 12)) (C := RX7) (T := TX7) (N := 15) hx hb hts inT_X7 hown hK.1 hP 0 rfl rfl 12 (by decide) (hts _ wfl_RX7_176) (fun _ h9 => h9) rfl dX7_doesOrder_99 ?_
            obtain ⟨z_9, hz_9⟩ : ∃ q, q = (pX7_goWalk u w (w 11) (w 12)) := ⟨_, rfl⟩
            refine mV (ws := (wM cyI A u w)) (ws' := (wM cyI A z_9.2.1 z_9.2.2)) (As := [.int (w 11), .int (w 12)]) (rest := []) hx hb hml hown hts hl.1 (WS := (wM cyI A u w)) (WS' := (wM cyI A z_9.2.1 z_9.2.2)) (ro := (some (.int z_9.1))) (by rw [hz_9]; exact kX7_goWalk l D cyC cyI cyO A u w (w 11) (w 12) (hord (Or.inr (Or.inr c_4))).1 (hord (Or.inr (Or.inr c_4))).2) bV_X7_goWalk  wml_RX7_139 ⟨rfl, rfl⟩ ⟨Nat.le_of_ble_eq_true rfl, Nat.le_of_ble_eq_true rfl, Nat.zero_le _, Nat.zero_le _⟩ [0, 1, 2, 3, 4, 5, 6] rfl rfl rfl rfl rfl hP hD hS hA hK 0 rfl rfl rfl rfl rfl (Nat.le_of_ble_eq_true rfl) dX7_doesOrder_102 (fun H locs hP hD hS => ?_)
            refine lv_goto (tgt := 110) hx hb dX7_doesOrder_105 (by decide) ?_
            have e9 : (pX7_doesOrder u w) = (z_9.1, z_9.2.1, z_9.2.2) := by simp only [pX7_doesOrder, ← hz_9, if_neg c_1, if_neg c_2, if_neg c_3, if_pos c_4, if_neg c_8]
            have e9_0 : (pX7_doesOrder u w).1 = z_9.1 := by rw [e9]
            have e9_1 : (pX7_doesOrder u w).2.1 = z_9.2.1 := by rw [e9]
            have e9_2 : (pX7_doesOrder u w).2.2 = z_9.2.2 := by rw [e9]
            exact W.iret (v := z_9.1) hx hb hr (fun t ht hW => ⟨⟨by rw [e9_0], by rw [e9_1, e9_2, ht]; exact hP⟩, hS.F ht⟩) hS.2.2 dX7_doesOrder_110
        · refine lv_lookup (off := 119) (tgt := 123) hx hb dX7_doesOrder_4 (by decide) (by refine (lv_osw (k := 99) c_1 (by decide)).trans ?_; refine (lv_osw (k := 104) c_2 (by decide)).trans ?_; refine (lv_osw (k := 116) c_3 (by decide)).trans ?_; refine (lv_osw (k := 119) c_4 (by decide)).trans ?_; rfl) (by decide) ?_
          refine lv_bipush (v := 10) hx hb dX7_doesOrder_123 (by decide) ?_
          refine lv_aload_n hx hb dX7_doesOrder_125 rfl (lv_at hl 0 rfl) ?_
          obtain ⟨z_10, hz_10⟩ : ∃ q, q = (pX7_goDay u w) := ⟨_, rfl⟩
          refine mV (ws := (wM cyI A u w)) (ws' := (wM cyI A z_10.2.1 z_10.2.2)) (As := []) (rest := [.int 10]) hx hb hml hown hts hl.1 (WS := (wM cyI A u w)) (WS' := (wM cyI A z_10.2.1 z_10.2.2)) (ro := (some (.int z_10.1))) (by rw [hz_10]; exact kX7_goDay l D cyC cyI cyO A u w hm3 hln) bV_X7_goDay  wml_RX7_142 ⟨rfl, rfl⟩ ⟨Nat.le_of_ble_eq_true rfl, Nat.le_of_ble_eq_true rfl, Nat.zero_le _, Nat.zero_le _⟩ [0, 1, 2, 3, 4, 5, 6] rfl rfl rfl rfl rfl hP hD hS hA hK 0 rfl rfl rfl rfl rfl (Nat.le_of_ble_eq_true rfl) dX7_doesOrder_126 (fun H locs hP hD hS => ?_)
          refine lv_iadd hx hb dX7_doesOrder_129 ?_
          have e9 : (pX7_doesOrder u w) = (((10 : Int32) + z_10.1), z_10.2.1, z_10.2.2) := by simp only [pX7_doesOrder, ← hz_10, if_neg c_1, if_neg c_2, if_neg c_3, if_neg c_4]
          have e9_0 : (pX7_doesOrder u w).1 = ((10 : Int32) + z_10.1) := by rw [e9]
          have e9_1 : (pX7_doesOrder u w).2.1 = z_10.2.1 := by rw [e9]
          have e9_2 : (pX7_doesOrder u w).2.2 = z_10.2.2 := by rw [e9]
          exact W.iret (v := ((10 : Int32) + z_10.1)) hx hb hr (fun t ht hW => ⟨⟨by rw [e9_0], by rw [e9_1, e9_2, ht]; exact hP⟩, hS.F ht⟩) hS.2.2 dX7_doesOrder_130
theorem bV_X7_doesOrder : BV RX7 yX7_doesOrder cX7_doesOrder 1 (some .int) 0 := ⟨wcd_X7_doesOrder, wim_X7_doesOrder, wse_X7_doesOrder, win_RX7, by decide +kernel⟩
