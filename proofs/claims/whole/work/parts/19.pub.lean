def pX7_bears (u : (Nat → Nat → Int32)) (w : (Nat → Int32)) (a1 : Int32) (a2 : Int32) (kn : Nat) : Int32 × (Nat → Nat → Int32) × (Nat → Int32) := (if (pX7_isGangway a1) = 0 then ((-1), u, w) else (if (pX7_in a2 0 9) = 0 then ((-1), u, w) else (if a2 = 0 then (if (pX7_hasLine (pX7_lays (pX7_records u w kn).1 (pX7_records u w kn).2 a1 0 a2).1 (pX7_lays (pX7_records u w kn).1 (pX7_records u w kn).2 a1 0 a2).2 a1) = 0 then ((pX7_of (pX7_records u w kn).1 (pX7_records u w kn).2 a1 0), (pX7_lays (pX7_records u w kn).1 (pX7_records u w kn).2 a1 0 a2).1, (pX7_lays (pX7_records u w kn).1 (pX7_records u w kn).2 a1 0 a2).2) else ((pX7_of (pX7_records u w kn).1 (pX7_records u w kn).2 a1 0), (va_up (pX7_removes (pX7_lays (pX7_records u w kn).1 (pX7_records u w kn).2 a1 0 a2).1 (pX7_lays (pX7_records u w kn).1 (pX7_records u w kn).2 a1 0 a2).2 a1).1 0 (upd ((pX7_removes (pX7_lays (pX7_records u w kn).1 (pX7_records u w kn).2 a1 0 a2).1 (pX7_lays (pX7_records u w kn).1 (pX7_records u w kn).2 a1 0 a2).2 a1).1 0) 6 ((((pX7_removes (pX7_lays (pX7_records u w kn).1 (pX7_records u w kn).2 a1 0 a2).1 (pX7_lays (pX7_records u w kn).1 (pX7_records u w kn).2 a1 0 a2).2 a1).1 0) 6) + (1 : Int32)))), (pX7_removes (pX7_lays (pX7_records u w kn).1 (pX7_records u w kn).2 a1 0 a2).1 (pX7_lays (pX7_records u w kn).1 (pX7_records u w kn).2 a1 0 a2).2 a1).2)) else ((pX7_of (pX7_records u w kn).1 (pX7_records u w kn).2 a1 0), (pX7_lays (pX7_records u w kn).1 (pX7_records u w kn).2 a1 0 a2).1, (pX7_lays (pX7_records u w kn).1 (pX7_records u w kn).2 a1 0 a2).2))))
set_option maxHeartbeats 4000000 in
set_option maxRecDepth 100000 in
theorem kX7_bears (l : Launch) (D : va_G) (cyC cyI cyO : ClassId) (A : Nat → Nat) (u : (Nat → Nat → Int32)) (w : (Nat → Int32)) (a1 : Int32) (a2 : Int32) (kn : Nat) (hkn : kn ≤ 4) (hk : (w 3) = nI kn) : MU l yX7_bears (Ty yX7_bears cX7_bears 4 (some .int)) ({ frames := 2, cells := 0, slots := 0, locals := 45 } : Room) D cyC cyI cyO (wM cyI A u w) [.ref (A 0), .int a1, .int a2] (some (.int (pX7_bears u w a1 a2 kn).1)) (wM cyI A (pX7_bears u w a1 a2 kn).2.1 (pX7_bears u w a1 a2 kn).2.2) := by
  intro sz
  refine Met.ofW (cc := cX7_bears) (maxL := 4) (ret := (some .int)) (by decide) rfl ?_
  intro p e s m args below meth cd s₁ B hml hv
  obtain ⟨rfl, hsz, hP, hK, hD0⟩ := hv
  have hx := B.exec
  have hb := B.bytes
  have hr := B.returns
  have hts : ∀ w ∈ TB, w.before ([.ref (A 0), .int a1, .int a2] : List Value).toArray s = true := fun w h => atoms_spec (ws := (Ty yX7_bears cX7_bears 4 (some .int))) B.pre w (List.mem_cons_of_mem _ h)
  have hown : s.vm.findClass RX7 = some m.cls := findClass_of_methodNamed B.named
  have hlocks := B.notSynchronized
  subst hsz
  have hD := hD0.self (sz := s.heap.size)
  have hA : ∀ q : Nat, s.heap.size ≤ q → (va_A (wM cyI A u w) s.heap.size) q := fun q h => Or.inr h
  generalize hAe : va_A (wM cyI A u w) s.heap.size = A0 at hD hA ⊢
  have hS : va_S A0 s.heap s.heap [] := va_S.rf
  have hl := lv_entry ([.ref (A 0), .int a1, .int a2]) (n := 4) (Nat.le_of_ble_eq_true rfl)
  rw [lg_entry_eq]
  generalize (lg_sl ([.ref (A 0), .int a1, .int a2]) ++ List.replicate (4 - (lg_sl ([.ref (A 0), .int a1, .int a2])).length) Slot.unset).toArray = ls at hl ⊢
  have hl : lv_has ls 4 [(0, .ref (A 0)), (1, .int a1), (2, .int a2)] := hl
  refine lv_iload_n hx hb dX7_bears_0 rfl (lv_at hl 1 rfl) ?_
  refine rS (As := [.int a1]) (rest := []) hx hb hml hown hts hl.1 (kX7_isGangway l D cyC cyI cyO a1) bS_X7_isGangway  wml_RX7_29 ⟨rfl, rfl⟩ ⟨Nat.le_of_ble_eq_true rfl, Nat.le_of_ble_eq_true rfl, Nat.zero_le _, Nat.zero_le _⟩ [] rfl hP hK rfl rfl (Nat.le_of_ble_eq_true rfl) dX7_bears_1 ?_
  refine lv_if_eq (tgt := 17) hx hb dX7_bears_4 (by decide) (fun c_1 => ?_) (fun c_1 => ?_)
  · refine lv_iconst (v := (-1)) hx hb dX7_bears_17 (by decide) ?_
    have e9 : (pX7_bears u w a1 a2 kn) = ((-1), u, w) := by simp only [pX7_bears, if_pos c_1]
    have e9_0 : (pX7_bears u w a1 a2 kn).1 = (-1) := by rw [e9]
    have e9_1 : (pX7_bears u w a1 a2 kn).2.1 = u := by rw [e9]
    have e9_2 : (pX7_bears u w a1 a2 kn).2.2 = w := by rw [e9]
    exact W.iret (v := (-1)) hx hb hr (fun t ht hW => ⟨⟨by rw [e9_0], by rw [e9_1, e9_2, ht]; exact hP⟩, hS.F ht⟩) hS.2.2 dX7_bears_18
  · refine lv_iload_n hx hb dX7_bears_7 rfl (lv_at hl 2 rfl) ?_
    refine lv_iconst (v := 0) hx hb dX7_bears_8 (by decide) ?_
    refine lv_bipush (v := 9) hx hb dX7_bears_9 (by decide) ?_
    refine rS (As := [.int a2, .int 0, .int 9]) (rest := []) hx hb hml hown hts hl.1 (kX7_in l D cyC cyI cyO a2 0 9) bS_X7_in  wml_RX7_41 ⟨rfl, rfl⟩ ⟨Nat.le_of_ble_eq_true rfl, Nat.le_of_ble_eq_true rfl, Nat.zero_le _, Nat.zero_le _⟩ [] rfl hP hK rfl rfl (Nat.le_of_ble_eq_true rfl) dX7_bears_11 ?_
    refine lv_if_ne (tgt := 19) hx hb dX7_bears_14 (by decide) (fun c_2 => ?_) (fun c_2 => ?_)
    · refine lv_aload_n hx hb dX7_bears_19 rfl (lv_at hl 0 rfl) ?_
      obtain ⟨z_3, hz_3⟩ : ∃ q, q = (pX7_records u w kn) := ⟨_, rfl⟩
      refine mV (ws := (wM cyI A u w)) (ws' := (wM cyI A z_3.1 z_3.2)) (As := []) (rest := []) hx hb hml hown hts hl.1 (WS := (wM cyI A u w)) (WS' := (wM cyI A z_3.1 z_3.2)) (ro := none) (by rw [hz_3]; exact kX7_recordsK l D cyC cyI cyO A u w kn hkn hk) bV_X7_records  wml_RX7_118 ⟨rfl, rfl⟩ ⟨Nat.le_of_ble_eq_true rfl, Nat.le_of_ble_eq_true rfl, Nat.zero_le _, Nat.zero_le _⟩ [0, 1, 2, 3, 4, 5, 6] rfl rfl rfl rfl rfl hP hD hS hA hK 0 rfl rfl rfl rfl rfl (Nat.le_of_ble_eq_true rfl) dX7_bears_20 (fun H locs hP hD hS => ?_)
      refine lv_aload_n hx hb dX7_bears_23 rfl (lv_at hl 0 rfl) ?_
      refine lv_iload_n hx hb dX7_bears_24 rfl (lv_at hl 1 rfl) ?_
      refine lv_iconst (v := 0) hx hb dX7_bears_25 (by decide) ?_
      refine rV (As := [.int a1, .int 0]) (rest := []) hx hb hml hown hts hl.1 (kX7_of l D cyC cyI cyO A z_3.1 z_3.2 a1 0 (ig7_in c_1) (vp_lit (by decide))) bV_X7_of  wml_RX7_52 ⟨rfl, rfl⟩ ⟨Nat.le_of_ble_eq_true rfl, Nat.le_of_ble_eq_true rfl, Nat.zero_le _, Nat.zero_le _⟩ [0, 1, 2, 3, 4, 5, 6] rfl hP hK 0 rfl rfl rfl rfl rfl (Nat.le_of_ble_eq_true rfl) dX7_bears_26 ?_
      refine lv_istore_n (lv' := [(3, .int (pX7_of z_3.1 z_3.2 a1 0)), (0, .ref (A 0)), (1, .int a1), (2, .int a2)]) hx hb dX7_bears_29 rfl hl (by decide) rfl (fun ls hl => ?_)
      refine lv_aload_n hx hb dX7_bears_30 rfl (lv_at hl 1 rfl) ?_
      refine lv_iload_n hx hb dX7_bears_31 rfl (lv_at hl 2 rfl) ?_
      refine lv_iconst (v := 0) hx hb dX7_bears_32 (by decide) ?_
      refine lv_iload_n hx hb dX7_bears_33 rfl (lv_at hl 3 rfl) ?_
      obtain ⟨z_4, hz_4⟩ : ∃ q, q = (pX7_lays z_3.1 z_3.2 a1 0 a2) := ⟨_, rfl⟩
      refine mV (ws := (wM cyI A z_3.1 z_3.2)) (ws' := (wM cyI A z_4.1 z_4.2)) (As := [.int a1, .int 0, .int a2]) (rest := []) hx hb hml hown hts hl.1 (WS := (wM cyI A z_3.1 z_3.2)) (WS' := (wM cyI A z_4.1 z_4.2)) (ro := none) (by rw [hz_4]; exact kX7_lays l D cyC cyI cyO A z_3.1 z_3.2 a1 0 a2 (ig7_in c_1) (vp_lit (by decide))) bV_X7_lays  wml_RX7_91 ⟨rfl, rfl⟩ ⟨Nat.le_of_ble_eq_true rfl, Nat.le_of_ble_eq_true rfl, Nat.zero_le _, Nat.zero_le _⟩ [0, 1, 2, 3, 4, 5, 6] rfl rfl rfl rfl rfl hP hD hS hA hK 0 rfl rfl rfl rfl rfl (Nat.le_of_ble_eq_true rfl) dX7_bears_34 (fun H locs hP hD hS => ?_)
      refine lv_iload_n hx hb dX7_bears_37 rfl (lv_at hl 3 rfl) ?_
      refine lv_if_ne (tgt := 65) hx hb dX7_bears_38 (by decide) (fun c_5 => ?_) (fun c_5 => ?_)
      · refine lv_iload_n hx hb dX7_bears_65 rfl (lv_at hl 0 rfl) ?_
        have e9 : (pX7_bears u w a1 a2 kn) = ((pX7_of z_3.1 z_3.2 a1 0), z_4.1, z_4.2) := by simp only [pX7_bears, ← hz_3, ← hz_4, if_neg c_1, if_neg c_2, if_neg c_5]
        have e9_0 : (pX7_bears u w a1 a2 kn).1 = (pX7_of z_3.1 z_3.2 a1 0) := by rw [e9]
        have e9_1 : (pX7_bears u w a1 a2 kn).2.1 = z_4.1 := by rw [e9]
        have e9_2 : (pX7_bears u w a1 a2 kn).2.2 = z_4.2 := by rw [e9]
        exact W.iret (v := (pX7_of z_3.1 z_3.2 a1 0)) hx hb hr (fun t ht hW => ⟨⟨by rw [e9_0], by rw [e9_1, e9_2, ht]; exact hP⟩, hS.F ht⟩) hS.2.2 dX7_bears_66
      · refine lv_aload_n hx hb dX7_bears_41 rfl (lv_at hl 1 rfl) ?_
        refine lv_iload_n hx hb dX7_bears_42 rfl (lv_at hl 2 rfl) ?_
        refine rV (As := [.int a1]) (rest := []) hx hb hml hown hts hl.1 (kX7_hasLine l D cyC cyI cyO A z_4.1 z_4.2 a1 (ig7_in c_1)) bV_X7_hasLine  wml_RX7_56 ⟨rfl, rfl⟩ ⟨Nat.le_of_ble_eq_true rfl, Nat.le_of_ble_eq_true rfl, Nat.zero_le _, Nat.zero_le _⟩ [0, 1, 2, 3, 4, 5, 6] rfl hP hK 0 rfl rfl rfl rfl rfl (Nat.le_of_ble_eq_true rfl) dX7_bears_43 ?_
        refine lv_if_eq (tgt := 65) hx hb dX7_bears_46 (by decide) (fun c_6 => ?_) (fun c_6 => ?_)
        · refine lv_iload_n hx hb dX7_bears_65 rfl (lv_at hl 0 rfl) ?_
          have e9 : (pX7_bears u w a1 a2 kn) = ((pX7_of z_3.1 z_3.2 a1 0), z_4.1, z_4.2) := by simp only [pX7_bears, ← hz_3, ← hz_4, if_neg c_1, if_neg c_2, if_pos c_5, if_pos c_6]
          have e9_0 : (pX7_bears u w a1 a2 kn).1 = (pX7_of z_3.1 z_3.2 a1 0) := by rw [e9]
          have e9_1 : (pX7_bears u w a1 a2 kn).2.1 = z_4.1 := by rw [e9]
          have e9_2 : (pX7_bears u w a1 a2 kn).2.2 = z_4.2 := by rw [e9]
          exact W.iret (v := (pX7_of z_3.1 z_3.2 a1 0)) hx hb hr (fun t ht hW => ⟨⟨by rw [e9_0], by rw [e9_1, e9_2, ht]; exact hP⟩, hS.F ht⟩) hS.2.2 dX7_bears_66
        · refine lv_aload_n hx hb dX7_bears_49 rfl (lv_at hl 1 rfl) ?_
          refine lv_iload_n hx hb dX7_bears_50 rfl (lv_at hl 2 rfl) ?_
          obtain ⟨z_7, hz_7⟩ : ∃ q, q = (pX7_removes z_4.1 z_4.2 a1) := ⟨_, rfl⟩
          refine mV (ws := (wM cyI A z_4.1 z_4.2)) (ws' := (wM cyI A z_7.1 z_7.2)) (As := [.int a1]) (rest := []) hx hb hml hown hts hl.1 (WS := (wM cyI A z_4.1 z_4.2)) (WS' := (wM cyI A z_7.1 z_7.2)) (ro := none) (by rw [hz_7]; exact kX7_removes l D cyC cyI cyO A z_4.1 z_4.2 a1 (ig7_in c_1)) bV_X7_removes  wml_RX7_101 ⟨rfl, rfl⟩ ⟨Nat.le_of_ble_eq_true rfl, Nat.le_of_ble_eq_true rfl, Nat.zero_le _, Nat.zero_le _⟩ [0, 1, 2, 3, 4, 5, 6] rfl rfl rfl rfl rfl hP hD hS hA hK 0 rfl rfl rfl rfl rfl (Nat.le_of_ble_eq_true rfl) dX7_bears_51 (fun H locs hP hD hS => ?_)
          refine lv_aload_n hx hb dX7_bears_54 rfl (lv_at hl 1 rfl) ?_
          refine va_get (D := D) (ci := 6) (v := .ref (A 1)) (C := RX7) (T := TX7) (N := 15) hx hb hts inT_X7 hown hK.1 hP 0 rfl rfl 0 (by decide) (hts _ wfl_RX7_7) (fun _ h9 => h9) rfl dX7_bears_55 ?_
          refine lv_bipush (v := 6) hx hb dX7_bears_58 (by decide) ?_
          refine lv_dup2_11 hx hb dX7_bears_60 rfl rfl ?_
          refine va_iald (D := D) (f := (z_7.1 0)) hx hb hK.1 hP 1 1 rfl rfl (vp_lit (by decide)) dX7_bears_61 ?_
          refine W.eq (g2 := F0 m _ ls [.int ((z_7.1 0) 6), .int 6, .ref (A 1)]) rfl ?_
          refine lv_iconst (v := 1) hx hb dX7_bears_62 (by decide) ?_
          refine lv_iadd hx hb dX7_bears_63 ?_
          obtain ⟨z_8, hz_8⟩ : ∃ q, q = (upd (z_7.1 0) 6 (((z_7.1 0) 6) + (1 : Int32))) := ⟨_, rfl⟩
          refine va_iast (D := D) (f := (z_7.1 0)) hx hb hK.1 hP hD hS 1 1 rfl rfl (vp_lit (by decide)) dX7_bears_64 (fun H locs hP hD hS => ?_)
          have hP : va_P D vwCl (wM cyI A (va_up z_7.1 0 (upd (z_7.1 0) 6 (((z_7.1 0) 6) + (1 : Int32)))) z_7.2) H := hP
          have hD : va_D A0 (wM cyI A (va_up z_7.1 0 (upd (z_7.1 0) 6 (((z_7.1 0) 6) + (1 : Int32)))) z_7.2) := hD
          rw [← hz_8] at hP hD
          refine lv_iload_n hx hb dX7_bears_65 rfl (lv_at hl 0 rfl) ?_
          have e9 : (pX7_bears u w a1 a2 kn) = ((pX7_of z_3.1 z_3.2 a1 0), (va_up z_7.1 0 z_8), z_7.2) := by simp only [pX7_bears, ← hz_3, ← hz_4, ← hz_7, ← hz_8, if_neg c_1, if_neg c_2, if_pos c_5, if_neg c_6]
          have e9_0 : (pX7_bears u w a1 a2 kn).1 = (pX7_of z_3.1 z_3.2 a1 0) := by rw [e9]
          have e9_1 : (pX7_bears u w a1 a2 kn).2.1 = (va_up z_7.1 0 z_8) := by rw [e9]
          have e9_2 : (pX7_bears u w a1 a2 kn).2.2 = z_7.2 := by rw [e9]
          exact W.iret (v := (pX7_of z_3.1 z_3.2 a1 0)) hx hb hr (fun t ht hW => ⟨⟨by rw [e9_0], by rw [e9_1, e9_2, ht]; exact hP⟩, hS.F ht⟩) hS.2.2 dX7_bears_66
    · refine lv_iconst (v := (-1)) hx hb dX7_bears_17 (by decide) ?_
      have e9 : (pX7_bears u w a1 a2 kn) = ((-1), u, w) := by simp only [pX7_bears, if_neg c_1, if_pos c_2]
      have e9_0 : (pX7_bears u w a1 a2 kn).1 = (-1) := by rw [e9]
      have e9_1 : (pX7_bears u w a1 a2 kn).2.1 = u := by rw [e9]
      have e9_2 : (pX7_bears u w a1 a2 kn).2.2 = w := by rw [e9]
      exact W.iret (v := (-1)) hx hb hr (fun t ht hW => ⟨⟨by rw [e9_0], by rw [e9_1, e9_2, ht]; exact hP⟩, hS.F ht⟩) hS.2.2 dX7_bears_18
theorem bV_X7_bears : BV RX7 yX7_bears cX7_bears 4 (some .int) 2 := ⟨wcd_X7_bears, wim_X7_bears, wse_X7_bears, win_RX7, by decide +kernel⟩
def pX7_wind (u : (Nat → Nat → Int32)) (w : (Nat → Int32)) (a1 : Int32) (kn : Nat) : Int32 × (Nat → Nat → Int32) × (Nat → Int32) := (if (pX7_in a1 0 3) = 0 then ((-1), u, w) else ((((pX7_records u w kn).1 0) 1), (va_up (pX7_records u w kn).1 0 (upd ((pX7_records u w kn).1 0) 1 a1)), (pX7_records u w kn).2))
set_option maxHeartbeats 4000000 in
set_option maxRecDepth 100000 in
theorem kX7_wind (l : Launch) (D : va_G) (cyC cyI cyO : ClassId) (A : Nat → Nat) (u : (Nat → Nat → Int32)) (w : (Nat → Int32)) (a1 : Int32) (kn : Nat) (hkn : kn ≤ 4) (hk : (w 3) = nI kn) : MU l yX7_wind (Ty yX7_wind cX7_wind 3 (some .int)) ({ frames := 2, cells := 0, slots := 0, locals := 45 } : Room) D cyC cyI cyO (wM cyI A u w) [.ref (A 0), .int a1] (some (.int (pX7_wind u w a1 kn).1)) (wM cyI A (pX7_wind u w a1 kn).2.1 (pX7_wind u w a1 kn).2.2) := by
  intro sz
  refine Met.ofW (cc := cX7_wind) (maxL := 3) (ret := (some .int)) (by decide) rfl ?_
  intro p e s m args below meth cd s₁ B hml hv
  obtain ⟨rfl, hsz, hP, hK, hD0⟩ := hv
  have hx := B.exec
  have hb := B.bytes
  have hr := B.returns
  have hts : ∀ w ∈ TB, w.before ([.ref (A 0), .int a1] : List Value).toArray s = true := fun w h => atoms_spec (ws := (Ty yX7_wind cX7_wind 3 (some .int))) B.pre w (List.mem_cons_of_mem _ h)
  have hown : s.vm.findClass RX7 = some m.cls := findClass_of_methodNamed B.named
  have hlocks := B.notSynchronized
  subst hsz
  have hD := hD0.self (sz := s.heap.size)
  have hA : ∀ q : Nat, s.heap.size ≤ q → (va_A (wM cyI A u w) s.heap.size) q := fun q h => Or.inr h
  generalize hAe : va_A (wM cyI A u w) s.heap.size = A0 at hD hA ⊢
  have hS : va_S A0 s.heap s.heap [] := va_S.rf
  have hl := lv_entry ([.ref (A 0), .int a1]) (n := 3) (Nat.le_of_ble_eq_true rfl)
  rw [lg_entry_eq]
  generalize (lg_sl ([.ref (A 0), .int a1]) ++ List.replicate (3 - (lg_sl ([.ref (A 0), .int a1])).length) Slot.unset).toArray = ls at hl ⊢
  have hl : lv_has ls 3 [(0, .ref (A 0)), (1, .int a1)] := hl
  refine lv_iload_n hx hb dX7_wind_0 rfl (lv_at hl 1 rfl) ?_
  refine lv_iconst (v := 0) hx hb dX7_wind_1 (by decide) ?_
  refine lv_iconst (v := 3) hx hb dX7_wind_2 (by decide) ?_
  refine rS (As := [.int a1, .int 0, .int 3]) (rest := []) hx hb hml hown hts hl.1 (kX7_in l D cyC cyI cyO a1 0 3) bS_X7_in  wml_RX7_41 ⟨rfl, rfl⟩ ⟨Nat.le_of_ble_eq_true rfl, Nat.le_of_ble_eq_true rfl, Nat.zero_le _, Nat.zero_le _⟩ [] rfl hP hK rfl rfl (Nat.le_of_ble_eq_true rfl) dX7_wind_3 ?_
  refine lv_if_ne (tgt := 11) hx hb dX7_wind_6 (by decide) (fun c_1 => ?_) (fun c_1 => ?_)
  · refine lv_aload_n hx hb dX7_wind_11 rfl (lv_at hl 0 rfl) ?_
    obtain ⟨z_2, hz_2⟩ : ∃ q, q = (pX7_records u w kn) := ⟨_, rfl⟩
    refine mV (ws := (wM cyI A u w)) (ws' := (wM cyI A z_2.1 z_2.2)) (As := []) (rest := []) hx hb hml hown hts hl.1 (WS := (wM cyI A u w)) (WS' := (wM cyI A z_2.1 z_2.2)) (ro := none) (by rw [hz_2]; exact kX7_recordsK l D cyC cyI cyO A u w kn hkn hk) bV_X7_records  wml_RX7_118 ⟨rfl, rfl⟩ ⟨Nat.le_of_ble_eq_true rfl, Nat.le_of_ble_eq_true rfl, Nat.zero_le _, Nat.zero_le _⟩ [0, 1, 2, 3, 4, 5, 6] rfl rfl rfl rfl rfl hP hD hS hA hK 0 rfl rfl rfl rfl rfl (Nat.le_of_ble_eq_true rfl) dX7_wind_12 (fun H locs hP hD hS => ?_)
    refine lv_aload_n hx hb dX7_wind_15 rfl (lv_at hl 0 rfl) ?_
    refine va_get (D := D) (ci := 6) (v := .ref (A 1)) (C := RX7) (T := TX7) (N := 15) hx hb hts inT_X7 hown hK.1 hP 0 rfl rfl 0 (by decide) (hts _ wfl_RX7_7) (fun _ h9 => h9) rfl dX7_wind_16 ?_
    refine lv_iconst (v := 1) hx hb dX7_wind_19 (by decide) ?_
    refine va_iald (D := D) (f := (z_2.1 0)) hx hb hK.1 hP 1 1 rfl rfl (vp_lit (by decide)) dX7_wind_20 ?_
    refine W.eq (g2 := F0 m _ ls [.int ((z_2.1 0) 1)]) rfl ?_
    refine lv_istore_n (lv' := [(2, .int ((z_2.1 0) 1)), (0, .ref (A 0)), (1, .int a1)]) hx hb dX7_wind_21 rfl hl (by decide) rfl (fun ls hl => ?_)
    refine lv_aload_n hx hb dX7_wind_22 rfl (lv_at hl 1 rfl) ?_
    refine va_get (D := D) (ci := 6) (v := .ref (A 1)) (C := RX7) (T := TX7) (N := 15) hx hb hts inT_X7 hown hK.1 hP 0 rfl rfl 0 (by decide) (hts _ wfl_RX7_7) (fun _ h9 => h9) rfl dX7_wind_23 ?_
    refine lv_iconst (v := 1) hx hb dX7_wind_26 (by decide) ?_
    refine lv_iload_n hx hb dX7_wind_27 rfl (lv_at hl 2 rfl) ?_
    obtain ⟨z_3, hz_3⟩ : ∃ q, q = (upd (z_2.1 0) 1 a1) := ⟨_, rfl⟩
    refine va_iast (D := D) (f := (z_2.1 0)) hx hb hK.1 hP hD hS 1 1 rfl rfl (vp_lit (by decide)) dX7_wind_28 (fun H locs hP hD hS => ?_)
    have hP : va_P D vwCl (wM cyI A (va_up z_2.1 0 (upd (z_2.1 0) 1 a1)) z_2.2) H := hP
    have hD : va_D A0 (wM cyI A (va_up z_2.1 0 (upd (z_2.1 0) 1 a1)) z_2.2) := hD
    rw [← hz_3] at hP hD
    refine lv_iload_n hx hb dX7_wind_29 rfl (lv_at hl 0 rfl) ?_
    have e9 : (pX7_wind u w a1 kn) = (((z_2.1 0) 1), (va_up z_2.1 0 z_3), z_2.2) := by simp only [pX7_wind, ← hz_2, ← hz_3, if_neg c_1]
    have e9_0 : (pX7_wind u w a1 kn).1 = ((z_2.1 0) 1) := by rw [e9]
    have e9_1 : (pX7_wind u w a1 kn).2.1 = (va_up z_2.1 0 z_3) := by rw [e9]
    have e9_2 : (pX7_wind u w a1 kn).2.2 = z_2.2 := by rw [e9]
    exact W.iret (v := ((z_2.1 0) 1)) hx hb hr (fun t ht hW => ⟨⟨by rw [e9_0], by rw [e9_1, e9_2, ht]; exact hP⟩, hS.F ht⟩) hS.2.2 dX7_wind_30
  · refine lv_iconst (v := (-1)) hx hb dX7_wind_9 (by decide) ?_
    have e9 : (pX7_wind u w a1 kn) = ((-1), u, w) := by simp only [pX7_wind, if_pos c_1]
    have e9_0 : (pX7_wind u w a1 kn).1 = (-1) := by rw [e9]
    have e9_1 : (pX7_wind u w a1 kn).2.1 = u := by rw [e9]
    have e9_2 : (pX7_wind u w a1 kn).2.2 = w := by rw [e9]
    exact W.iret (v := (-1)) hx hb hr (fun t ht hW => ⟨⟨by rw [e9_0], by rw [e9_1, e9_2, ht]; exact hP⟩, hS.F ht⟩) hS.2.2 dX7_wind_10
theorem bV_X7_wind : BV RX7 yX7_wind cX7_wind 3 (some .int) 1 := ⟨wcd_X7_wind, wim_X7_wind, wse_X7_wind, win_RX7, by decide +kernel⟩
def pX7_chimney (u : (Nat → Nat → Int32)) (w : (Nat → Int32)) (a1 : Int32) (kn : Nat) : Int32 × (Nat → Nat → Int32) × (Nat → Int32) := (if (pX7_isRoof a1) = 0 then ((-1), u, w) else ((pX7_goChimney (pX7_records u w kn).1 (pX7_records u w kn).2 a1).1, (pX7_goChimney (pX7_records u w kn).1 (pX7_records u w kn).2 a1).2.1, (pX7_goChimney (pX7_records u w kn).1 (pX7_records u w kn).2 a1).2.2))
set_option maxHeartbeats 4000000 in
set_option maxRecDepth 100000 in
theorem kX7_chimney (l : Launch) (D : va_G) (cyC cyI cyO : ClassId) (A : Nat → Nat) (u : (Nat → Nat → Int32)) (w : (Nat → Int32)) (a1 : Int32) (kn : Nat) (hkn : kn ≤ 4) (hk : (w 3) = nI kn) (hm3 : ((u 0) 2) ≤ 3) : MU l yX7_chimney (Ty yX7_chimney cX7_chimney 2 (some .int)) ({ frames := 5, cells := 0, slots := 0, locals := 112 } : Room) D cyC cyI cyO (wM cyI A u w) [.ref (A 0), .int a1] (some (.int (pX7_chimney u w a1 kn).1)) (wM cyI A (pX7_chimney u w a1 kn).2.1 (pX7_chimney u w a1 kn).2.2) := by
  intro sz
  refine Met.ofW (cc := cX7_chimney) (maxL := 2) (ret := (some .int)) (by decide) rfl ?_
  intro p e s m args below meth cd s₁ B hml hv
  obtain ⟨rfl, hsz, hP, hK, hD0⟩ := hv
  have hx := B.exec
  have hb := B.bytes
  have hr := B.returns
  have hts : ∀ w ∈ TB, w.before ([.ref (A 0), .int a1] : List Value).toArray s = true := fun w h => atoms_spec (ws := (Ty yX7_chimney cX7_chimney 2 (some .int))) B.pre w (List.mem_cons_of_mem _ h)
  have hown : s.vm.findClass RX7 = some m.cls := findClass_of_methodNamed B.named
  have hlocks := B.notSynchronized
  subst hsz
  have hD := hD0.self (sz := s.heap.size)
  have hA : ∀ q : Nat, s.heap.size ≤ q → (va_A (wM cyI A u w) s.heap.size) q := fun q h => Or.inr h
  generalize hAe : va_A (wM cyI A u w) s.heap.size = A0 at hD hA ⊢
  have hS : va_S A0 s.heap s.heap [] := va_S.rf
  have hl := lv_entry ([.ref (A 0), .int a1]) (n := 2) (Nat.le_of_ble_eq_true rfl)
  rw [lg_entry_eq]
  generalize (lg_sl ([.ref (A 0), .int a1]) ++ List.replicate (2 - (lg_sl ([.ref (A 0), .int a1])).length) Slot.unset).toArray = ls at hl ⊢
  have hl : lv_has ls 2 [(0, .ref (A 0)), (1, .int a1)] := hl
  refine lv_iload_n hx hb dX7_chimney_0 rfl (lv_at hl 1 rfl) ?_
  refine rS (As := [.int a1]) (rest := []) hx hb hml hown hts hl.1 (kX7_isRoof l D cyC cyI cyO a1) bS_X7_isRoof  wml_RX7_121 ⟨rfl, rfl⟩ ⟨Nat.le_of_ble_eq_true rfl, Nat.le_of_ble_eq_true rfl, Nat.zero_le _, Nat.zero_le _⟩ [] rfl hP hK rfl rfl (Nat.le_of_ble_eq_true rfl) dX7_chimney_1 ?_
  refine lv_if_ne (tgt := 9) hx hb dX7_chimney_4 (by decide) (fun c_1 => ?_) (fun c_1 => ?_)
  · refine lv_aload_n hx hb dX7_chimney_9 rfl (lv_at hl 0 rfl) ?_
    obtain ⟨z_2, hz_2⟩ : ∃ q, q = (pX7_records u w kn) := ⟨_, rfl⟩
    refine mV (ws := (wM cyI A u w)) (ws' := (wM cyI A z_2.1 z_2.2)) (As := []) (rest := []) hx hb hml hown hts hl.1 (WS := (wM cyI A u w)) (WS' := (wM cyI A z_2.1 z_2.2)) (ro := none) (by rw [hz_2]; exact kX7_recordsK l D cyC cyI cyO A u w kn hkn hk) bV_X7_records  wml_RX7_118 ⟨rfl, rfl⟩ ⟨Nat.le_of_ble_eq_true rfl, Nat.le_of_ble_eq_true rfl, Nat.zero_le _, Nat.zero_le _⟩ [0, 1, 2, 3, 4, 5, 6] rfl rfl rfl rfl rfl hP hD hS hA hK 0 rfl rfl rfl rfl rfl (Nat.le_of_ble_eq_true rfl) dX7_chimney_10 (fun H locs hP hD hS => ?_)
    refine lv_aload_n hx hb dX7_chimney_13 rfl (lv_at hl 0 rfl) ?_
    refine lv_iload_n hx hb dX7_chimney_14 rfl (lv_at hl 1 rfl) ?_
    obtain ⟨z_3, hz_3⟩ : ∃ q, q = (pX7_goChimney z_2.1 z_2.2 a1) := ⟨_, rfl⟩
    refine mV (ws := (wM cyI A z_2.1 z_2.2)) (ws' := (wM cyI A z_3.2.1 z_3.2.2)) (As := [.int a1]) (rest := []) hx hb hml hown hts hl.1 (WS := (wM cyI A z_2.1 z_2.2)) (WS' := (wM cyI A z_3.2.1 z_3.2.2)) (ro := (some (.int z_3.1))) (by rw [hz_3]; exact kX7_goChimney l D cyC cyI cyO A z_2.1 z_2.2 a1 (by rw [hz_2, rec_u0]; exact hm3)) bV_X7_goChimney  wml_RX7_124 ⟨rfl, rfl⟩ ⟨Nat.le_of_ble_eq_true rfl, Nat.le_of_ble_eq_true rfl, Nat.zero_le _, Nat.zero_le _⟩ [0, 1, 2, 3, 4, 5, 6] rfl rfl rfl rfl rfl hP hD hS hA hK 0 rfl rfl rfl rfl rfl (Nat.le_of_ble_eq_true rfl) dX7_chimney_15 (fun H locs hP hD hS => ?_)
    have e9 : (pX7_chimney u w a1 kn) = (z_3.1, z_3.2.1, z_3.2.2) := by simp only [pX7_chimney, ← hz_2, ← hz_3, if_neg c_1]
    have e9_0 : (pX7_chimney u w a1 kn).1 = z_3.1 := by rw [e9]
    have e9_1 : (pX7_chimney u w a1 kn).2.1 = z_3.2.1 := by rw [e9]
    have e9_2 : (pX7_chimney u w a1 kn).2.2 = z_3.2.2 := by rw [e9]
    exact W.iret (v := z_3.1) hx hb hr (fun t ht hW => ⟨⟨by rw [e9_0], by rw [e9_1, e9_2, ht]; exact hP⟩, hS.F ht⟩) hS.2.2 dX7_chimney_18
  · refine lv_iconst (v := (-1)) hx hb dX7_chimney_7 (by decide) ?_
    have e9 : (pX7_chimney u w a1 kn) = ((-1), u, w) := by simp only [pX7_chimney, if_pos c_1]
    have e9_0 : (pX7_chimney u w a1 kn).1 = (-1) := by rw [e9]
    have e9_1 : (pX7_chimney u w a1 kn).2.1 = u := by rw [e9]
    have e9_2 : (pX7_chimney u w a1 kn).2.2 = w := by rw [e9]
    exact W.iret (v := (-1)) hx hb hr (fun t ht hW => ⟨⟨by rw [e9_0], by rw [e9_1, e9_2, ht]; exact hP⟩, hS.F ht⟩) hS.2.2 dX7_chimney_8
theorem bV_X7_chimney : BV RX7 yX7_chimney cX7_chimney 2 (some .int) 1 := ⟨wcd_X7_chimney, wim_X7_chimney, wse_X7_chimney, win_RX7, by decide +kernel⟩
def pX7_coop (u : (Nat → Nat → Int32)) (w : (Nat → Int32)) (a1 : Int32) (kn : Nat) : Int32 × (Nat → Nat → Int32) × (Nat → Int32) := (if (pX7_isRoof a1) = 0 then ((-1), u, w) else ((pX7_ones ((upd ((pX7_records u w kn).1 0) 9 ((((pX7_records u w kn).1 0) 9) ^^^ ((1 : Int32) <<< (a1 &&& 31)))) 9)), (va_up (pX7_records u w kn).1 0 (upd ((pX7_records u w kn).1 0) 9 ((((pX7_records u w kn).1 0) 9) ^^^ ((1 : Int32) <<< (a1 &&& 31))))), (pX7_records u w kn).2))
set_option maxHeartbeats 4000000 in
set_option maxRecDepth 100000 in
theorem kX7_coop (l : Launch) (D : va_G) (cyC cyI cyO : ClassId) (A : Nat → Nat) (u : (Nat → Nat → Int32)) (w : (Nat → Int32)) (a1 : Int32) (kn : Nat) (hkn : kn ≤ 4) (hk : (w 3) = nI kn) : MU l yX7_coop (Ty yX7_coop cX7_coop 2 (some .int)) ({ frames := 2, cells := 0, slots := 0, locals := 45 } : Room) D cyC cyI cyO (wM cyI A u w) [.ref (A 0), .int a1] (some (.int (pX7_coop u w a1 kn).1)) (wM cyI A (pX7_coop u w a1 kn).2.1 (pX7_coop u w a1 kn).2.2) := by
  intro sz
  refine Met.ofW (cc := cX7_coop) (maxL := 2) (ret := (some .int)) (by decide) rfl ?_
  intro p e s m args below meth cd s₁ B hml hv
  obtain ⟨rfl, hsz, hP, hK, hD0⟩ := hv
  have hx := B.exec
  have hb := B.bytes
  have hr := B.returns
  have hts : ∀ w ∈ TB, w.before ([.ref (A 0), .int a1] : List Value).toArray s = true := fun w h => atoms_spec (ws := (Ty yX7_coop cX7_coop 2 (some .int))) B.pre w (List.mem_cons_of_mem _ h)
  have hown : s.vm.findClass RX7 = some m.cls := findClass_of_methodNamed B.named
  have hlocks := B.notSynchronized
  subst hsz
  have hD := hD0.self (sz := s.heap.size)
  have hA : ∀ q : Nat, s.heap.size ≤ q → (va_A (wM cyI A u w) s.heap.size) q := fun q h => Or.inr h
  generalize hAe : va_A (wM cyI A u w) s.heap.size = A0 at hD hA ⊢
  have hS : va_S A0 s.heap s.heap [] := va_S.rf
  have hl := lv_entry ([.ref (A 0), .int a1]) (n := 2) (Nat.le_of_ble_eq_true rfl)
  rw [lg_entry_eq]
  generalize (lg_sl ([.ref (A 0), .int a1]) ++ List.replicate (2 - (lg_sl ([.ref (A 0), .int a1])).length) Slot.unset).toArray = ls at hl ⊢
  have hl : lv_has ls 2 [(0, .ref (A 0)), (1, .int a1)] := hl
  refine lv_iload_n hx hb dX7_coop_0 rfl (lv_at hl 1 rfl) ?_
  refine rS (As := [.int a1]) (rest := []) hx hb hml hown hts hl.1 (kX7_isRoof l D cyC cyI cyO a1) bS_X7_isRoof  wml_RX7_121 ⟨rfl, rfl⟩ ⟨Nat.le_of_ble_eq_true rfl, Nat.le_of_ble_eq_true rfl, Nat.zero_le _, Nat.zero_le _⟩ [] rfl hP hK rfl rfl (Nat.le_of_ble_eq_true rfl) dX7_coop_1 ?_
  refine lv_if_ne (tgt := 9) hx hb dX7_coop_4 (by decide) (fun c_1 => ?_) (fun c_1 => ?_)
  · refine lv_aload_n hx hb dX7_coop_9 rfl (lv_at hl 0 rfl) ?_
    obtain ⟨z_2, hz_2⟩ : ∃ q, q = (pX7_records u w kn) := ⟨_, rfl⟩
    refine mV (ws := (wM cyI A u w)) (ws' := (wM cyI A z_2.1 z_2.2)) (As := []) (rest := []) hx hb hml hown hts hl.1 (WS := (wM cyI A u w)) (WS' := (wM cyI A z_2.1 z_2.2)) (ro := none) (by rw [hz_2]; exact kX7_recordsK l D cyC cyI cyO A u w kn hkn hk) bV_X7_records  wml_RX7_118 ⟨rfl, rfl⟩ ⟨Nat.le_of_ble_eq_true rfl, Nat.le_of_ble_eq_true rfl, Nat.zero_le _, Nat.zero_le _⟩ [0, 1, 2, 3, 4, 5, 6] rfl rfl rfl rfl rfl hP hD hS hA hK 0 rfl rfl rfl rfl rfl (Nat.le_of_ble_eq_true rfl) dX7_coop_10 (fun H locs hP hD hS => ?_)
    refine lv_aload_n hx hb dX7_coop_13 rfl (lv_at hl 0 rfl) ?_
    refine va_get (D := D) (ci := 6) (v := .ref (A 1)) (C := RX7) (T := TX7) (N := 15) hx hb hts inT_X7 hown hK.1 hP 0 rfl rfl 0 (by decide) (hts _ wfl_RX7_7) (fun _ h9 => h9) rfl dX7_coop_14 ?_
    refine lv_bipush (v := 9) hx hb dX7_coop_17 (by decide) ?_
    refine lv_dup2_11 hx hb dX7_coop_19 rfl rfl ?_
    refine va_iald (D := D) (f := (z_2.1 0)) hx hb hK.1 hP 1 1 rfl rfl (vp_lit (by decide)) dX7_coop_20 ?_
    refine W.eq (g2 := F0 m _ ls [.int ((z_2.1 0) 9), .int 9, .ref (A 1)]) rfl ?_
    refine lv_iconst (v := 1) hx hb dX7_coop_21 (by decide) ?_
    refine lv_iload_n hx hb dX7_coop_22 rfl (lv_at hl 1 rfl) ?_
    refine lv_ishl hx hb dX7_coop_23 ?_
    refine lv_ixor hx hb dX7_coop_24 ?_
    obtain ⟨z_3, hz_3⟩ : ∃ q, q = (upd (z_2.1 0) 9 (((z_2.1 0) 9) ^^^ ((1 : Int32) <<< (a1 &&& 31)))) := ⟨_, rfl⟩
    refine va_iast (D := D) (f := (z_2.1 0)) hx hb hK.1 hP hD hS 1 1 rfl rfl (vp_lit (by decide)) dX7_coop_25 (fun H locs hP hD hS => ?_)
    have hP : va_P D vwCl (wM cyI A (va_up z_2.1 0 (upd (z_2.1 0) 9 (((z_2.1 0) 9) ^^^ ((1 : Int32) <<< (a1 &&& 31))))) z_2.2) H := hP
    have hD : va_D A0 (wM cyI A (va_up z_2.1 0 (upd (z_2.1 0) 9 (((z_2.1 0) 9) ^^^ ((1 : Int32) <<< (a1 &&& 31))))) z_2.2) := hD
    rw [← hz_3] at hP hD
    refine lv_aload_n hx hb dX7_coop_26 rfl (lv_at hl 0 rfl) ?_
    refine va_get (D := D) (ci := 6) (v := .ref (A 1)) (C := RX7) (T := TX7) (N := 15) hx hb hts inT_X7 hown hK.1 hP 0 rfl rfl 0 (by decide) (hts _ wfl_RX7_7) (fun _ h9 => h9) rfl dX7_coop_27 ?_
    refine lv_bipush (v := 9) hx hb dX7_coop_30 (by decide) ?_
    refine va_iald (D := D) (f := z_3) hx hb hK.1 hP 1 1 rfl rfl (vp_lit (by decide)) dX7_coop_32 ?_
    refine W.eq (g2 := F0 m _ ls [.int (z_3 9)]) rfl ?_
    refine rS (As := [.int (z_3 9)]) (rest := []) hx hb hml hown hts hl.1 (kX7_ones l D cyC cyI cyO (z_3 9)) bS_X7_ones  wml_RX7_112 ⟨rfl, rfl⟩ ⟨Nat.le_of_ble_eq_true rfl, Nat.le_of_ble_eq_true rfl, Nat.zero_le _, Nat.zero_le _⟩ [] rfl hP hK rfl rfl (Nat.le_of_ble_eq_true rfl) dX7_coop_33 ?_
    have e9 : (pX7_coop u w a1 kn) = ((pX7_ones (z_3 9)), (va_up z_2.1 0 z_3), z_2.2) := by simp only [pX7_coop, ← hz_2, ← hz_3, if_neg c_1]
    have e9_0 : (pX7_coop u w a1 kn).1 = (pX7_ones (z_3 9)) := by rw [e9]
    have e9_1 : (pX7_coop u w a1 kn).2.1 = (va_up z_2.1 0 z_3) := by rw [e9]
    have e9_2 : (pX7_coop u w a1 kn).2.2 = z_2.2 := by rw [e9]
    exact W.iret (v := (pX7_ones (z_3 9))) hx hb hr (fun t ht hW => ⟨⟨by rw [e9_0], by rw [e9_1, e9_2, ht]; exact hP⟩, hS.F ht⟩) hS.2.2 dX7_coop_36
  · refine lv_iconst (v := (-1)) hx hb dX7_coop_7 (by decide) ?_
    have e9 : (pX7_coop u w a1 kn) = ((-1), u, w) := by simp only [pX7_coop, if_pos c_1]
    have e9_0 : (pX7_coop u w a1 kn).1 = (-1) := by rw [e9]
    have e9_1 : (pX7_coop u w a1 kn).2.1 = u := by rw [e9]
    have e9_2 : (pX7_coop u w a1 kn).2.2 = w := by rw [e9]
    exact W.iret (v := (-1)) hx hb hr (fun t ht hW => ⟨⟨by rw [e9_0], by rw [e9_1, e9_2, ht]; exact hP⟩, hS.F ht⟩) hS.2.2 dX7_coop_8
theorem bV_X7_coop : BV RX7 yX7_coop cX7_coop 2 (some .int) 1 := ⟨wcd_X7_coop, wim_X7_coop, wse_X7_coop, win_RX7, by decide +kernel⟩
def pX7_owner (u : (Nat → Nat → Int32)) (w : (Nat → Int32)) (a1 : Int32) (a2 : Int32) (a3 : Int32) (a4 : Int32) (kn : Nat) : Int32 × (Nat → Nat → Int32) × (Nat → Int32) := (if (pX7_isOwner a1) = 0 then ((-1), u, w) else (if (pX7_in a2 1 9) = 0 then ((-1), u, w) else (if (pX7_in a3 0 65535) = 0 then ((-1), u, w) else (if a4 = 0 then ((pX7_ofOwner (pX7_records u w kn).1 (pX7_records u w kn).2 a1 0), (va_up (pX7_records u w kn).1 0 (upd (upd (upd ((pX7_records u w kn).1 0) ((((10 : Int32) + ((5 : Int32) * a1)) + (0 : Int32))).toNatClampNeg a2) ((((10 : Int32) + ((5 : Int32) * a1)) + (1 : Int32))).toNatClampNeg a3) ((((10 : Int32) + ((5 : Int32) * a1)) + (2 : Int32))).toNatClampNeg (0 : Int32))), (pX7_records u w kn).2) else ((pX7_ofOwner (pX7_records u w kn).1 (pX7_records u w kn).2 a1 0), (va_up (pX7_records u w kn).1 0 (upd (upd (upd ((pX7_records u w kn).1 0) ((((10 : Int32) + ((5 : Int32) * a1)) + (0 : Int32))).toNatClampNeg a2) ((((10 : Int32) + ((5 : Int32) * a1)) + (1 : Int32))).toNatClampNeg a3) ((((10 : Int32) + ((5 : Int32) * a1)) + (2 : Int32))).toNatClampNeg (1 : Int32))), (pX7_records u w kn).2)))))
set_option maxHeartbeats 4000000 in
set_option maxRecDepth 100000 in
theorem kX7_owner (l : Launch) (D : va_G) (cyC cyI cyO : ClassId) (A : Nat → Nat) (u : (Nat → Nat → Int32)) (w : (Nat → Int32)) (a1 : Int32) (a2 : Int32) (a3 : Int32) (a4 : Int32) (kn : Nat) (hkn : kn ≤ 4) (hk : (w 3) = nI kn) : MU l yX7_owner (Ty yX7_owner cX7_owner 6 (some .int)) ({ frames := 2, cells := 0, slots := 0, locals := 45 } : Room) D cyC cyI cyO (wM cyI A u w) [.ref (A 0), .int a1, .int a2, .int a3, .int a4] (some (.int (pX7_owner u w a1 a2 a3 a4 kn).1)) (wM cyI A (pX7_owner u w a1 a2 a3 a4 kn).2.1 (pX7_owner u w a1 a2 a3 a4 kn).2.2) := by
  intro sz
  refine Met.ofW (cc := cX7_owner) (maxL := 6) (ret := (some .int)) (by decide) rfl ?_
  intro p e s m args below meth cd s₁ B hml hv
  obtain ⟨rfl, hsz, hP, hK, hD0⟩ := hv
  have hx := B.exec
  have hb := B.bytes
  have hr := B.returns
  have hts : ∀ w ∈ TB, w.before ([.ref (A 0), .int a1, .int a2, .int a3, .int a4] : List Value).toArray s = true := fun w h => atoms_spec (ws := (Ty yX7_owner cX7_owner 6 (some .int))) B.pre w (List.mem_cons_of_mem _ h)
  have hown : s.vm.findClass RX7 = some m.cls := findClass_of_methodNamed B.named
  have hlocks := B.notSynchronized
  subst hsz
  have hD := hD0.self (sz := s.heap.size)
  have hA : ∀ q : Nat, s.heap.size ≤ q → (va_A (wM cyI A u w) s.heap.size) q := fun q h => Or.inr h
  generalize hAe : va_A (wM cyI A u w) s.heap.size = A0 at hD hA ⊢
  have hS : va_S A0 s.heap s.heap [] := va_S.rf
  have hl := lv_entry ([.ref (A 0), .int a1, .int a2, .int a3, .int a4]) (n := 6) (Nat.le_of_ble_eq_true rfl)
  rw [lg_entry_eq]
  generalize (lg_sl ([.ref (A 0), .int a1, .int a2, .int a3, .int a4]) ++ List.replicate (6 - (lg_sl ([.ref (A 0), .int a1, .int a2, .int a3, .int a4])).length) Slot.unset).toArray = ls at hl ⊢
  have hl : lv_has ls 6 [(0, .ref (A 0)), (1, .int a1), (2, .int a2), (3, .int a3), (4, .int a4)] := hl
  refine lv_iload_n hx hb dX7_owner_0 rfl (lv_at hl 1 rfl) ?_
  refine rS (As := [.int a1]) (rest := []) hx hb hml hown hts hl.1 (kX7_isOwner l D cyC cyI cyO a1) bS_X7_isOwner  wml_RX7_127 ⟨rfl, rfl⟩ ⟨Nat.le_of_ble_eq_true rfl, Nat.le_of_ble_eq_true rfl, Nat.zero_le _, Nat.zero_le _⟩ [] rfl hP hK rfl rfl (Nat.le_of_ble_eq_true rfl) dX7_owner_1 ?_
  refine lv_if_eq (tgt := 27) hx hb dX7_owner_4 (by decide) (fun c_1 => ?_) (fun c_1 => ?_)
  · refine lv_iconst (v := (-1)) hx hb dX7_owner_27 (by decide) ?_
    have e9 : (pX7_owner u w a1 a2 a3 a4 kn) = ((-1), u, w) := by simp only [pX7_owner, if_pos c_1]
    have e9_0 : (pX7_owner u w a1 a2 a3 a4 kn).1 = (-1) := by rw [e9]
    have e9_1 : (pX7_owner u w a1 a2 a3 a4 kn).2.1 = u := by rw [e9]
    have e9_2 : (pX7_owner u w a1 a2 a3 a4 kn).2.2 = w := by rw [e9]
    exact W.iret (v := (-1)) hx hb hr (fun t ht hW => ⟨⟨by rw [e9_0], by rw [e9_1, e9_2, ht]; exact hP⟩, hS.F ht⟩) hS.2.2 dX7_owner_28
  · refine lv_iload_n hx hb dX7_owner_7 rfl (lv_at hl 2 rfl) ?_
    refine lv_iconst (v := 1) hx hb dX7_owner_8 (by decide) ?_
    refine lv_bipush (v := 9) hx hb dX7_owner_9 (by decide) ?_
    refine rS (As := [.int a2, .int 1, .int 9]) (rest := []) hx hb hml hown hts hl.1 (kX7_in l D cyC cyI cyO a2 1 9) bS_X7_in  wml_RX7_41 ⟨rfl, rfl⟩ ⟨Nat.le_of_ble_eq_true rfl, Nat.le_of_ble_eq_true rfl, Nat.zero_le _, Nat.zero_le _⟩ [] rfl hP hK rfl rfl (Nat.le_of_ble_eq_true rfl) dX7_owner_11 ?_
    refine lv_if_eq (tgt := 27) hx hb dX7_owner_14 (by decide) (fun c_2 => ?_) (fun c_2 => ?_)
    · refine lv_iconst (v := (-1)) hx hb dX7_owner_27 (by decide) ?_
      have e9 : (pX7_owner u w a1 a2 a3 a4 kn) = ((-1), u, w) := by simp only [pX7_owner, if_neg c_1, if_pos c_2]
      have e9_0 : (pX7_owner u w a1 a2 a3 a4 kn).1 = (-1) := by rw [e9]
      have e9_1 : (pX7_owner u w a1 a2 a3 a4 kn).2.1 = u := by rw [e9]
      have e9_2 : (pX7_owner u w a1 a2 a3 a4 kn).2.2 = w := by rw [e9]
      exact W.iret (v := (-1)) hx hb hr (fun t ht hW => ⟨⟨by rw [e9_0], by rw [e9_1, e9_2, ht]; exact hP⟩, hS.F ht⟩) hS.2.2 dX7_owner_28
    · refine lv_iload_n hx hb dX7_owner_17 rfl (lv_at hl 3 rfl) ?_
      refine lv_iconst (v := 0) hx hb dX7_owner_18 (by decide) ?_
      refine lv_ldc (v := 65535) hx hb hown (hts _ wco_RX7_28) dX7_owner_19 ?_
      refine rS (As := [.int a3, .int 0, .int 65535]) (rest := []) hx hb hml hown hts hl.1 (kX7_in l D cyC cyI cyO a3 0 65535) bS_X7_in  wml_RX7_41 ⟨rfl, rfl⟩ ⟨Nat.le_of_ble_eq_true rfl, Nat.le_of_ble_eq_true rfl, Nat.zero_le _, Nat.zero_le _⟩ [] rfl hP hK rfl rfl (Nat.le_of_ble_eq_true rfl) dX7_owner_21 ?_
      refine lv_if_ne (tgt := 29) hx hb dX7_owner_24 (by decide) (fun c_3 => ?_) (fun c_3 => ?_)
      · refine lv_aload_n hx hb dX7_owner_29 rfl (lv_at hl 0 rfl) ?_
        obtain ⟨z_4, hz_4⟩ : ∃ q, q = (pX7_records u w kn) := ⟨_, rfl⟩
        refine mV (ws := (wM cyI A u w)) (ws' := (wM cyI A z_4.1 z_4.2)) (As := []) (rest := []) hx hb hml hown hts hl.1 (WS := (wM cyI A u w)) (WS' := (wM cyI A z_4.1 z_4.2)) (ro := none) (by rw [hz_4]; exact kX7_recordsK l D cyC cyI cyO A u w kn hkn hk) bV_X7_records  wml_RX7_118 ⟨rfl, rfl⟩ ⟨Nat.le_of_ble_eq_true rfl, Nat.le_of_ble_eq_true rfl, Nat.zero_le _, Nat.zero_le _⟩ [0, 1, 2, 3, 4, 5, 6] rfl rfl rfl rfl rfl hP hD hS hA hK 0 rfl rfl rfl rfl rfl (Nat.le_of_ble_eq_true rfl) dX7_owner_30 (fun H locs hP hD hS => ?_)
        refine lv_aload_n hx hb dX7_owner_33 rfl (lv_at hl 0 rfl) ?_
        refine lv_iload_n hx hb dX7_owner_34 rfl (lv_at hl 1 rfl) ?_
        refine lv_iconst (v := 0) hx hb dX7_owner_35 (by decide) ?_
        refine rV (As := [.int a1, .int 0]) (rest := []) hx hb hml hown hts hl.1 (kX7_ofOwner l D cyC cyI cyO A z_4.1 z_4.2 a1 0 (io7_in c_1) (vp_lit (by decide))) bV_X7_ofOwner  wml_RX7_72 ⟨rfl, rfl⟩ ⟨Nat.le_of_ble_eq_true rfl, Nat.le_of_ble_eq_true rfl, Nat.zero_le _, Nat.zero_le _⟩ [0, 1, 2, 3, 4, 5, 6] rfl hP hK 0 rfl rfl rfl rfl rfl (Nat.le_of_ble_eq_true rfl) dX7_owner_36 ?_
        refine lv_istore (lv' := [(5, .int (pX7_ofOwner z_4.1 z_4.2 a1 0)), (0, .ref (A 0)), (1, .int a1), (2, .int a2), (3, .int a3), (4, .int a4)]) hx hb dX7_owner_39 hl (by decide) rfl (fun ls hl => ?_)
        refine lv_aload_n hx hb dX7_owner_41 rfl (lv_at hl 1 rfl) ?_
        refine va_get (D := D) (ci := 6) (v := .ref (A 1)) (C := RX7) (T := TX7) (N := 15) hx hb hts inT_X7 hown hK.1 hP 0 rfl rfl 0 (by decide) (hts _ wfl_RX7_7) (fun _ h9 => h9) rfl dX7_owner_42 ?_
        refine lv_bipush (v := 10) hx hb dX7_owner_45 (by decide) ?_
        refine lv_iconst (v := 5) hx hb dX7_owner_47 (by decide) ?_
        refine lv_iload_n hx hb dX7_owner_48 rfl (lv_at hl 2 rfl) ?_
        refine lv_imul hx hb dX7_owner_49 ?_
        refine lv_iadd hx hb dX7_owner_50 ?_
        refine lv_iconst (v := 0) hx hb dX7_owner_51 (by decide) ?_
        refine lv_iadd hx hb dX7_owner_52 ?_
        refine lv_iload_n hx hb dX7_owner_53 rfl (lv_at hl 3 rfl) ?_
        obtain ⟨z_5, hz_5⟩ : ∃ q, q = (upd (z_4.1 0) ((((10 : Int32) + ((5 : Int32) * a1)) + (0 : Int32))).toNatClampNeg a2) := ⟨_, rfl⟩
        refine va_iast (D := D) (f := (z_4.1 0)) hx hb hK.1 hP hD hS 1 1 rfl rfl (vp_ow (io7_in c_1) (vp_lit (by decide))) dX7_owner_54 (fun H locs hP hD hS => ?_)
        have hP : va_P D vwCl (wM cyI A (va_up z_4.1 0 (upd (z_4.1 0) ((((10 : Int32) + ((5 : Int32) * a1)) + (0 : Int32))).toNatClampNeg a2)) z_4.2) H := hP
        have hD : va_D A0 (wM cyI A (va_up z_4.1 0 (upd (z_4.1 0) ((((10 : Int32) + ((5 : Int32) * a1)) + (0 : Int32))).toNatClampNeg a2)) z_4.2) := hD
        rw [← hz_5] at hP hD
        refine lv_aload_n hx hb dX7_owner_55 rfl (lv_at hl 1 rfl) ?_
        refine va_get (D := D) (ci := 6) (v := .ref (A 1)) (C := RX7) (T := TX7) (N := 15) hx hb hts inT_X7 hown hK.1 hP 0 rfl rfl 0 (by decide) (hts _ wfl_RX7_7) (fun _ h9 => h9) rfl dX7_owner_56 ?_
        refine lv_bipush (v := 10) hx hb dX7_owner_59 (by decide) ?_
        refine lv_iconst (v := 5) hx hb dX7_owner_61 (by decide) ?_
        refine lv_iload_n hx hb dX7_owner_62 rfl (lv_at hl 2 rfl) ?_
        refine lv_imul hx hb dX7_owner_63 ?_
        refine lv_iadd hx hb dX7_owner_64 ?_
        refine lv_iconst (v := 1) hx hb dX7_owner_65 (by decide) ?_
        refine lv_iadd hx hb dX7_owner_66 ?_
        refine lv_iload_n hx hb dX7_owner_67 rfl (lv_at hl 4 rfl) ?_
        obtain ⟨z_6, hz_6⟩ : ∃ q, q = (upd z_5 ((((10 : Int32) + ((5 : Int32) * a1)) + (1 : Int32))).toNatClampNeg a3) := ⟨_, rfl⟩
        refine va_iast (D := D) (f := z_5) hx hb hK.1 hP hD hS 1 1 rfl rfl (vp_ow (io7_in c_1) (vp_lit (by decide))) dX7_owner_68 (fun H locs hP hD hS => ?_)
        have hP : va_P D vwCl (wM cyI A (va_up z_4.1 0 (upd z_5 ((((10 : Int32) + ((5 : Int32) * a1)) + (1 : Int32))).toNatClampNeg a3)) z_4.2) H := hP
        have hD : va_D A0 (wM cyI A (va_up z_4.1 0 (upd z_5 ((((10 : Int32) + ((5 : Int32) * a1)) + (1 : Int32))).toNatClampNeg a3)) z_4.2) := hD
        rw [← hz_6] at hP hD
        refine lv_aload_n hx hb dX7_owner_69 rfl (lv_at hl 1 rfl) ?_
        refine va_get (D := D) (ci := 6) (v := .ref (A 1)) (C := RX7) (T := TX7) (N := 15) hx hb hts inT_X7 hown hK.1 hP 0 rfl rfl 0 (by decide) (hts _ wfl_RX7_7) (fun _ h9 => h9) rfl dX7_owner_70 ?_
        refine lv_bipush (v := 10) hx hb dX7_owner_73 (by decide) ?_
        refine lv_iconst (v := 5) hx hb dX7_owner_75 (by decide) ?_
        refine lv_iload_n hx hb dX7_owner_76 rfl (lv_at hl 2 rfl) ?_
        refine lv_imul hx hb dX7_owner_77 ?_
        refine lv_iadd hx hb dX7_owner_78 ?_
        refine lv_iconst (v := 2) hx hb dX7_owner_79 (by decide) ?_
        refine lv_iadd hx hb dX7_owner_80 ?_
        refine lv_iload hx hb dX7_owner_81 (lv_at hl 5 rfl) ?_
        refine lv_if_eq (tgt := 90) hx hb dX7_owner_83 (by decide) (fun c_7 => ?_) (fun c_7 => ?_)
        · refine lv_iconst (v := 0) hx hb dX7_owner_90 (by decide) ?_
          obtain ⟨z_8, hz_8⟩ : ∃ q, q = (upd z_6 ((((10 : Int32) + ((5 : Int32) * a1)) + (2 : Int32))).toNatClampNeg (0 : Int32)) := ⟨_, rfl⟩
          refine va_iast (D := D) (f := z_6) hx hb hK.1 hP hD hS 1 1 rfl rfl (vp_ow (io7_in c_1) (vp_lit (by decide))) dX7_owner_91 (fun H locs hP hD hS => ?_)
          have hP : va_P D vwCl (wM cyI A (va_up z_4.1 0 (upd z_6 ((((10 : Int32) + ((5 : Int32) * a1)) + (2 : Int32))).toNatClampNeg (0 : Int32))) z_4.2) H := hP
          have hD : va_D A0 (wM cyI A (va_up z_4.1 0 (upd z_6 ((((10 : Int32) + ((5 : Int32) * a1)) + (2 : Int32))).toNatClampNeg (0 : Int32))) z_4.2) := hD
          rw [← hz_8] at hP hD
          refine lv_iload hx hb dX7_owner_92 (lv_at hl 0 rfl) ?_
          have e9 : (pX7_owner u w a1 a2 a3 a4 kn) = ((pX7_ofOwner z_4.1 z_4.2 a1 0), (va_up z_4.1 0 z_8), z_4.2) := by simp only [pX7_owner, ← hz_4, ← hz_5, ← hz_6, ← hz_8, if_neg c_1, if_neg c_2, if_neg c_3, if_pos c_7]
          have e9_0 : (pX7_owner u w a1 a2 a3 a4 kn).1 = (pX7_ofOwner z_4.1 z_4.2 a1 0) := by rw [e9]
          have e9_1 : (pX7_owner u w a1 a2 a3 a4 kn).2.1 = (va_up z_4.1 0 z_8) := by rw [e9]
          have e9_2 : (pX7_owner u w a1 a2 a3 a4 kn).2.2 = z_4.2 := by rw [e9]
          exact W.iret (v := (pX7_ofOwner z_4.1 z_4.2 a1 0)) hx hb hr (fun t ht hW => ⟨⟨by rw [e9_0], by rw [e9_1, e9_2, ht]; exact hP⟩, hS.F ht⟩) hS.2.2 dX7_owner_94
        · refine lv_iconst (v := 1) hx hb dX7_owner_86 (by decide) ?_
          refine lv_goto (tgt := 91) hx hb dX7_owner_87 (by decide) ?_
          obtain ⟨z_9, hz_9⟩ : ∃ q, q = (upd z_6 ((((10 : Int32) + ((5 : Int32) * a1)) + (2 : Int32))).toNatClampNeg (1 : Int32)) := ⟨_, rfl⟩
          refine va_iast (D := D) (f := z_6) hx hb hK.1 hP hD hS 1 1 rfl rfl (vp_ow (io7_in c_1) (vp_lit (by decide))) dX7_owner_91 (fun H locs hP hD hS => ?_)
          have hP : va_P D vwCl (wM cyI A (va_up z_4.1 0 (upd z_6 ((((10 : Int32) + ((5 : Int32) * a1)) + (2 : Int32))).toNatClampNeg (1 : Int32))) z_4.2) H := hP
          have hD : va_D A0 (wM cyI A (va_up z_4.1 0 (upd z_6 ((((10 : Int32) + ((5 : Int32) * a1)) + (2 : Int32))).toNatClampNeg (1 : Int32))) z_4.2) := hD
          rw [← hz_9] at hP hD
          refine lv_iload hx hb dX7_owner_92 (lv_at hl 0 rfl) ?_
          have e9 : (pX7_owner u w a1 a2 a3 a4 kn) = ((pX7_ofOwner z_4.1 z_4.2 a1 0), (va_up z_4.1 0 z_9), z_4.2) := by simp only [pX7_owner, ← hz_4, ← hz_5, ← hz_6, ← hz_9, if_neg c_1, if_neg c_2, if_neg c_3, if_neg c_7]
          have e9_0 : (pX7_owner u w a1 a2 a3 a4 kn).1 = (pX7_ofOwner z_4.1 z_4.2 a1 0) := by rw [e9]
          have e9_1 : (pX7_owner u w a1 a2 a3 a4 kn).2.1 = (va_up z_4.1 0 z_9) := by rw [e9]
          have e9_2 : (pX7_owner u w a1 a2 a3 a4 kn).2.2 = z_4.2 := by rw [e9]
          exact W.iret (v := (pX7_ofOwner z_4.1 z_4.2 a1 0)) hx hb hr (fun t ht hW => ⟨⟨by rw [e9_0], by rw [e9_1, e9_2, ht]; exact hP⟩, hS.F ht⟩) hS.2.2 dX7_owner_94
      · refine lv_iconst (v := (-1)) hx hb dX7_owner_27 (by decide) ?_
        have e9 : (pX7_owner u w a1 a2 a3 a4 kn) = ((-1), u, w) := by simp only [pX7_owner, if_neg c_1, if_neg c_2, if_pos c_3]
        have e9_0 : (pX7_owner u w a1 a2 a3 a4 kn).1 = (-1) := by rw [e9]
        have e9_1 : (pX7_owner u w a1 a2 a3 a4 kn).2.1 = u := by rw [e9]
        have e9_2 : (pX7_owner u w a1 a2 a3 a4 kn).2.2 = w := by rw [e9]
        exact W.iret (v := (-1)) hx hb hr (fun t ht hW => ⟨⟨by rw [e9_0], by rw [e9_1, e9_2, ht]; exact hP⟩, hS.F ht⟩) hS.2.2 dX7_owner_28
theorem bV_X7_owner : BV RX7 yX7_owner cX7_owner 6 (some .int) 4 := ⟨wcd_X7_owner, wim_X7_owner, wse_X7_owner, win_RX7, by decide +kernel⟩
def pX7_reach (u : (Nat → Nat → Int32)) (w : (Nat → Int32)) (a1 : Int32) (kn : Nat) : Int32 × (Nat → Nat → Int32) × (Nat → Int32) := (if (pX7_in a1 0 3) = 0 then ((-1), u, w) else ((((pX7_records u w kn).1 0) 2), (va_up (pX7_records u w kn).1 0 (upd ((pX7_records u w kn).1 0) 2 a1)), (pX7_records u w kn).2))
set_option maxHeartbeats 4000000 in
set_option maxRecDepth 100000 in
theorem kX7_reach (l : Launch) (D : va_G) (cyC cyI cyO : ClassId) (A : Nat → Nat) (u : (Nat → Nat → Int32)) (w : (Nat → Int32)) (a1 : Int32) (kn : Nat) (hkn : kn ≤ 4) (hk : (w 3) = nI kn) : MU l yX7_reach (Ty yX7_reach cX7_reach 3 (some .int)) ({ frames := 2, cells := 0, slots := 0, locals := 45 } : Room) D cyC cyI cyO (wM cyI A u w) [.ref (A 0), .int a1] (some (.int (pX7_reach u w a1 kn).1)) (wM cyI A (pX7_reach u w a1 kn).2.1 (pX7_reach u w a1 kn).2.2) := by
  intro sz
  refine Met.ofW (cc := cX7_reach) (maxL := 3) (ret := (some .int)) (by decide) rfl ?_
  intro p e s m args below meth cd s₁ B hml hv
  obtain ⟨rfl, hsz, hP, hK, hD0⟩ := hv
  have hx := B.exec
  have hb := B.bytes
  have hr := B.returns
  have hts : ∀ w ∈ TB, w.before ([.ref (A 0), .int a1] : List Value).toArray s = true := fun w h => atoms_spec (ws := (Ty yX7_reach cX7_reach 3 (some .int))) B.pre w (List.mem_cons_of_mem _ h)
  have hown : s.vm.findClass RX7 = some m.cls := findClass_of_methodNamed B.named
  have hlocks := B.notSynchronized
  subst hsz
  have hD := hD0.self (sz := s.heap.size)
  have hA : ∀ q : Nat, s.heap.size ≤ q → (va_A (wM cyI A u w) s.heap.size) q := fun q h => Or.inr h
  generalize hAe : va_A (wM cyI A u w) s.heap.size = A0 at hD hA ⊢
  have hS : va_S A0 s.heap s.heap [] := va_S.rf
  have hl := lv_entry ([.ref (A 0), .int a1]) (n := 3) (Nat.le_of_ble_eq_true rfl)
  rw [lg_entry_eq]
  generalize (lg_sl ([.ref (A 0), .int a1]) ++ List.replicate (3 - (lg_sl ([.ref (A 0), .int a1])).length) Slot.unset).toArray = ls at hl ⊢
  have hl : lv_has ls 3 [(0, .ref (A 0)), (1, .int a1)] := hl
  refine lv_iload_n hx hb dX7_reach_0 rfl (lv_at hl 1 rfl) ?_
  refine lv_iconst (v := 0) hx hb dX7_reach_1 (by decide) ?_
  refine lv_iconst (v := 3) hx hb dX7_reach_2 (by decide) ?_
  refine rS (As := [.int a1, .int 0, .int 3]) (rest := []) hx hb hml hown hts hl.1 (kX7_in l D cyC cyI cyO a1 0 3) bS_X7_in  wml_RX7_41 ⟨rfl, rfl⟩ ⟨Nat.le_of_ble_eq_true rfl, Nat.le_of_ble_eq_true rfl, Nat.zero_le _, Nat.zero_le _⟩ [] rfl hP hK rfl rfl (Nat.le_of_ble_eq_true rfl) dX7_reach_3 ?_
  refine lv_if_ne (tgt := 11) hx hb dX7_reach_6 (by decide) (fun c_1 => ?_) (fun c_1 => ?_)
  · refine lv_aload_n hx hb dX7_reach_11 rfl (lv_at hl 0 rfl) ?_
    obtain ⟨z_2, hz_2⟩ : ∃ q, q = (pX7_records u w kn) := ⟨_, rfl⟩
    refine mV (ws := (wM cyI A u w)) (ws' := (wM cyI A z_2.1 z_2.2)) (As := []) (rest := []) hx hb hml hown hts hl.1 (WS := (wM cyI A u w)) (WS' := (wM cyI A z_2.1 z_2.2)) (ro := none) (by rw [hz_2]; exact kX7_recordsK l D cyC cyI cyO A u w kn hkn hk) bV_X7_records  wml_RX7_118 ⟨rfl, rfl⟩ ⟨Nat.le_of_ble_eq_true rfl, Nat.le_of_ble_eq_true rfl, Nat.zero_le _, Nat.zero_le _⟩ [0, 1, 2, 3, 4, 5, 6] rfl rfl rfl rfl rfl hP hD hS hA hK 0 rfl rfl rfl rfl rfl (Nat.le_of_ble_eq_true rfl) dX7_reach_12 (fun H locs hP hD hS => ?_)
    refine lv_aload_n hx hb dX7_reach_15 rfl (lv_at hl 0 rfl) ?_
    refine va_get (D := D) (ci := 6) (v := .ref (A 1)) (C := RX7) (T := TX7) (N := 15) hx hb hts inT_X7 hown hK.1 hP 0 rfl rfl 0 (by decide) (hts _ wfl_RX7_7) (fun _ h9 => h9) rfl dX7_reach_16 ?_
    refine lv_iconst (v := 2) hx hb dX7_reach_19 (by decide) ?_
    refine va_iald (D := D) (f := (z_2.1 0)) hx hb hK.1 hP 1 1 rfl rfl (vp_lit (by decide)) dX7_reach_20 ?_
    refine W.eq (g2 := F0 m _ ls [.int ((z_2.1 0) 2)]) rfl ?_
    refine lv_istore_n (lv' := [(2, .int ((z_2.1 0) 2)), (0, .ref (A 0)), (1, .int a1)]) hx hb dX7_reach_21 rfl hl (by decide) rfl (fun ls hl => ?_)
    refine lv_aload_n hx hb dX7_reach_22 rfl (lv_at hl 1 rfl) ?_
    refine va_get (D := D) (ci := 6) (v := .ref (A 1)) (C := RX7) (T := TX7) (N := 15) hx hb hts inT_X7 hown hK.1 hP 0 rfl rfl 0 (by decide) (hts _ wfl_RX7_7) (fun _ h9 => h9) rfl dX7_reach_23 ?_
    refine lv_iconst (v := 2) hx hb dX7_reach_26 (by decide) ?_
    refine lv_iload_n hx hb dX7_reach_27 rfl (lv_at hl 2 rfl) ?_
    obtain ⟨z_3, hz_3⟩ : ∃ q, q = (upd (z_2.1 0) 2 a1) := ⟨_, rfl⟩
    refine va_iast (D := D) (f := (z_2.1 0)) hx hb hK.1 hP hD hS 1 1 rfl rfl (vp_lit (by decide)) dX7_reach_28 (fun H locs hP hD hS => ?_)
    have hP : va_P D vwCl (wM cyI A (va_up z_2.1 0 (upd (z_2.1 0) 2 a1)) z_2.2) H := hP
    have hD : va_D A0 (wM cyI A (va_up z_2.1 0 (upd (z_2.1 0) 2 a1)) z_2.2) := hD
    rw [← hz_3] at hP hD
    refine lv_iload_n hx hb dX7_reach_29 rfl (lv_at hl 0 rfl) ?_
    have e9 : (pX7_reach u w a1 kn) = (((z_2.1 0) 2), (va_up z_2.1 0 z_3), z_2.2) := by simp only [pX7_reach, ← hz_2, ← hz_3, if_neg c_1]
    have e9_0 : (pX7_reach u w a1 kn).1 = ((z_2.1 0) 2) := by rw [e9]
    have e9_1 : (pX7_reach u w a1 kn).2.1 = (va_up z_2.1 0 z_3) := by rw [e9]
    have e9_2 : (pX7_reach u w a1 kn).2.2 = z_2.2 := by rw [e9]
    exact W.iret (v := ((z_2.1 0) 2)) hx hb hr (fun t ht hW => ⟨⟨by rw [e9_0], by rw [e9_1, e9_2, ht]; exact hP⟩, hS.F ht⟩) hS.2.2 dX7_reach_30
  · refine lv_iconst (v := (-1)) hx hb dX7_reach_9 (by decide) ?_
    have e9 : (pX7_reach u w a1 kn) = ((-1), u, w) := by simp only [pX7_reach, if_pos c_1]
    have e9_0 : (pX7_reach u w a1 kn).1 = (-1) := by rw [e9]
    have e9_1 : (pX7_reach u w a1 kn).2.1 = u := by rw [e9]
    have e9_2 : (pX7_reach u w a1 kn).2.2 = w := by rw [e9]
    exact W.iret (v := (-1)) hx hb hr (fun t ht hW => ⟨⟨by rw [e9_0], by rw [e9_1, e9_2, ht]; exact hP⟩, hS.F ht⟩) hS.2.2 dX7_reach_10
theorem bV_X7_reach : BV RX7 yX7_reach cX7_reach 3 (some .int) 1 := ⟨wcd_X7_reach, wim_X7_reach, wse_X7_reach, win_RX7, by decide +kernel⟩
def pX7_hang (u : (Nat → Nat → Int32)) (w : (Nat → Int32)) (a1 : Int32) (a2 : Int32) (kn : Nat) : Int32 × (Nat → Nat → Int32) × (Nat → Int32) := (if (pX7_isOwner a1) = 0 then ((-1), u, w) else (if (pX7_isGangway a2) = 0 then ((-1), u, w) else ((pX7_goHang (pX7_records u w kn).1 (pX7_records u w kn).2 a1 a2).1, (pX7_goHang (pX7_records u w kn).1 (pX7_records u w kn).2 a1 a2).2.1, (pX7_goHang (pX7_records u w kn).1 (pX7_records u w kn).2 a1 a2).2.2)))
set_option maxHeartbeats 4000000 in
set_option maxRecDepth 100000 in
theorem kX7_hang (l : Launch) (D : va_G) (cyC cyI cyO : ClassId) (A : Nat → Nat) (u : (Nat → Nat → Int32)) (w : (Nat → Int32)) (a1 : Int32) (a2 : Int32) (kn : Nat) (hkn : kn ≤ 4) (hk : (w 3) = nI kn) (hm3 : ((u 0) 2) ≤ 3) : MU l yX7_hang (Ty yX7_hang cX7_hang 3 (some .int)) ({ frames := 6, cells := 0, slots := 0, locals := 136 } : Room) D cyC cyI cyO (wM cyI A u w) [.ref (A 0), .int a1, .int a2] (some (.int (pX7_hang u w a1 a2 kn).1)) (wM cyI A (pX7_hang u w a1 a2 kn).2.1 (pX7_hang u w a1 a2 kn).2.2) := by
  intro sz
  refine Met.ofW (cc := cX7_hang) (maxL := 3) (ret := (some .int)) (by decide) rfl ?_
  intro p e s m args below meth cd s₁ B hml hv
  obtain ⟨rfl, hsz, hP, hK, hD0⟩ := hv
  have hx := B.exec
  have hb := B.bytes
  have hr := B.returns
  have hts : ∀ w ∈ TB, w.before ([.ref (A 0), .int a1, .int a2] : List Value).toArray s = true := fun w h => atoms_spec (ws := (Ty yX7_hang cX7_hang 3 (some .int))) B.pre w (List.mem_cons_of_mem _ h)
  have hown : s.vm.findClass RX7 = some m.cls := findClass_of_methodNamed B.named
  have hlocks := B.notSynchronized
  subst hsz
  have hD := hD0.self (sz := s.heap.size)
  have hA : ∀ q : Nat, s.heap.size ≤ q → (va_A (wM cyI A u w) s.heap.size) q := fun q h => Or.inr h
  generalize hAe : va_A (wM cyI A u w) s.heap.size = A0 at hD hA ⊢
  have hS : va_S A0 s.heap s.heap [] := va_S.rf
  have hl := lv_entry ([.ref (A 0), .int a1, .int a2]) (n := 3) (Nat.le_of_ble_eq_true rfl)
  rw [lg_entry_eq]
  generalize (lg_sl ([.ref (A 0), .int a1, .int a2]) ++ List.replicate (3 - (lg_sl ([.ref (A 0), .int a1, .int a2])).length) Slot.unset).toArray = ls at hl ⊢
  have hl : lv_has ls 3 [(0, .ref (A 0)), (1, .int a1), (2, .int a2)] := hl
  refine lv_iload_n hx hb dX7_hang_0 rfl (lv_at hl 1 rfl) ?_
  refine rS (As := [.int a1]) (rest := []) hx hb hml hown hts hl.1 (kX7_isOwner l D cyC cyI cyO a1) bS_X7_isOwner  wml_RX7_127 ⟨rfl, rfl⟩ ⟨Nat.le_of_ble_eq_true rfl, Nat.le_of_ble_eq_true rfl, Nat.zero_le _, Nat.zero_le _⟩ [] rfl hP hK rfl rfl (Nat.le_of_ble_eq_true rfl) dX7_hang_1 ?_
  refine lv_if_eq (tgt := 14) hx hb dX7_hang_4 (by decide) (fun c_1 => ?_) (fun c_1 => ?_)
  · refine lv_iconst (v := (-1)) hx hb dX7_hang_14 (by decide) ?_
    have e9 : (pX7_hang u w a1 a2 kn) = ((-1), u, w) := by simp only [pX7_hang, if_pos c_1]
    have e9_0 : (pX7_hang u w a1 a2 kn).1 = (-1) := by rw [e9]
    have e9_1 : (pX7_hang u w a1 a2 kn).2.1 = u := by rw [e9]
    have e9_2 : (pX7_hang u w a1 a2 kn).2.2 = w := by rw [e9]
    exact W.iret (v := (-1)) hx hb hr (fun t ht hW => ⟨⟨by rw [e9_0], by rw [e9_1, e9_2, ht]; exact hP⟩, hS.F ht⟩) hS.2.2 dX7_hang_15
  · refine lv_iload_n hx hb dX7_hang_7 rfl (lv_at hl 2 rfl) ?_
    refine rS (As := [.int a2]) (rest := []) hx hb hml hown hts hl.1 (kX7_isGangway l D cyC cyI cyO a2) bS_X7_isGangway  wml_RX7_29 ⟨rfl, rfl⟩ ⟨Nat.le_of_ble_eq_true rfl, Nat.le_of_ble_eq_true rfl, Nat.zero_le _, Nat.zero_le _⟩ [] rfl hP hK rfl rfl (Nat.le_of_ble_eq_true rfl) dX7_hang_8 ?_
    refine lv_if_ne (tgt := 16) hx hb dX7_hang_11 (by decide) (fun c_2 => ?_) (fun c_2 => ?_)
    · refine lv_aload_n hx hb dX7_hang_16 rfl (lv_at hl 0 rfl) ?_
      obtain ⟨z_3, hz_3⟩ : ∃ q, q = (pX7_records u w kn) := ⟨_, rfl⟩
      refine mV (ws := (wM cyI A u w)) (ws' := (wM cyI A z_3.1 z_3.2)) (As := []) (rest := []) hx hb hml hown hts hl.1 (WS := (wM cyI A u w)) (WS' := (wM cyI A z_3.1 z_3.2)) (ro := none) (by rw [hz_3]; exact kX7_recordsK l D cyC cyI cyO A u w kn hkn hk) bV_X7_records  wml_RX7_118 ⟨rfl, rfl⟩ ⟨Nat.le_of_ble_eq_true rfl, Nat.le_of_ble_eq_true rfl, Nat.zero_le _, Nat.zero_le _⟩ [0, 1, 2, 3, 4, 5, 6] rfl rfl rfl rfl rfl hP hD hS hA hK 0 rfl rfl rfl rfl rfl (Nat.le_of_ble_eq_true rfl) dX7_hang_17 (fun H locs hP hD hS => ?_)
      refine lv_aload_n hx hb dX7_hang_20 rfl (lv_at hl 0 rfl) ?_
      refine lv_iload_n hx hb dX7_hang_21 rfl (lv_at hl 1 rfl) ?_
      refine lv_iload_n hx hb dX7_hang_22 rfl (lv_at hl 2 rfl) ?_
      obtain ⟨z_4, hz_4⟩ : ∃ q, q = (pX7_goHang z_3.1 z_3.2 a1 a2) := ⟨_, rfl⟩
      refine mV (ws := (wM cyI A z_3.1 z_3.2)) (ws' := (wM cyI A z_4.2.1 z_4.2.2)) (As := [.int a1, .int a2]) (rest := []) hx hb hml hown hts hl.1 (WS := (wM cyI A z_3.1 z_3.2)) (WS' := (wM cyI A z_4.2.1 z_4.2.2)) (ro := (some (.int z_4.1))) (by rw [hz_4]; exact kX7_goHang l D cyC cyI cyO A z_3.1 z_3.2 a1 a2 (io7_in c_1) (ig7_in c_2) (by rw [hz_3, rec_u0]; exact hm3)) bV_X7_goHang  wml_RX7_130 ⟨rfl, rfl⟩ ⟨Nat.le_of_ble_eq_true rfl, Nat.le_of_ble_eq_true rfl, Nat.zero_le _, Nat.zero_le _⟩ [0, 1, 2, 3, 4, 5, 6] rfl rfl rfl rfl rfl hP hD hS hA hK 0 rfl rfl rfl rfl rfl (Nat.le_of_ble_eq_true rfl) dX7_hang_23 (fun H locs hP hD hS => ?_)
      have e9 : (pX7_hang u w a1 a2 kn) = (z_4.1, z_4.2.1, z_4.2.2) := by simp only [pX7_hang, ← hz_3, ← hz_4, if_neg c_1, if_neg c_2]
      have e9_0 : (pX7_hang u w a1 a2 kn).1 = z_4.1 := by rw [e9]
      have e9_1 : (pX7_hang u w a1 a2 kn).2.1 = z_4.2.1 := by rw [e9]
      have e9_2 : (pX7_hang u w a1 a2 kn).2.2 = z_4.2.2 := by rw [e9]
      exact W.iret (v := z_4.1) hx hb hr (fun t ht hW => ⟨⟨by rw [e9_0], by rw [e9_1, e9_2, ht]; exact hP⟩, hS.F ht⟩) hS.2.2 dX7_hang_26
    · refine lv_iconst (v := (-1)) hx hb dX7_hang_14 (by decide) ?_
      have e9 : (pX7_hang u w a1 a2 kn) = ((-1), u, w) := by simp only [pX7_hang, if_neg c_1, if_pos c_2]
      have e9_0 : (pX7_hang u w a1 a2 kn).1 = (-1) := by rw [e9]
      have e9_1 : (pX7_hang u w a1 a2 kn).2.1 = u := by rw [e9]
      have e9_2 : (pX7_hang u w a1 a2 kn).2.2 = w := by rw [e9]
      exact W.iret (v := (-1)) hx hb hr (fun t ht hW => ⟨⟨by rw [e9_0], by rw [e9_1, e9_2, ht]; exact hP⟩, hS.F ht⟩) hS.2.2 dX7_hang_15
theorem bV_X7_hang : BV RX7 yX7_hang cX7_hang 3 (some .int) 2 := ⟨wcd_X7_hang, wim_X7_hang, wse_X7_hang, win_RX7, by decide +kernel⟩
def pX7_take (u : (Nat → Nat → Int32)) (w : (Nat → Int32)) (a1 : Int32) (a2 : Int32) (kn : Nat) : Int32 × (Nat → Nat → Int32) × (Nat → Int32) := (if (pX7_isOwner a1) = 0 then ((-1), u, w) else (if (pX7_isGangway a2) = 0 then ((-1), u, w) else ((pX7_goTake (pX7_records u w kn).1 (pX7_records u w kn).2 a1 a2).1, (pX7_goTake (pX7_records u w kn).1 (pX7_records u w kn).2 a1 a2).2.1, (pX7_goTake (pX7_records u w kn).1 (pX7_records u w kn).2 a1 a2).2.2)))
set_option maxHeartbeats 4000000 in
set_option maxRecDepth 100000 in
theorem kX7_take (l : Launch) (D : va_G) (cyC cyI cyO : ClassId) (A : Nat → Nat) (u : (Nat → Nat → Int32)) (w : (Nat → Int32)) (a1 : Int32) (a2 : Int32) (kn : Nat) (hkn : kn ≤ 4) (hk : (w 3) = nI kn) : MU l yX7_take (Ty yX7_take cX7_take 3 (some .int)) ({ frames := 3, cells := 0, slots := 0, locals := 67 } : Room) D cyC cyI cyO (wM cyI A u w) [.ref (A 0), .int a1, .int a2] (some (.int (pX7_take u w a1 a2 kn).1)) (wM cyI A (pX7_take u w a1 a2 kn).2.1 (pX7_take u w a1 a2 kn).2.2) := by
  intro sz
  refine Met.ofW (cc := cX7_take) (maxL := 3) (ret := (some .int)) (by decide) rfl ?_
  intro p e s m args below meth cd s₁ B hml hv
  obtain ⟨rfl, hsz, hP, hK, hD0⟩ := hv
  have hx := B.exec
  have hb := B.bytes
  have hr := B.returns
  have hts : ∀ w ∈ TB, w.before ([.ref (A 0), .int a1, .int a2] : List Value).toArray s = true := fun w h => atoms_spec (ws := (Ty yX7_take cX7_take 3 (some .int))) B.pre w (List.mem_cons_of_mem _ h)
  have hown : s.vm.findClass RX7 = some m.cls := findClass_of_methodNamed B.named
  have hlocks := B.notSynchronized
  subst hsz
  have hD := hD0.self (sz := s.heap.size)
  have hA : ∀ q : Nat, s.heap.size ≤ q → (va_A (wM cyI A u w) s.heap.size) q := fun q h => Or.inr h
  generalize hAe : va_A (wM cyI A u w) s.heap.size = A0 at hD hA ⊢
  have hS : va_S A0 s.heap s.heap [] := va_S.rf
  have hl := lv_entry ([.ref (A 0), .int a1, .int a2]) (n := 3) (Nat.le_of_ble_eq_true rfl)
  rw [lg_entry_eq]
  generalize (lg_sl ([.ref (A 0), .int a1, .int a2]) ++ List.replicate (3 - (lg_sl ([.ref (A 0), .int a1, .int a2])).length) Slot.unset).toArray = ls at hl ⊢
  have hl : lv_has ls 3 [(0, .ref (A 0)), (1, .int a1), (2, .int a2)] := hl
  refine lv_iload_n hx hb dX7_take_0 rfl (lv_at hl 1 rfl) ?_
  refine rS (As := [.int a1]) (rest := []) hx hb hml hown hts hl.1 (kX7_isOwner l D cyC cyI cyO a1) bS_X7_isOwner  wml_RX7_127 ⟨rfl, rfl⟩ ⟨Nat.le_of_ble_eq_true rfl, Nat.le_of_ble_eq_true rfl, Nat.zero_le _, Nat.zero_le _⟩ [] rfl hP hK rfl rfl (Nat.le_of_ble_eq_true rfl) dX7_take_1 ?_
  refine lv_if_eq (tgt := 14) hx hb dX7_take_4 (by decide) (fun c_1 => ?_) (fun c_1 => ?_)
  · refine lv_iconst (v := (-1)) hx hb dX7_take_14 (by decide) ?_
    have e9 : (pX7_take u w a1 a2 kn) = ((-1), u, w) := by simp only [pX7_take, if_pos c_1]
    have e9_0 : (pX7_take u w a1 a2 kn).1 = (-1) := by rw [e9]
    have e9_1 : (pX7_take u w a1 a2 kn).2.1 = u := by rw [e9]
    have e9_2 : (pX7_take u w a1 a2 kn).2.2 = w := by rw [e9]
    exact W.iret (v := (-1)) hx hb hr (fun t ht hW => ⟨⟨by rw [e9_0], by rw [e9_1, e9_2, ht]; exact hP⟩, hS.F ht⟩) hS.2.2 dX7_take_15
  · refine lv_iload_n hx hb dX7_take_7 rfl (lv_at hl 2 rfl) ?_
    refine rS (As := [.int a2]) (rest := []) hx hb hml hown hts hl.1 (kX7_isGangway l D cyC cyI cyO a2) bS_X7_isGangway  wml_RX7_29 ⟨rfl, rfl⟩ ⟨Nat.le_of_ble_eq_true rfl, Nat.le_of_ble_eq_true rfl, Nat.zero_le _, Nat.zero_le _⟩ [] rfl hP hK rfl rfl (Nat.le_of_ble_eq_true rfl) dX7_take_8 ?_
    refine lv_if_ne (tgt := 16) hx hb dX7_take_11 (by decide) (fun c_2 => ?_) (fun c_2 => ?_)
    · refine lv_aload_n hx hb dX7_take_16 rfl (lv_at hl 0 rfl) ?_
      obtain ⟨z_3, hz_3⟩ : ∃ q, q = (pX7_records u w kn) := ⟨_, rfl⟩
      refine mV (ws := (wM cyI A u w)) (ws' := (wM cyI A z_3.1 z_3.2)) (As := []) (rest := []) hx hb hml hown hts hl.1 (WS := (wM cyI A u w)) (WS' := (wM cyI A z_3.1 z_3.2)) (ro := none) (by rw [hz_3]; exact kX7_recordsK l D cyC cyI cyO A u w kn hkn hk) bV_X7_records  wml_RX7_118 ⟨rfl, rfl⟩ ⟨Nat.le_of_ble_eq_true rfl, Nat.le_of_ble_eq_true rfl, Nat.zero_le _, Nat.zero_le _⟩ [0, 1, 2, 3, 4, 5, 6] rfl rfl rfl rfl rfl hP hD hS hA hK 0 rfl rfl rfl rfl rfl (Nat.le_of_ble_eq_true rfl) dX7_take_17 (fun H locs hP hD hS => ?_)
      refine lv_aload_n hx hb dX7_take_20 rfl (lv_at hl 0 rfl) ?_
      refine lv_iload_n hx hb dX7_take_21 rfl (lv_at hl 1 rfl) ?_
      refine lv_iload_n hx hb dX7_take_22 rfl (lv_at hl 2 rfl) ?_
      obtain ⟨z_4, hz_4⟩ : ∃ q, q = (pX7_goTake z_3.1 z_3.2 a1 a2) := ⟨_, rfl⟩
      refine mV (ws := (wM cyI A z_3.1 z_3.2)) (ws' := (wM cyI A z_4.2.1 z_4.2.2)) (As := [.int a1, .int a2]) (rest := []) hx hb hml hown hts hl.1 (WS := (wM cyI A z_3.1 z_3.2)) (WS' := (wM cyI A z_4.2.1 z_4.2.2)) (ro := (some (.int z_4.1))) (by rw [hz_4]; exact kX7_goTake l D cyC cyI cyO A z_3.1 z_3.2 a1 a2 (ig7_in c_2)) bV_X7_goTake  wml_RX7_133 ⟨rfl, rfl⟩ ⟨Nat.le_of_ble_eq_true rfl, Nat.le_of_ble_eq_true rfl, Nat.zero_le _, Nat.zero_le _⟩ [0, 1, 2, 3, 4, 5, 6] rfl rfl rfl rfl rfl hP hD hS hA hK 0 rfl rfl rfl rfl rfl (Nat.le_of_ble_eq_true rfl) dX7_take_23 (fun H locs hP hD hS => ?_)
      have e9 : (pX7_take u w a1 a2 kn) = (z_4.1, z_4.2.1, z_4.2.2) := by simp only [pX7_take, ← hz_3, ← hz_4, if_neg c_1, if_neg c_2]
      have e9_0 : (pX7_take u w a1 a2 kn).1 = z_4.1 := by rw [e9]
      have e9_1 : (pX7_take u w a1 a2 kn).2.1 = z_4.2.1 := by rw [e9]
      have e9_2 : (pX7_take u w a1 a2 kn).2.2 = z_4.2.2 := by rw [e9]
      exact W.iret (v := z_4.1) hx hb hr (fun t ht hW => ⟨⟨by rw [e9_0], by rw [e9_1, e9_2, ht]; exact hP⟩, hS.F ht⟩) hS.2.2 dX7_take_26
    · refine lv_iconst (v := (-1)) hx hb dX7_take_14 (by decide) ?_
      have e9 : (pX7_take u w a1 a2 kn) = ((-1), u, w) := by simp only [pX7_take, if_neg c_1, if_pos c_2]
      have e9_0 : (pX7_take u w a1 a2 kn).1 = (-1) := by rw [e9]
      have e9_1 : (pX7_take u w a1 a2 kn).2.1 = u := by rw [e9]
      have e9_2 : (pX7_take u w a1 a2 kn).2.2 = w := by rw [e9]
      exact W.iret (v := (-1)) hx hb hr (fun t ht hW => ⟨⟨by rw [e9_0], by rw [e9_1, e9_2, ht]; exact hP⟩, hS.F ht⟩) hS.2.2 dX7_take_15
theorem bV_X7_take : BV RX7 yX7_take cX7_take 3 (some .int) 2 := ⟨wcd_X7_take, wim_X7_take, wse_X7_take, win_RX7, by decide +kernel⟩
def pX7_walk (u : (Nat → Nat → Int32)) (w : (Nat → Int32)) (a1 : Int32) (a2 : Int32) (kn : Nat) : Int32 × (Nat → Nat → Int32) × (Nat → Int32) := (if (pX7_isOwner a1) = 0 then ((-1), u, w) else (if (pX7_isGangway a2) = 0 then ((-1), u, w) else (if (pX7_isOfRoof a2 (pX7_ofOwner u w a1 3)) = 0 then ((-2), u, w) else ((pX7_goWalk (pX7_records u w kn).1 (pX7_records u w kn).2 a1 a2).1, (pX7_goWalk (pX7_records u w kn).1 (pX7_records u w kn).2 a1 a2).2.1, (pX7_goWalk (pX7_records u w kn).1 (pX7_records u w kn).2 a1 a2).2.2))))
set_option maxHeartbeats 4000000 in
set_option maxRecDepth 100000 in
theorem kX7_walk (l : Launch) (D : va_G) (cyC cyI cyO : ClassId) (A : Nat → Nat) (u : (Nat → Nat → Int32)) (w : (Nat → Int32)) (a1 : Int32) (a2 : Int32) (kn : Nat) (hkn : kn ≤ 4) (hk : (w 3) = nI kn) : MU l yX7_walk (Ty yX7_walk cX7_walk 3 (some .int)) ({ frames := 4, cells := 0, slots := 0, locals := 90 } : Room) D cyC cyI cyO (wM cyI A u w) [.ref (A 0), .int a1, .int a2] (some (.int (pX7_walk u w a1 a2 kn).1)) (wM cyI A (pX7_walk u w a1 a2 kn).2.1 (pX7_walk u w a1 a2 kn).2.2) := by
  intro sz
  refine Met.ofW (cc := cX7_walk) (maxL := 3) (ret := (some .int)) (by decide) rfl ?_
  intro p e s m args below meth cd s₁ B hml hv
  obtain ⟨rfl, hsz, hP, hK, hD0⟩ := hv
  have hx := B.exec
  have hb := B.bytes
  have hr := B.returns
  have hts : ∀ w ∈ TB, w.before ([.ref (A 0), .int a1, .int a2] : List Value).toArray s = true := fun w h => atoms_spec (ws := (Ty yX7_walk cX7_walk 3 (some .int))) B.pre w (List.mem_cons_of_mem _ h)
  have hown : s.vm.findClass RX7 = some m.cls := findClass_of_methodNamed B.named
  have hlocks := B.notSynchronized
  subst hsz
  have hD := hD0.self (sz := s.heap.size)
  have hA : ∀ q : Nat, s.heap.size ≤ q → (va_A (wM cyI A u w) s.heap.size) q := fun q h => Or.inr h
  generalize hAe : va_A (wM cyI A u w) s.heap.size = A0 at hD hA ⊢
  have hS : va_S A0 s.heap s.heap [] := va_S.rf
  have hl := lv_entry ([.ref (A 0), .int a1, .int a2]) (n := 3) (Nat.le_of_ble_eq_true rfl)
  rw [lg_entry_eq]
  generalize (lg_sl ([.ref (A 0), .int a1, .int a2]) ++ List.replicate (3 - (lg_sl ([.ref (A 0), .int a1, .int a2])).length) Slot.unset).toArray = ls at hl ⊢
  have hl : lv_has ls 3 [(0, .ref (A 0)), (1, .int a1), (2, .int a2)] := hl
  refine lv_iload_n hx hb dX7_walk_0 rfl (lv_at hl 1 rfl) ?_
  refine rS (As := [.int a1]) (rest := []) hx hb hml hown hts hl.1 (kX7_isOwner l D cyC cyI cyO a1) bS_X7_isOwner  wml_RX7_127 ⟨rfl, rfl⟩ ⟨Nat.le_of_ble_eq_true rfl, Nat.le_of_ble_eq_true rfl, Nat.zero_le _, Nat.zero_le _⟩ [] rfl hP hK rfl rfl (Nat.le_of_ble_eq_true rfl) dX7_walk_1 ?_
  refine lv_if_eq (tgt := 14) hx hb dX7_walk_4 (by decide) (fun c_1 => ?_) (fun c_1 => ?_)
  · refine lv_iconst (v := (-1)) hx hb dX7_walk_14 (by decide) ?_
    have e9 : (pX7_walk u w a1 a2 kn) = ((-1), u, w) := by simp only [pX7_walk, if_pos c_1]
    have e9_0 : (pX7_walk u w a1 a2 kn).1 = (-1) := by rw [e9]
    have e9_1 : (pX7_walk u w a1 a2 kn).2.1 = u := by rw [e9]
    have e9_2 : (pX7_walk u w a1 a2 kn).2.2 = w := by rw [e9]
    exact W.iret (v := (-1)) hx hb hr (fun t ht hW => ⟨⟨by rw [e9_0], by rw [e9_1, e9_2, ht]; exact hP⟩, hS.F ht⟩) hS.2.2 dX7_walk_15
  · refine lv_iload_n hx hb dX7_walk_7 rfl (lv_at hl 2 rfl) ?_
    refine rS (As := [.int a2]) (rest := []) hx hb hml hown hts hl.1 (kX7_isGangway l D cyC cyI cyO a2) bS_X7_isGangway  wml_RX7_29 ⟨rfl, rfl⟩ ⟨Nat.le_of_ble_eq_true rfl, Nat.le_of_ble_eq_true rfl, Nat.zero_le _, Nat.zero_le _⟩ [] rfl hP hK rfl rfl (Nat.le_of_ble_eq_true rfl) dX7_walk_8 ?_
    refine lv_if_ne (tgt := 16) hx hb dX7_walk_11 (by decide) (fun c_2 => ?_) (fun c_2 => ?_)
    · refine lv_iload_n hx hb dX7_walk_16 rfl (lv_at hl 2 rfl) ?_
      refine lv_aload_n hx hb dX7_walk_17 rfl (lv_at hl 0 rfl) ?_
      refine lv_iload_n hx hb dX7_walk_18 rfl (lv_at hl 1 rfl) ?_
      refine lv_iconst (v := 3) hx hb dX7_walk_19 (by decide) ?_
      refine rV (As := [.int a1, .int 3]) (rest := [.int a2]) hx hb hml hown hts hl.1 (kX7_ofOwner l D cyC cyI cyO A u w a1 3 (io7_in c_1) (vp_lit (by decide))) bV_X7_ofOwner  wml_RX7_72 ⟨rfl, rfl⟩ ⟨Nat.le_of_ble_eq_true rfl, Nat.le_of_ble_eq_true rfl, Nat.zero_le _, Nat.zero_le _⟩ [0, 1, 2, 3, 4, 5, 6] rfl hP hK 0 rfl rfl rfl rfl rfl (Nat.le_of_ble_eq_true rfl) dX7_walk_20 ?_
      refine rS (As := [.int a2, .int (pX7_ofOwner u w a1 3)]) (rest := []) hx hb hml hown hts hl.1 (kX7_isOfRoof l D cyC cyI cyO a2 (pX7_ofOwner u w a1 3)) bS_X7_isOfRoof  wml_RX7_136 ⟨rfl, rfl⟩ ⟨Nat.le_of_ble_eq_true rfl, Nat.le_of_ble_eq_true rfl, Nat.zero_le _, Nat.zero_le _⟩ [] rfl hP hK rfl rfl (Nat.le_of_ble_eq_true rfl) dX7_walk_23 ?_
      refine lv_if_ne (tgt := 32) hx hb dX7_walk_26 (by decide) (fun c_3 => ?_) (fun c_3 => ?_)
      · refine lv_aload_n hx hb dX7_walk_32 rfl (lv_at hl 0 rfl) ?_
        obtain ⟨z_4, hz_4⟩ : ∃ q, q = (pX7_records u w kn) := ⟨_, rfl⟩
        refine mV (ws := (wM cyI A u w)) (ws' := (wM cyI A z_4.1 z_4.2)) (As := []) (rest := []) hx hb hml hown hts hl.1 (WS := (wM cyI A u w)) (WS' := (wM cyI A z_4.1 z_4.2)) (ro := none) (by rw [hz_4]; exact kX7_recordsK l D cyC cyI cyO A u w kn hkn hk) bV_X7_records  wml_RX7_118 ⟨rfl, rfl⟩ ⟨Nat.le_of_ble_eq_true rfl, Nat.le_of_ble_eq_true rfl, Nat.zero_le _, Nat.zero_le _⟩ [0, 1, 2, 3, 4, 5, 6] rfl rfl rfl rfl rfl hP hD hS hA hK 0 rfl rfl rfl rfl rfl (Nat.le_of_ble_eq_true rfl) dX7_walk_33 (fun H locs hP hD hS => ?_)
        refine lv_aload_n hx hb dX7_walk_36 rfl (lv_at hl 0 rfl) ?_
        refine lv_iload_n hx hb dX7_walk_37 rfl (lv_at hl 1 rfl) ?_
        refine lv_iload_n hx hb dX7_walk_38 rfl (lv_at hl 2 rfl) ?_
        obtain ⟨z_5, hz_5⟩ : ∃ q, q = (pX7_goWalk z_4.1 z_4.2 a1 a2) := ⟨_, rfl⟩
        refine mV (ws := (wM cyI A z_4.1 z_4.2)) (ws' := (wM cyI A z_5.2.1 z_5.2.2)) (As := [.int a1, .int a2]) (rest := []) hx hb hml hown hts hl.1 (WS := (wM cyI A z_4.1 z_4.2)) (WS' := (wM cyI A z_5.2.1 z_5.2.2)) (ro := (some (.int z_5.1))) (by rw [hz_5]; exact kX7_goWalk l D cyC cyI cyO A z_4.1 z_4.2 a1 a2 (io7_in c_1) (ig7_in c_2)) bV_X7_goWalk  wml_RX7_139 ⟨rfl, rfl⟩ ⟨Nat.le_of_ble_eq_true rfl, Nat.le_of_ble_eq_true rfl, Nat.zero_le _, Nat.zero_le _⟩ [0, 1, 2, 3, 4, 5, 6] rfl rfl rfl rfl rfl hP hD hS hA hK 0 rfl rfl rfl rfl rfl (Nat.le_of_ble_eq_true rfl) dX7_walk_39 (fun H locs hP hD hS => ?_)
        have e9 : (pX7_walk u w a1 a2 kn) = (z_5.1, z_5.2.1, z_5.2.2) := by simp only [pX7_walk, ← hz_4, ← hz_5, if_neg c_1, if_neg c_2, if_neg c_3]
        have e9_0 : (pX7_walk u w a1 a2 kn).1 = z_5.1 := by rw [e9]
        have e9_1 : (pX7_walk u w a1 a2 kn).2.1 = z_5.2.1 := by rw [e9]
        have e9_2 : (pX7_walk u w a1 a2 kn).2.2 = z_5.2.2 := by rw [e9]
        exact W.iret (v := z_5.1) hx hb hr (fun t ht hW => ⟨⟨by rw [e9_0], by rw [e9_1, e9_2, ht]; exact hP⟩, hS.F ht⟩) hS.2.2 dX7_walk_42
      · refine lv_bipush (v := (-2)) hx hb dX7_walk_29 (by decide) ?_
        have e9 : (pX7_walk u w a1 a2 kn) = ((-2), u, w) := by simp only [pX7_walk, if_neg c_1, if_neg c_2, if_pos c_3]
        have e9_0 : (pX7_walk u w a1 a2 kn).1 = (-2) := by rw [e9]
        have e9_1 : (pX7_walk u w a1 a2 kn).2.1 = u := by rw [e9]
        have e9_2 : (pX7_walk u w a1 a2 kn).2.2 = w := by rw [e9]
        exact W.iret (v := (-2)) hx hb hr (fun t ht hW => ⟨⟨by rw [e9_0], by rw [e9_1, e9_2, ht]; exact hP⟩, hS.F ht⟩) hS.2.2 dX7_walk_31
    · refine lv_iconst (v := (-1)) hx hb dX7_walk_14 (by decide) ?_
      have e9 : (pX7_walk u w a1 a2 kn) = ((-1), u, w) := by simp only [pX7_walk, if_neg c_1, if_pos c_2]
      have e9_0 : (pX7_walk u w a1 a2 kn).1 = (-1) := by rw [e9]
      have e9_1 : (pX7_walk u w a1 a2 kn).2.1 = u := by rw [e9]
      have e9_2 : (pX7_walk u w a1 a2 kn).2.2 = w := by rw [e9]
      exact W.iret (v := (-1)) hx hb hr (fun t ht hW => ⟨⟨by rw [e9_0], by rw [e9_1, e9_2, ht]; exact hP⟩, hS.F ht⟩) hS.2.2 dX7_walk_15
theorem bV_X7_walk : BV RX7 yX7_walk cX7_walk 3 (some .int) 2 := ⟨wcd_X7_walk, wim_X7_walk, wse_X7_walk, win_RX7, by decide +kernel⟩
def pX7_day (u : (Nat → Nat → Int32)) (w : (Nat → Int32)) (kn : Nat) : Int32 × (Nat → Nat → Int32) × (Nat → Int32) := ((pX7_goDay (pX7_records u w kn).1 (pX7_records u w kn).2).1, (pX7_goDay (pX7_records u w kn).1 (pX7_records u w kn).2).2.1, (pX7_goDay (pX7_records u w kn).1 (pX7_records u w kn).2).2.2)
set_option maxHeartbeats 4000000 in
set_option maxRecDepth 100000 in
theorem kX7_day (l : Launch) (D : va_G) (cyC cyI cyO : ClassId) (A : Nat → Nat) (u : (Nat → Nat → Int32)) (w : (Nat → Int32)) (kn : Nat) (hkn : kn ≤ 4) (hk : (w 3) = nI kn) (hm3 : ((u 0) 2) ≤ 3) (hln : LN u) : MU l yX7_day (Ty yX7_day cX7_day 1 (some .int)) ({ frames := 5, cells := 0, slots := 0, locals := 114 } : Room) D cyC cyI cyO (wM cyI A u w) [.ref (A 0)] (some (.int (pX7_day u w kn).1)) (wM cyI A (pX7_day u w kn).2.1 (pX7_day u w kn).2.2) := by
  intro sz
  refine Met.ofW (cc := cX7_day) (maxL := 1) (ret := (some .int)) (by decide) rfl ?_
  intro p e s m args below meth cd s₁ B hml hv
  obtain ⟨rfl, hsz, hP, hK, hD0⟩ := hv
  have hx := B.exec
  have hb := B.bytes
  have hr := B.returns
  have hts : ∀ w ∈ TB, w.before ([.ref (A 0)] : List Value).toArray s = true := fun w h => atoms_spec (ws := (Ty yX7_day cX7_day 1 (some .int))) B.pre w (List.mem_cons_of_mem _ h)
  have hown : s.vm.findClass RX7 = some m.cls := findClass_of_methodNamed B.named
  have hlocks := B.notSynchronized
  subst hsz
  have hD := hD0.self (sz := s.heap.size)
  have hA : ∀ q : Nat, s.heap.size ≤ q → (va_A (wM cyI A u w) s.heap.size) q := fun q h => Or.inr h
  generalize hAe : va_A (wM cyI A u w) s.heap.size = A0 at hD hA ⊢
  have hS : va_S A0 s.heap s.heap [] := va_S.rf
  have hl := lv_entry ([.ref (A 0)]) (n := 1) (Nat.le_of_ble_eq_true rfl)
  rw [lg_entry_eq]
  generalize (lg_sl ([.ref (A 0)]) ++ List.replicate (1 - (lg_sl ([.ref (A 0)])).length) Slot.unset).toArray = ls at hl ⊢
  have hl : lv_has ls 1 [(0, .ref (A 0))] := hl
  refine lv_aload_n hx hb dX7_day_0 rfl (lv_at hl 0 rfl) ?_
  obtain ⟨z_1, hz_1⟩ : ∃ q, q = (pX7_records u w kn) := ⟨_, rfl⟩
  refine mV (ws := (wM cyI A u w)) (ws' := (wM cyI A z_1.1 z_1.2)) (As := []) (rest := []) hx hb hml hown hts hl.1 (WS := (wM cyI A u w)) (WS' := (wM cyI A z_1.1 z_1.2)) (ro := none) (by rw [hz_1]; exact kX7_recordsK l D cyC cyI cyO A u w kn hkn hk) bV_X7_records  wml_RX7_118 ⟨rfl, rfl⟩ ⟨Nat.le_of_ble_eq_true rfl, Nat.le_of_ble_eq_true rfl, Nat.zero_le _, Nat.zero_le _⟩ [0, 1, 2, 3, 4, 5, 6] rfl rfl rfl rfl rfl hP hD hS hA hK 0 rfl rfl rfl rfl rfl (Nat.le_of_ble_eq_true rfl) dX7_day_1 (fun H locs hP hD hS => ?_)
  refine lv_aload_n hx hb dX7_day_4 rfl (lv_at hl 0 rfl) ?_
  obtain ⟨z_2, hz_2⟩ : ∃ q, q = (pX7_goDay z_1.1 z_1.2) := ⟨_, rfl⟩
  refine mV (ws := (wM cyI A z_1.1 z_1.2)) (ws' := (wM cyI A z_2.2.1 z_2.2.2)) (As := []) (rest := []) hx hb hml hown hts hl.1 (WS := (wM cyI A z_1.1 z_1.2)) (WS' := (wM cyI A z_2.2.1 z_2.2.2)) (ro := (some (.int z_2.1))) (by rw [hz_2]; exact kX7_goDay l D cyC cyI cyO A z_1.1 z_1.2 (by rw [hz_1, rec_u0]; exact hm3) (by rw [hz_1]; exact LN_rec hln)) bV_X7_goDay  wml_RX7_142 ⟨rfl, rfl⟩ ⟨Nat.le_of_ble_eq_true rfl, Nat.le_of_ble_eq_true rfl, Nat.zero_le _, Nat.zero_le _⟩ [0, 1, 2, 3, 4, 5, 6] rfl rfl rfl rfl rfl hP hD hS hA hK 0 rfl rfl rfl rfl rfl (Nat.le_of_ble_eq_true rfl) dX7_day_5 (fun H locs hP hD hS => ?_)
  have e9 : (pX7_day u w kn) = (z_2.1, z_2.2.1, z_2.2.2) := by simp only [pX7_day, ← hz_1, ← hz_2]
  have e9_0 : (pX7_day u w kn).1 = z_2.1 := by rw [e9]
  have e9_1 : (pX7_day u w kn).2.1 = z_2.2.1 := by rw [e9]
  have e9_2 : (pX7_day u w kn).2.2 = z_2.2.2 := by rw [e9]
  exact W.iret (v := z_2.1) hx hb hr (fun t ht hW => ⟨⟨by rw [e9_0], by rw [e9_1, e9_2, ht]; exact hP⟩, hS.F ht⟩) hS.2.2 dX7_day_8
theorem bV_X7_day : BV RX7 yX7_day cX7_day 1 (some .int) 0 := ⟨wcd_X7_day, wim_X7_day, wse_X7_day, win_RX7, by decide +kernel⟩
def pX7_append (u : (Nat → Nat → Int32)) (w : (Nat → Int32)) (a1 : Int32) : Int32 × (Nat → Nat → Int32) × (Nat → Int32) := (if (pX7_in a1 33 126) = 0 then ((-1), u, w) else (if (w 7) = 60 then ((-3), u, w) else (((w 7) + (1 : Int32)), (va_up u 4 (upd (u 4) ((w 7)).toNatClampNeg a1)), (va_up w 7 ((w 7) + (1 : Int32))))))
set_option maxHeartbeats 4000000 in
set_option maxRecDepth 100000 in
theorem kX7_append (l : Launch) (D : va_G) (cyC cyI cyO : ClassId) (A : Nat → Nat) (u : (Nat → Nat → Int32)) (w : (Nat → Int32)) (a1 : Int32) (hl7 : vp_in (w 7) 61) : MU l yX7_append (Ty yX7_append cX7_append 2 (some .int)) ({ frames := 1, cells := 0, slots := 0, locals := 22 } : Room) D cyC cyI cyO (wM cyI A u w) [.ref (A 0), .int a1] (some (.int (pX7_append u w a1).1)) (wM cyI A (pX7_append u w a1).2.1 (pX7_append u w a1).2.2) := by
  intro sz
  refine Met.ofW (cc := cX7_append) (maxL := 2) (ret := (some .int)) (by decide) rfl ?_
  intro p e s m args below meth cd s₁ B hml hv
  obtain ⟨rfl, hsz, hP, hK, hD0⟩ := hv
  have hx := B.exec
  have hb := B.bytes
  have hr := B.returns
  have hts : ∀ w ∈ TB, w.before ([.ref (A 0), .int a1] : List Value).toArray s = true := fun w h => atoms_spec (ws := (Ty yX7_append cX7_append 2 (some .int))) B.pre w (List.mem_cons_of_mem _ h)
  have hown : s.vm.findClass RX7 = some m.cls := findClass_of_methodNamed B.named
  have hlocks := B.notSynchronized
  subst hsz
  have hD := hD0.self (sz := s.heap.size)
  have hA : ∀ q : Nat, s.heap.size ≤ q → (va_A (wM cyI A u w) s.heap.size) q := fun q h => Or.inr h
  generalize hAe : va_A (wM cyI A u w) s.heap.size = A0 at hD hA ⊢
  have hS : va_S A0 s.heap s.heap [] := va_S.rf
  have hl := lv_entry ([.ref (A 0), .int a1]) (n := 2) (Nat.le_of_ble_eq_true rfl)
  rw [lg_entry_eq]
  generalize (lg_sl ([.ref (A 0), .int a1]) ++ List.replicate (2 - (lg_sl ([.ref (A 0), .int a1])).length) Slot.unset).toArray = ls at hl ⊢
  have hl : lv_has ls 2 [(0, .ref (A 0)), (1, .int a1)] := hl
  refine lv_iload_n hx hb dX7_append_0 rfl (lv_at hl 1 rfl) ?_
  refine lv_bipush (v := 33) hx hb dX7_append_1 (by decide) ?_
  refine lv_bipush (v := 126) hx hb dX7_append_3 (by decide) ?_
  refine rS (As := [.int a1, .int 33, .int 126]) (rest := []) hx hb hml hown hts hl.1 (kX7_in l D cyC cyI cyO a1 33 126) bS_X7_in  wml_RX7_41 ⟨rfl, rfl⟩ ⟨Nat.le_of_ble_eq_true rfl, Nat.le_of_ble_eq_true rfl, Nat.zero_le _, Nat.zero_le _⟩ [] rfl hP hK rfl rfl (Nat.le_of_ble_eq_true rfl) dX7_append_5 ?_
  refine lv_if_ne (tgt := 13) hx hb dX7_append_8 (by decide) (fun c_1 => ?_) (fun c_1 => ?_)
  · refine lv_aload_n hx hb dX7_append_13 rfl (lv_at hl 0 rfl) ?_
    refine va_get (D := D) (ci := 6) (v := .int (w 7)) (C := RX7) (T := TX7) (N := 15) hx hb hts inT_X7 hown hK.1 hP 0 rfl rfl 7 (by decide) (hts _ wfl_RX7_145) (fun _ h9 => h9) rfl dX7_append_14 ?_
    refine lv_bipush (v := 60) hx hb dX7_append_17 (by decide) ?_
    refine lv_icmp_ne (tgt := 25) hx hb dX7_append_19 (by decide) (fun c_2 => ?_) (fun c_2 => ?_)
    · refine lv_aload_n hx hb dX7_append_25 rfl (lv_at hl 0 rfl) ?_
      refine va_get (D := D) (ci := 6) (v := .ref (A 5)) (C := RX7) (T := TX7) (N := 15) hx hb hts inT_X7 hown hK.1 hP 0 rfl rfl 6 (by decide) (hts _ wfl_RX7_22) (fun _ h9 => h9) rfl dX7_append_26 ?_
      refine lv_aload_n hx hb dX7_append_29 rfl (lv_at hl 0 rfl) ?_
      refine va_get (D := D) (ci := 6) (v := .int (w 7)) (C := RX7) (T := TX7) (N := 15) hx hb hts inT_X7 hown hK.1 hP 0 rfl rfl 7 (by decide) (hts _ wfl_RX7_145) (fun _ h9 => h9) rfl dX7_append_30 ?_
      refine lv_iload_n hx hb dX7_append_33 rfl (lv_at hl 1 rfl) ?_
      obtain ⟨z_3, hz_3⟩ : ∃ q, q = (upd (u 4) ((w 7)).toNatClampNeg a1) := ⟨_, rfl⟩
      refine va_iast (D := D) (f := (u 4)) hx hb hK.1 hP hD hS 5 1 rfl rfl (vp_ne hl7 c_2) dX7_append_34 (fun H locs hP hD hS => ?_)
      have hP : va_P D vwCl (wM cyI A (va_up u 4 (upd (u 4) ((w 7)).toNatClampNeg a1)) w) H := hP
      have hD : va_D A0 (wM cyI A (va_up u 4 (upd (u 4) ((w 7)).toNatClampNeg a1)) w) := hD
      rw [← hz_3] at hP hD
      refine lv_aload_n hx hb dX7_append_35 rfl (lv_at hl 0 rfl) ?_
      refine lv_dup hx hb dX7_append_36 rfl ?_
      refine va_get (D := D) (ci := 6) (v := .int (w 7)) (C := RX7) (T := TX7) (N := 15) hx hb hts inT_X7 hown hK.1 hP 0 rfl rfl 7 (by decide) (hts _ wfl_RX7_145) (fun _ h9 => h9) rfl dX7_append_37 ?_
      refine lv_iconst (v := 1) hx hb dX7_append_40 (by decide) ?_
      refine lv_iadd hx hb dX7_append_41 ?_
      refine va_put (D := D) (ci := 6) (v := .int ((w 7) + (1 : Int32))) (ty := .int) (C := RX7) (T := TX7) (N := 15) hx hb hts inT_X7 tyX7 tyX7_ok nmX7 hown hK.1 hP hD hS 0 rfl rfl 7 (by decide) (hts _ wfl_RX7_145) (fun _ h9 => h9) rfl (by decide +kernel) (by rfl) rfl (Nat.le_of_ble_eq_true rfl) dX7_append_42 (fun H locs hP hD hS => ?_)
      have hP : va_P D vwCl (wM cyI A (va_up u 4 z_3) (va_up w 7 ((w 7) + (1 : Int32)))) H := hP
      have hD : va_D A0 (wM cyI A (va_up u 4 z_3) (va_up w 7 ((w 7) + (1 : Int32)))) := hD
      refine lv_aload_n hx hb dX7_append_45 rfl (lv_at hl 0 rfl) ?_
      refine va_get (D := D) (ci := 6) (v := .int ((w 7) + (1 : Int32))) (C := RX7) (T := TX7) (N := 15) hx hb hts inT_X7 hown hK.1 hP 0 rfl rfl 7 (by decide) (hts _ wfl_RX7_145) (fun _ h9 => h9) rfl dX7_append_46 ?_
      have e9 : (pX7_append u w a1) = (((w 7) + (1 : Int32)), (va_up u 4 z_3), (va_up w 7 ((w 7) + (1 : Int32)))) := by simp only [pX7_append, ← hz_3, if_neg c_1, if_neg c_2]
      have e9_0 : (pX7_append u w a1).1 = ((w 7) + (1 : Int32)) := by rw [e9]
      have e9_1 : (pX7_append u w a1).2.1 = (va_up u 4 z_3) := by rw [e9]
      have e9_2 : (pX7_append u w a1).2.2 = (va_up w 7 ((w 7) + (1 : Int32))) := by rw [e9]
      exact W.iret (v := ((w 7) + (1 : Int32))) hx hb hr (fun t ht hW => ⟨⟨by rw [e9_0], by rw [e9_1, e9_2, ht]; exact hP⟩, hS.F ht⟩) hS.2.2 dX7_append_49
    · refine lv_bipush (v := (-3)) hx hb dX7_append_22 (by decide) ?_
      have e9 : (pX7_append u w a1) = ((-3), u, w) := by simp only [pX7_append, if_neg c_1, if_pos c_2]
      have e9_0 : (pX7_append u w a1).1 = (-3) := by rw [e9]
      have e9_1 : (pX7_append u w a1).2.1 = u := by rw [e9]
      have e9_2 : (pX7_append u w a1).2.2 = w := by rw [e9]
      exact W.iret (v := (-3)) hx hb hr (fun t ht hW => ⟨⟨by rw [e9_0], by rw [e9_1, e9_2, ht]; exact hP⟩, hS.F ht⟩) hS.2.2 dX7_append_24
  · refine lv_iconst (v := (-1)) hx hb dX7_append_11 (by decide) ?_
    have e9 : (pX7_append u w a1) = ((-1), u, w) := by simp only [pX7_append, if_pos c_1]
    have e9_0 : (pX7_append u w a1).1 = (-1) := by rw [e9]
    have e9_1 : (pX7_append u w a1).2.1 = u := by rw [e9]
    have e9_2 : (pX7_append u w a1).2.2 = w := by rw [e9]
    exact W.iret (v := (-1)) hx hb hr (fun t ht hW => ⟨⟨by rw [e9_0], by rw [e9_1, e9_2, ht]; exact hP⟩, hS.F ht⟩) hS.2.2 dX7_append_12
theorem bV_X7_append : BV RX7 yX7_append cX7_append 2 (some .int) 1 := ⟨wcd_X7_append, wim_X7_append, wse_X7_append, win_RX7, by decide +kernel⟩
def pX7_clear (u : (Nat → Nat → Int32)) (w : (Nat → Int32)) : Int32 × (Nat → Nat → Int32) × (Nat → Int32) := ((w 7), u, (va_up w 7 0))
set_option maxHeartbeats 4000000 in
set_option maxRecDepth 100000 in
theorem kX7_clear (l : Launch) (D : va_G) (cyC cyI cyO : ClassId) (A : Nat → Nat) (u : (Nat → Nat → Int32)) (w : (Nat → Int32)) : MU l yX7_clear (Ty yX7_clear cX7_clear 2 (some .int)) ({ frames := 0, cells := 0, slots := 0, locals := 0 } : Room) D cyC cyI cyO (wM cyI A u w) [.ref (A 0)] (some (.int (pX7_clear u w).1)) (wM cyI A (pX7_clear u w).2.1 (pX7_clear u w).2.2) := by
  intro sz
  refine Met.ofW (cc := cX7_clear) (maxL := 2) (ret := (some .int)) (by decide) rfl ?_
  intro p e s m args below meth cd s₁ B hml hv
  obtain ⟨rfl, hsz, hP, hK, hD0⟩ := hv
  have hx := B.exec
  have hb := B.bytes
  have hr := B.returns
  have hts : ∀ w ∈ TB, w.before ([.ref (A 0)] : List Value).toArray s = true := fun w h => atoms_spec (ws := (Ty yX7_clear cX7_clear 2 (some .int))) B.pre w (List.mem_cons_of_mem _ h)
  have hown : s.vm.findClass RX7 = some m.cls := findClass_of_methodNamed B.named
  have hlocks := B.notSynchronized
  subst hsz
  have hD := hD0.self (sz := s.heap.size)
  have hA : ∀ q : Nat, s.heap.size ≤ q → (va_A (wM cyI A u w) s.heap.size) q := fun q h => Or.inr h
  generalize hAe : va_A (wM cyI A u w) s.heap.size = A0 at hD hA ⊢
  have hS : va_S A0 s.heap s.heap [] := va_S.rf
  have hl := lv_entry ([.ref (A 0)]) (n := 2) (Nat.le_of_ble_eq_true rfl)
  rw [lg_entry_eq]
  generalize (lg_sl ([.ref (A 0)]) ++ List.replicate (2 - (lg_sl ([.ref (A 0)])).length) Slot.unset).toArray = ls at hl ⊢
  have hl : lv_has ls 2 [(0, .ref (A 0))] := hl
  refine lv_aload_n hx hb dX7_clear_0 rfl (lv_at hl 0 rfl) ?_
  refine va_get (D := D) (ci := 6) (v := .int (w 7)) (C := RX7) (T := TX7) (N := 15) hx hb hts inT_X7 hown hK.1 hP 0 rfl rfl 7 (by decide) (hts _ wfl_RX7_145) (fun _ h9 => h9) rfl dX7_clear_1 ?_
  refine lv_istore_n (lv' := [(1, .int (w 7)), (0, .ref (A 0))]) hx hb dX7_clear_4 rfl hl (by decide) rfl (fun ls hl => ?_)
  refine lv_aload_n hx hb dX7_clear_5 rfl (lv_at hl 1 rfl) ?_
  refine lv_iconst (v := 0) hx hb dX7_clear_6 (by decide) ?_
  refine va_put (D := D) (ci := 6) (v := .int 0) (ty := .int) (C := RX7) (T := TX7) (N := 15) hx hb hts inT_X7 tyX7 tyX7_ok nmX7 hown hK.1 hP hD hS 0 rfl rfl 7 (by decide) (hts _ wfl_RX7_145) (fun _ h9 => h9) rfl (by decide +kernel) (by rfl) rfl (Nat.le_of_ble_eq_true rfl) dX7_clear_7 (fun H locs hP hD hS => ?_)
  have hP : va_P D vwCl (wM cyI A u (va_up w 7 0)) H := hP
  have hD : va_D A0 (wM cyI A u (va_up w 7 0)) := hD
  refine lv_iload_n hx hb dX7_clear_10 rfl (lv_at hl 0 rfl) ?_
  have e9 : (pX7_clear u w) = ((w 7), u, (va_up w 7 0)) := rfl
  have e9_0 : (pX7_clear u w).1 = (w 7) := by rw [e9]
  have e9_1 : (pX7_clear u w).2.1 = u := by rw [e9]
  have e9_2 : (pX7_clear u w).2.2 = (va_up w 7 0) := by rw [e9]
  exact W.iret (v := (w 7)) hx hb hr (fun t ht hW => ⟨⟨by rw [e9_0], by rw [e9_1, e9_2, ht]; exact hP⟩, hS.F ht⟩) hS.2.2 dX7_clear_11
theorem bV_X7_clear : BV RX7 yX7_clear cX7_clear 2 (some .int) 0 := ⟨wcd_X7_clear, wim_X7_clear, wse_X7_clear, win_RX7, by decide +kernel⟩
def pX7_why (u : (Nat → Nat → Int32)) (w : (Nat → Int32)) (a1 : Int32) : Int32 := (if (pX7_in a1 0 2) = 0 then (-1) else (if (w 13) = 0 then (-4) else ((u 5) (a1).toNatClampNeg)))
set_option maxHeartbeats 4000000 in
set_option maxRecDepth 100000 in
theorem kX7_why (l : Launch) (D : va_G) (cyC cyI cyO : ClassId) (A : Nat → Nat) (u : (Nat → Nat → Int32)) (w : (Nat → Int32)) (a1 : Int32) : RO l yX7_why (Ty yX7_why cX7_why 2 (some .int)) ({ frames := 1, cells := 0, slots := 0, locals := 22 } : Room) D cyC cyI cyO (wM cyI A u w) [.ref (A 0), .int a1] (pX7_why u w a1) := by
  refine Met.ofW (cc := cX7_why) (maxL := 2) (ret := (some .int)) (by decide) rfl ?_
  intro p e s m args below meth cd s₁ B hml hv
  obtain ⟨rfl, hP, hK⟩ := hv
  have hx := B.exec
  have hb := B.bytes
  have hr := B.returns
  have hts : ∀ w ∈ TB, w.before ([.ref (A 0), .int a1] : List Value).toArray s = true := fun w h => atoms_spec (ws := (Ty yX7_why cX7_why 2 (some .int))) B.pre w (List.mem_cons_of_mem _ h)
  have hown : s.vm.findClass RX7 = some m.cls := findClass_of_methodNamed B.named
  have hlocks := B.notSynchronized
  have hl := lv_entry ([.ref (A 0), .int a1]) (n := 2) (Nat.le_of_ble_eq_true rfl)
  rw [lg_entry_eq]
  generalize (lg_sl ([.ref (A 0), .int a1]) ++ List.replicate (2 - (lg_sl ([.ref (A 0), .int a1])).length) Slot.unset).toArray = ls at hl ⊢
  have hl : lv_has ls 2 [(0, .ref (A 0)), (1, .int a1)] := hl
  refine lv_iload_n hx hb dX7_why_0 rfl (lv_at hl 1 rfl) ?_
  refine lv_iconst (v := 0) hx hb dX7_why_1 (by decide) ?_
  refine lv_iconst (v := 2) hx hb dX7_why_2 (by decide) ?_
  refine rS (As := [.int a1, .int 0, .int 2]) (rest := []) hx hb hml hown hts hl.1 (kX7_in l D cyC cyI cyO a1 0 2) bS_X7_in  wml_RX7_41 ⟨rfl, rfl⟩ ⟨Nat.le_of_ble_eq_true rfl, Nat.le_of_ble_eq_true rfl, Nat.zero_le _, Nat.zero_le _⟩ [] rfl hP hK rfl rfl (Nat.le_of_ble_eq_true rfl) dX7_why_3 ?_
  refine lv_if_ne (tgt := 11) hx hb dX7_why_6 (by decide) (fun c_1 => ?_) (fun c_1 => ?_)
  · refine lv_aload_n hx hb dX7_why_11 rfl (lv_at hl 0 rfl) ?_
    refine va_get (D := D) (ci := 6) (v := .int (w 13)) (C := RX7) (T := TX7) (N := 15) hx hb hts inT_X7 hown hK.1 hP 0 rfl rfl 13 (by decide) (hts _ wfl_RX7_186) (fun _ h9 => h9) rfl dX7_why_12 ?_
    refine lv_if_eq (tgt := 27) hx hb dX7_why_15 (by decide) (fun c_2 => ?_) (fun c_2 => ?_)
    · refine lv_bipush (v := (-4)) hx hb dX7_why_27 (by decide) ?_
      have e9 : (-4) = (pX7_why u w a1) := by simp only [pX7_why, if_neg c_1, if_pos c_2]
      exact W.iret (v := (-4)) hx hb hr (fun t ht hW => ⟨_, rfl, e9, ht⟩) (fun _ h => absurd h List.not_mem_nil) dX7_why_29
    · refine lv_aload_n hx hb dX7_why_18 rfl (lv_at hl 0 rfl) ?_
      refine va_get (D := D) (ci := 6) (v := .ref (A 6)) (C := RX7) (T := TX7) (N := 15) hx hb hts inT_X7 hown hK.1 hP 0 rfl rfl 14 (by decide) (hts _ wfl_RX7_25) (fun _ h9 => h9) rfl dX7_why_19 ?_
      refine lv_iload_n hx hb dX7_why_22 rfl (lv_at hl 1 rfl) ?_
      refine va_iald (D := D) (f := (u 5)) hx hb hK.1 hP 6 1 rfl rfl (w7_in rfl (by decide) c_1) dX7_why_23 ?_
      refine lv_goto (tgt := 29) hx hb dX7_why_24 (by decide) ?_
      have e9 : ((u 5) (a1).toNatClampNeg) = (pX7_why u w a1) := by simp only [pX7_why, if_neg c_1, if_neg c_2]
      exact W.iret (v := ((u 5) (a1).toNatClampNeg)) hx hb hr (fun t ht hW => ⟨_, rfl, e9, ht⟩) (fun _ h => absurd h List.not_mem_nil) dX7_why_29
  · refine lv_iconst (v := (-1)) hx hb dX7_why_9 (by decide) ?_
    have e9 : (-1) = (pX7_why u w a1) := by simp only [pX7_why, if_pos c_1]
    exact W.iret (v := (-1)) hx hb hr (fun t ht hW => ⟨_, rfl, e9, ht⟩) (fun _ h => absurd h List.not_mem_nil) dX7_why_10
theorem bV_X7_why : BV RX7 yX7_why cX7_why 2 (some .int) 1 := ⟨wcd_X7_why, wim_X7_why, wse_X7_why, win_RX7, by decide +kernel⟩
def pX7_roof (u : (Nat → Nat → Int32)) (w : (Nat → Int32)) (a1 : Int32) (a2 : Int32) : Int32 := (if (pX7_isRoof a1) = 0 then (-1) else (if a2 = 0 then ((((u 0) 8) >>> (a1 &&& 31)) &&& (1 : Int32)) else (if a2 = 1 then (((pX7_smoke u w) >>> (a1 &&& 31)) &&& (1 : Int32)) else (if a2 = 2 then (pX7_chimneysOver u w a1) else (if a2 = 3 then ((((u 0) 9) >>> (a1 &&& 31)) &&& (1 : Int32)) else (if a2 = 4 then (pX7_ownersAt u w a1) else (if a2 = 5 then (pX7_strongAt u w a1) else (if a2 = 6 then (pX7_linesAt u w a1) else (if a2 = 7 then (pX7_ones (pX7_comeTo u w a1 1)) else (-1))))))))))
set_option maxHeartbeats 4000000 in
set_option maxRecDepth 100000 in
theorem kX7_roof (l : Launch) (D : va_G) (cyC cyI cyO : ClassId) (A : Nat → Nat) (u : (Nat → Nat → Int32)) (w : (Nat → Int32)) (a1 : Int32) (a2 : Int32) (hm3 : ((u 0) 2) ≤ 3) : RO l yX7_roof (Ty yX7_roof cX7_roof 3 (some .int)) ({ frames := 4, cells := 0, slots := 0, locals := 91 } : Room) D cyC cyI cyO (wM cyI A u w) [.ref (A 0), .int a1, .int a2] (pX7_roof u w a1 a2) := by
  refine Met.ofW (cc := cX7_roof) (maxL := 3) (ret := (some .int)) (by decide) rfl ?_
  intro p e s m args below meth cd s₁ B hml hv
  obtain ⟨rfl, hP, hK⟩ := hv
  have hx := B.exec
  have hb := B.bytes
  have hr := B.returns
  have hts : ∀ w ∈ TB, w.before ([.ref (A 0), .int a1, .int a2] : List Value).toArray s = true := fun w h => atoms_spec (ws := (Ty yX7_roof cX7_roof 3 (some .int))) B.pre w (List.mem_cons_of_mem _ h)
  have hown : s.vm.findClass RX7 = some m.cls := findClass_of_methodNamed B.named
  have hlocks := B.notSynchronized
  have hl := lv_entry ([.ref (A 0), .int a1, .int a2]) (n := 3) (Nat.le_of_ble_eq_true rfl)
  rw [lg_entry_eq]
  generalize (lg_sl ([.ref (A 0), .int a1, .int a2]) ++ List.replicate (3 - (lg_sl ([.ref (A 0), .int a1, .int a2])).length) Slot.unset).toArray = ls at hl ⊢
  have hl : lv_has ls 3 [(0, .ref (A 0)), (1, .int a1), (2, .int a2)] := hl
  refine lv_iload_n hx hb dX7_roof_0 rfl (lv_at hl 1 rfl) ?_
  refine rS (As := [.int a1]) (rest := []) hx hb hml hown hts hl.1 (kX7_isRoof l D cyC cyI cyO a1) bS_X7_isRoof  wml_RX7_121 ⟨rfl, rfl⟩ ⟨Nat.le_of_ble_eq_true rfl, Nat.le_of_ble_eq_true rfl, Nat.zero_le _, Nat.zero_le _⟩ [] rfl hP hK rfl rfl (Nat.le_of_ble_eq_true rfl) dX7_roof_1 ?_
  refine lv_if_ne (tgt := 9) hx hb dX7_roof_4 (by decide) (fun c_1 => ?_) (fun c_1 => ?_)
  · refine lv_iload_n hx hb dX7_roof_9 rfl (lv_at hl 2 rfl) ?_
    by_cases c_2 : a2 = 0
    · refine lv_tableIn (off := 46) (tgt := 56) hx hb dX7_roof_10 (by rw [c_2]; decide) (by rw [c_2]; decide) (by rw [c_2]; rfl) (by decide) ?_
      refine lv_aload_n hx hb dX7_roof_56 rfl (lv_at hl 0 rfl) ?_
      refine va_get (D := D) (ci := 6) (v := .ref (A 1)) (C := RX7) (T := TX7) (N := 15) hx hb hts inT_X7 hown hK.1 hP 0 rfl rfl 0 (by decide) (hts _ wfl_RX7_7) (fun _ h9 => h9) rfl dX7_roof_57 ?_
      refine lv_bipush (v := 8) hx hb dX7_roof_60 (by decide) ?_
      refine va_iald (D := D) (f := (u 0)) hx hb hK.1 hP 1 1 rfl rfl (vp_lit (by decide)) dX7_roof_62 ?_
      refine W.eq (g2 := F0 m _ ls [.int ((u 0) 8)]) rfl ?_
      refine lv_iload_n hx hb dX7_roof_63 rfl (lv_at hl 1 rfl) ?_
      refine lv_ishr hx hb dX7_roof_64 ?_
      refine lv_iconst (v := 1) hx hb dX7_roof_65 (by decide) ?_
      refine lv_iand hx hb dX7_roof_66 ?_
      have e9 : ((((u 0) 8) >>> (a1 &&& 31)) &&& (1 : Int32)) = (pX7_roof u w a1 a2) := by simp only [pX7_roof, if_neg c_1, if_pos c_2]
      exact W.iret (v := ((((u 0) 8) >>> (a1 &&& 31)) &&& (1 : Int32))) hx hb hr (fun t ht hW => ⟨_, rfl, e9, ht⟩) (fun _ h => absurd h List.not_mem_nil) dX7_roof_67
    · by_cases c_3 : a2 = 1
      · refine lv_tableIn (off := 58) (tgt := 68) hx hb dX7_roof_10 (by rw [c_3]; decide) (by rw [c_3]; decide) (by rw [c_3]; rfl) (by decide) ?_
        refine lv_aload_n hx hb dX7_roof_68 rfl (lv_at hl 0 rfl) ?_
        refine rV (As := []) (rest := []) hx hb hml hown hts hl.1 (kX7_smoke l D cyC cyI cyO A u w hm3) bV_X7_smoke  wml_RX7_78 ⟨rfl, rfl⟩ ⟨Nat.le_of_ble_eq_true rfl, Nat.le_of_ble_eq_true rfl, Nat.zero_le _, Nat.zero_le _⟩ [0, 1, 2, 3, 4, 5, 6] rfl hP hK 0 rfl rfl rfl rfl rfl (Nat.le_of_ble_eq_true rfl) dX7_roof_69 ?_
        refine lv_iload_n hx hb dX7_roof_72 rfl (lv_at hl 1 rfl) ?_
        refine lv_ishr hx hb dX7_roof_73 ?_
        refine lv_iconst (v := 1) hx hb dX7_roof_74 (by decide) ?_
        refine lv_iand hx hb dX7_roof_75 ?_
        have e9 : (((pX7_smoke u w) >>> (a1 &&& 31)) &&& (1 : Int32)) = (pX7_roof u w a1 a2) := by simp only [pX7_roof, if_neg c_1, if_neg c_2, if_pos c_3]
        exact W.iret (v := (((pX7_smoke u w) >>> (a1 &&& 31)) &&& (1 : Int32))) hx hb hr (fun t ht hW => ⟨_, rfl, e9, ht⟩) (fun _ h => absurd h List.not_mem_nil) dX7_roof_76
      · by_cases c_4 : a2 = 2
        · refine lv_tableIn (off := 67) (tgt := 77) hx hb dX7_roof_10 (by rw [c_4]; decide) (by rw [c_4]; decide) (by rw [c_4]; rfl) (by decide) ?_
          refine lv_aload_n hx hb dX7_roof_77 rfl (lv_at hl 0 rfl) ?_
          refine lv_iload_n hx hb dX7_roof_78 rfl (lv_at hl 1 rfl) ?_
          refine rV (As := [.int a1]) (rest := []) hx hb hml hown hts hl.1 (kX7_chimneysOver l D cyC cyI cyO A u w a1 hm3) bV_X7_chimneysOver  wml_RX7_192 ⟨rfl, rfl⟩ ⟨Nat.le_of_ble_eq_true rfl, Nat.le_of_ble_eq_true rfl, Nat.zero_le _, Nat.zero_le _⟩ [0, 1, 2, 3, 4, 5, 6] rfl hP hK 0 rfl rfl rfl rfl rfl (Nat.le_of_ble_eq_true rfl) dX7_roof_79 ?_
          have e9 : (pX7_chimneysOver u w a1) = (pX7_roof u w a1 a2) := by simp only [pX7_roof, if_neg c_1, if_neg c_2, if_neg c_3, if_pos c_4]
          exact W.iret (v := (pX7_chimneysOver u w a1)) hx hb hr (fun t ht hW => ⟨_, rfl, e9, ht⟩) (fun _ h => absurd h List.not_mem_nil) dX7_roof_82
        · by_cases c_5 : a2 = 3
          · refine lv_tableIn (off := 73) (tgt := 83) hx hb dX7_roof_10 (by rw [c_5]; decide) (by rw [c_5]; decide) (by rw [c_5]; rfl) (by decide) ?_
            refine lv_aload_n hx hb dX7_roof_83 rfl (lv_at hl 0 rfl) ?_
            refine va_get (D := D) (ci := 6) (v := .ref (A 1)) (C := RX7) (T := TX7) (N := 15) hx hb hts inT_X7 hown hK.1 hP 0 rfl rfl 0 (by decide) (hts _ wfl_RX7_7) (fun _ h9 => h9) rfl dX7_roof_84 ?_
            refine lv_bipush (v := 9) hx hb dX7_roof_87 (by decide) ?_
            refine va_iald (D := D) (f := (u 0)) hx hb hK.1 hP 1 1 rfl rfl (vp_lit (by decide)) dX7_roof_89 ?_
            refine W.eq (g2 := F0 m _ ls [.int ((u 0) 9)]) rfl ?_
            refine lv_iload_n hx hb dX7_roof_90 rfl (lv_at hl 1 rfl) ?_
            refine lv_ishr hx hb dX7_roof_91 ?_
            refine lv_iconst (v := 1) hx hb dX7_roof_92 (by decide) ?_
            refine lv_iand hx hb dX7_roof_93 ?_
            have e9 : ((((u 0) 9) >>> (a1 &&& 31)) &&& (1 : Int32)) = (pX7_roof u w a1 a2) := by simp only [pX7_roof, if_neg c_1, if_neg c_2, if_neg c_3, if_neg c_4, if_pos c_5]
            exact W.iret (v := ((((u 0) 9) >>> (a1 &&& 31)) &&& (1 : Int32))) hx hb hr (fun t ht hW => ⟨_, rfl, e9, ht⟩) (fun _ h => absurd h List.not_mem_nil) dX7_roof_94
          · by_cases c_6 : a2 = 4
            · refine lv_tableIn (off := 85) (tgt := 95) hx hb dX7_roof_10 (by rw [c_6]; decide) (by rw [c_6]; decide) (by rw [c_6]; rfl) (by decide) ?_
              refine lv_aload_n hx hb dX7_roof_95 rfl (lv_at hl 0 rfl) ?_
              refine lv_iload_n hx hb dX7_roof_96 rfl (lv_at hl 1 rfl) ?_
              refine rV (As := [.int a1]) (rest := []) hx hb hml hown hts hl.1 (kX7_ownersAt l D cyC cyI cyO A u w a1) bV_X7_ownersAt  wml_RX7_195 ⟨rfl, rfl⟩ ⟨Nat.le_of_ble_eq_true rfl, Nat.le_of_ble_eq_true rfl, Nat.zero_le _, Nat.zero_le _⟩ [0, 1, 2, 3, 4, 5, 6] rfl hP hK 0 rfl rfl rfl rfl rfl (Nat.le_of_ble_eq_true rfl) dX7_roof_97 ?_
              have e9 : (pX7_ownersAt u w a1) = (pX7_roof u w a1 a2) := by simp only [pX7_roof, if_neg c_1, if_neg c_2, if_neg c_3, if_neg c_4, if_neg c_5, if_pos c_6]
              exact W.iret (v := (pX7_ownersAt u w a1)) hx hb hr (fun t ht hW => ⟨_, rfl, e9, ht⟩) (fun _ h => absurd h List.not_mem_nil) dX7_roof_100
            · by_cases c_7 : a2 = 5
              · refine lv_tableIn (off := 91) (tgt := 101) hx hb dX7_roof_10 (by rw [c_7]; decide) (by rw [c_7]; decide) (by rw [c_7]; rfl) (by decide) ?_
                refine lv_aload_n hx hb dX7_roof_101 rfl (lv_at hl 0 rfl) ?_
                refine lv_iload_n hx hb dX7_roof_102 rfl (lv_at hl 1 rfl) ?_
                refine rV (As := [.int a1]) (rest := []) hx hb hml hown hts hl.1 (kX7_strongAt l D cyC cyI cyO A u w a1) bV_X7_strongAt  wml_RX7_198 ⟨rfl, rfl⟩ ⟨Nat.le_of_ble_eq_true rfl, Nat.le_of_ble_eq_true rfl, Nat.zero_le _, Nat.zero_le _⟩ [0, 1, 2, 3, 4, 5, 6] rfl hP hK 0 rfl rfl rfl rfl rfl (Nat.le_of_ble_eq_true rfl) dX7_roof_103 ?_
                have e9 : (pX7_strongAt u w a1) = (pX7_roof u w a1 a2) := by simp only [pX7_roof, if_neg c_1, if_neg c_2, if_neg c_3, if_neg c_4, if_neg c_5, if_neg c_6, if_pos c_7]
                exact W.iret (v := (pX7_strongAt u w a1)) hx hb hr (fun t ht hW => ⟨_, rfl, e9, ht⟩) (fun _ h => absurd h List.not_mem_nil) dX7_roof_106
              · by_cases c_8 : a2 = 6
                · refine lv_tableIn (off := 97) (tgt := 107) hx hb dX7_roof_10 (by rw [c_8]; decide) (by rw [c_8]; decide) (by rw [c_8]; rfl) (by decide) ?_
                  refine lv_aload_n hx hb dX7_roof_107 rfl (lv_at hl 0 rfl) ?_
                  refine lv_iload_n hx hb dX7_roof_108 rfl (lv_at hl 1 rfl) ?_
                  refine rV (As := [.int a1]) (rest := []) hx hb hml hown hts hl.1 (kX7_linesAt l D cyC cyI cyO A u w a1) bV_X7_linesAt  wml_RX7_201 ⟨rfl, rfl⟩ ⟨Nat.le_of_ble_eq_true rfl, Nat.le_of_ble_eq_true rfl, Nat.zero_le _, Nat.zero_le _⟩ [0, 1, 2, 3, 4, 5, 6] rfl hP hK 0 rfl rfl rfl rfl rfl (Nat.le_of_ble_eq_true rfl) dX7_roof_109 ?_
                  have e9 : (pX7_linesAt u w a1) = (pX7_roof u w a1 a2) := by simp only [pX7_roof, if_neg c_1, if_neg c_2, if_neg c_3, if_neg c_4, if_neg c_5, if_neg c_6, if_neg c_7, if_pos c_8]
                  exact W.iret (v := (pX7_linesAt u w a1)) hx hb hr (fun t ht hW => ⟨_, rfl, e9, ht⟩) (fun _ h => absurd h List.not_mem_nil) dX7_roof_112
                · by_cases c_9 : a2 = 7
                  · refine lv_tableIn (off := 103) (tgt := 113) hx hb dX7_roof_10 (by rw [c_9]; decide) (by rw [c_9]; decide) (by rw [c_9]; rfl) (by decide) ?_
                    refine lv_aload_n hx hb dX7_roof_113 rfl (lv_at hl 0 rfl) ?_
                    refine lv_iload_n hx hb dX7_roof_114 rfl (lv_at hl 1 rfl) ?_
                    refine lv_iconst (v := 1) hx hb dX7_roof_115 (by decide) ?_
                    refine rV (As := [.int a1, .int 1]) (rest := []) hx hb hml hown hts hl.1 (kX7_comeTo l D cyC cyI cyO A u w a1 1) bV_X7_comeTo  wml_RX7_204 ⟨rfl, rfl⟩ ⟨Nat.le_of_ble_eq_true rfl, Nat.le_of_ble_eq_true rfl, Nat.zero_le _, Nat.zero_le _⟩ [0, 1, 2, 3, 4, 5, 6] rfl hP hK 0 rfl rfl rfl rfl rfl (Nat.le_of_ble_eq_true rfl) dX7_roof_116 ?_
                    refine rS (As := [.int (pX7_comeTo u w a1 1)]) (rest := []) hx hb hml hown hts hl.1 (kX7_ones l D cyC cyI cyO (pX7_comeTo u w a1 1)) bS_X7_ones  wml_RX7_112 ⟨rfl, rfl⟩ ⟨Nat.le_of_ble_eq_true rfl, Nat.le_of_ble_eq_true rfl, Nat.zero_le _, Nat.zero_le _⟩ [] rfl hP hK rfl rfl (Nat.le_of_ble_eq_true rfl) dX7_roof_119 ?_
                    have e9 : (pX7_ones (pX7_comeTo u w a1 1)) = (pX7_roof u w a1 a2) := by simp only [pX7_roof, if_neg c_1, if_neg c_2, if_neg c_3, if_neg c_4, if_neg c_5, if_neg c_6, if_neg c_7, if_neg c_8, if_pos c_9]
                    exact W.iret (v := (pX7_ones (pX7_comeTo u w a1 1))) hx hb hr (fun t ht hW => ⟨_, rfl, e9, ht⟩) (fun _ h => absurd h List.not_mem_nil) dX7_roof_122
                  · have nc_2 : (a2 : Int32).toInt ≠ 0 := fun h => c_2 (Int32.toInt_inj.mp (h.trans (by decide)))
                    have nc_3 : (a2 : Int32).toInt ≠ 1 := fun h => c_3 (Int32.toInt_inj.mp (h.trans (by decide)))
                    have nc_4 : (a2 : Int32).toInt ≠ 2 := fun h => c_4 (Int32.toInt_inj.mp (h.trans (by decide)))
                    have nc_5 : (a2 : Int32).toInt ≠ 3 := fun h => c_5 (Int32.toInt_inj.mp (h.trans (by decide)))
                    have nc_6 : (a2 : Int32).toInt ≠ 4 := fun h => c_6 (Int32.toInt_inj.mp (h.trans (by decide)))
                    have nc_7 : (a2 : Int32).toInt ≠ 5 := fun h => c_7 (Int32.toInt_inj.mp (h.trans (by decide)))
                    have nc_8 : (a2 : Int32).toInt ≠ 6 := fun h => c_8 (Int32.toInt_inj.mp (h.trans (by decide)))
                    have nc_9 : (a2 : Int32).toInt ≠ 7 := fun h => c_9 (Int32.toInt_inj.mp (h.trans (by decide)))
                    refine lv_tableOut (tgt := 123) hx hb dX7_roof_10 (by omega) (by decide) ?_
                    refine lv_iconst (v := (-1)) hx hb dX7_roof_123 (by decide) ?_
                    have e9 : (-1) = (pX7_roof u w a1 a2) := by simp only [pX7_roof, if_neg c_1, if_neg c_2, if_neg c_3, if_neg c_4, if_neg c_5, if_neg c_6, if_neg c_7, if_neg c_8, if_neg c_9]
                    exact W.iret (v := (-1)) hx hb hr (fun t ht hW => ⟨_, rfl, e9, ht⟩) (fun _ h => absurd h List.not_mem_nil) dX7_roof_124
  · refine lv_iconst (v := (-1)) hx hb dX7_roof_7 (by decide) ?_
    have e9 : (-1) = (pX7_roof u w a1 a2) := by simp only [pX7_roof, if_pos c_1]
    exact W.iret (v := (-1)) hx hb hr (fun t ht hW => ⟨_, rfl, e9, ht⟩) (fun _ h => absurd h List.not_mem_nil) dX7_roof_8
theorem bV_X7_roof : BV RX7 yX7_roof cX7_roof 3 (some .int) 2 := ⟨wcd_X7_roof, wim_X7_roof, wse_X7_roof, win_RX7, by decide +kernel⟩
def pX7_gangway (u : (Nat → Nat → Int32)) (w : (Nat → Int32)) (a1 : Int32) (a2 : Int32) : Int32 := (if (pX7_isGangway a1) = 0 then (-1) else (if a2 = 0 then (pX7_of u w a1 0) else (if a2 = 1 then (pX7_lesserOf a1) else (if a2 = 2 then (pX7_greaterOf a1) else (if a2 = 3 then (if (pX7_hasLine u w a1) = 0 then (-4) else ((pX7_of u w a1 1) - (1 : Int32))) else (if a2 = 4 then (if (pX7_hasLine u w a1) = 0 then (-4) else (pX7_of u w a1 (a2 - (2 : Int32)))) else (if a2 = 5 then (if (pX7_hasLine u w a1) = 0 then (-4) else (pX7_of u w a1 (a2 - (2 : Int32)))) else (if a2 = 6 then (pX7_ones ((pX7_smoke u w) &&& (pX7_bothOf u w a1))) else (-1)))))))))
set_option maxHeartbeats 4000000 in
set_option maxRecDepth 100000 in
theorem kX7_gangway (l : Launch) (D : va_G) (cyC cyI cyO : ClassId) (A : Nat → Nat) (u : (Nat → Nat → Int32)) (w : (Nat → Int32)) (a1 : Int32) (a2 : Int32) (hm3 : ((u 0) 2) ≤ 3) : RO l yX7_gangway (Ty yX7_gangway cX7_gangway 3 (some .int)) ({ frames := 4, cells := 0, slots := 0, locals := 91 } : Room) D cyC cyI cyO (wM cyI A u w) [.ref (A 0), .int a1, .int a2] (pX7_gangway u w a1 a2) := by
  refine Met.ofW (cc := cX7_gangway) (maxL := 3) (ret := (some .int)) (by decide) rfl ?_
  intro p e s m args below meth cd s₁ B hml hv
  obtain ⟨rfl, hP, hK⟩ := hv
  have hx := B.exec
  have hb := B.bytes
  have hr := B.returns
  have hts : ∀ w ∈ TB, w.before ([.ref (A 0), .int a1, .int a2] : List Value).toArray s = true := fun w h => atoms_spec (ws := (Ty yX7_gangway cX7_gangway 3 (some .int))) B.pre w (List.mem_cons_of_mem _ h)
  have hown : s.vm.findClass RX7 = some m.cls := findClass_of_methodNamed B.named
  have hlocks := B.notSynchronized
  have hl := lv_entry ([.ref (A 0), .int a1, .int a2]) (n := 3) (Nat.le_of_ble_eq_true rfl)
  rw [lg_entry_eq]
  generalize (lg_sl ([.ref (A 0), .int a1, .int a2]) ++ List.replicate (3 - (lg_sl ([.ref (A 0), .int a1, .int a2])).length) Slot.unset).toArray = ls at hl ⊢
  have hl : lv_has ls 3 [(0, .ref (A 0)), (1, .int a1), (2, .int a2)] := hl
  refine lv_iload_n hx hb dX7_gangway_0 rfl (lv_at hl 1 rfl) ?_
  refine rS (As := [.int a1]) (rest := []) hx hb hml hown hts hl.1 (kX7_isGangway l D cyC cyI cyO a1) bS_X7_isGangway  wml_RX7_29 ⟨rfl, rfl⟩ ⟨Nat.le_of_ble_eq_true rfl, Nat.le_of_ble_eq_true rfl, Nat.zero_le _, Nat.zero_le _⟩ [] rfl hP hK rfl rfl (Nat.le_of_ble_eq_true rfl) dX7_gangway_1 ?_
  refine lv_if_ne (tgt := 9) hx hb dX7_gangway_4 (by decide) (fun c_1 => ?_) (fun c_1 => ?_)
  · refine lv_iload_n hx hb dX7_gangway_9 rfl (lv_at hl 2 rfl) ?_
    by_cases c_2 : a2 = 0
    · refine lv_tableIn (off := 42) (tgt := 52) hx hb dX7_gangway_10 (by rw [c_2]; decide) (by rw [c_2]; decide) (by rw [c_2]; rfl) (by decide) ?_
      refine lv_aload_n hx hb dX7_gangway_52 rfl (lv_at hl 0 rfl) ?_
      refine lv_iload_n hx hb dX7_gangway_53 rfl (lv_at hl 1 rfl) ?_
      refine lv_iconst (v := 0) hx hb dX7_gangway_54 (by decide) ?_
      refine rV (As := [.int a1, .int 0]) (rest := []) hx hb hml hown hts hl.1 (kX7_of l D cyC cyI cyO A u w a1 0 (ig7_in c_1) (vp_lit (by decide))) bV_X7_of  wml_RX7_52 ⟨rfl, rfl⟩ ⟨Nat.le_of_ble_eq_true rfl, Nat.le_of_ble_eq_true rfl, Nat.zero_le _, Nat.zero_le _⟩ [0, 1, 2, 3, 4, 5, 6] rfl hP hK 0 rfl rfl rfl rfl rfl (Nat.le_of_ble_eq_true rfl) dX7_gangway_55 ?_
      have e9 : (pX7_of u w a1 0) = (pX7_gangway u w a1 a2) := by simp only [pX7_gangway, if_neg c_1, if_pos c_2]
      exact W.iret (v := (pX7_of u w a1 0)) hx hb hr (fun t ht hW => ⟨_, rfl, e9, ht⟩) (fun _ h => absurd h List.not_mem_nil) dX7_gangway_58
    · by_cases c_3 : a2 = 1
      · refine lv_tableIn (off := 49) (tgt := 59) hx hb dX7_gangway_10 (by rw [c_3]; decide) (by rw [c_3]; decide) (by rw [c_3]; rfl) (by decide) ?_
        refine lv_iload_n hx hb dX7_gangway_59 rfl (lv_at hl 1 rfl) ?_
        refine rS (As := [.int a1]) (rest := []) hx hb hml hown hts hl.1 (kX7_lesserOf l D cyC cyI cyO a1) bS_X7_lesserOf  wml_RX7_45 ⟨rfl, rfl⟩ ⟨Nat.le_of_ble_eq_true rfl, Nat.le_of_ble_eq_true rfl, Nat.zero_le _, Nat.zero_le _⟩ [] rfl hP hK rfl rfl (Nat.le_of_ble_eq_true rfl) dX7_gangway_60 ?_
        have e9 : (pX7_lesserOf a1) = (pX7_gangway u w a1 a2) := by simp only [pX7_gangway, if_neg c_1, if_neg c_2, if_pos c_3]
        exact W.iret (v := (pX7_lesserOf a1)) hx hb hr (fun t ht hW => ⟨_, rfl, e9, ht⟩) (fun _ h => absurd h List.not_mem_nil) dX7_gangway_63
      · by_cases c_4 : a2 = 2
        · refine lv_tableIn (off := 54) (tgt := 64) hx hb dX7_gangway_10 (by rw [c_4]; decide) (by rw [c_4]; decide) (by rw [c_4]; rfl) (by decide) ?_
          refine lv_iload_n hx hb dX7_gangway_64 rfl (lv_at hl 1 rfl) ?_
          refine rS (As := [.int a1]) (rest := []) hx hb hml hown hts hl.1 (kX7_greaterOf l D cyC cyI cyO a1) bS_X7_greaterOf  wml_RX7_49 ⟨rfl, rfl⟩ ⟨Nat.le_of_ble_eq_true rfl, Nat.le_of_ble_eq_true rfl, Nat.zero_le _, Nat.zero_le _⟩ [] rfl hP hK rfl rfl (Nat.le_of_ble_eq_true rfl) dX7_gangway_65 ?_
          have e9 : (pX7_greaterOf a1) = (pX7_gangway u w a1 a2) := by simp only [pX7_gangway, if_neg c_1, if_neg c_2, if_neg c_3, if_pos c_4]
          exact W.iret (v := (pX7_greaterOf a1)) hx hb hr (fun t ht hW => ⟨_, rfl, e9, ht⟩) (fun _ h => absurd h List.not_mem_nil) dX7_gangway_68
        · by_cases c_5 : a2 = 3
          · refine lv_tableIn (off := 59) (tgt := 69) hx hb dX7_gangway_10 (by rw [c_5]; decide) (by rw [c_5]; decide) (by rw [c_5]; rfl) (by decide) ?_
            refine lv_aload_n hx hb dX7_gangway_69 rfl (lv_at hl 0 rfl) ?_
            refine lv_iload_n hx hb dX7_gangway_70 rfl (lv_at hl 1 rfl) ?_
            refine rV (As := [.int a1]) (rest := []) hx hb hml hown hts hl.1 (kX7_hasLine l D cyC cyI cyO A u w a1 (ig7_in c_1)) bV_X7_hasLine  wml_RX7_56 ⟨rfl, rfl⟩ ⟨Nat.le_of_ble_eq_true rfl, Nat.le_of_ble_eq_true rfl, Nat.zero_le _, Nat.zero_le _⟩ [0, 1, 2, 3, 4, 5, 6] rfl hP hK 0 rfl rfl rfl rfl rfl (Nat.le_of_ble_eq_true rfl) dX7_gangway_71 ?_
            refine lv_if_eq (tgt := 88) hx hb dX7_gangway_74 (by decide) (fun c_9 => ?_) (fun c_9 => ?_)
            · refine lv_bipush (v := (-4)) hx hb dX7_gangway_88 (by decide) ?_
              have e9 : (-4) = (pX7_gangway u w a1 a2) := by simp only [pX7_gangway, if_neg c_1, if_neg c_2, if_neg c_3, if_neg c_4, if_pos c_5, if_pos c_9]
              exact W.iret (v := (-4)) hx hb hr (fun t ht hW => ⟨_, rfl, e9, ht⟩) (fun _ h => absurd h List.not_mem_nil) dX7_gangway_90
            · refine lv_aload_n hx hb dX7_gangway_77 rfl (lv_at hl 0 rfl) ?_
              refine lv_iload_n hx hb dX7_gangway_78 rfl (lv_at hl 1 rfl) ?_
              refine lv_iconst (v := 1) hx hb dX7_gangway_79 (by decide) ?_
              refine rV (As := [.int a1, .int 1]) (rest := []) hx hb hml hown hts hl.1 (kX7_of l D cyC cyI cyO A u w a1 1 (ig7_in c_1) (vp_lit (by decide))) bV_X7_of  wml_RX7_52 ⟨rfl, rfl⟩ ⟨Nat.le_of_ble_eq_true rfl, Nat.le_of_ble_eq_true rfl, Nat.zero_le _, Nat.zero_le _⟩ [0, 1, 2, 3, 4, 5, 6] rfl hP hK 0 rfl rfl rfl rfl rfl (Nat.le_of_ble_eq_true rfl) dX7_gangway_80 ?_
              refine lv_iconst (v := 1) hx hb dX7_gangway_83 (by decide) ?_
              refine lv_isub hx hb dX7_gangway_84 ?_
              refine lv_goto (tgt := 90) hx hb dX7_gangway_85 (by decide) ?_
              have e9 : ((pX7_of u w a1 1) - (1 : Int32)) = (pX7_gangway u w a1 a2) := by simp only [pX7_gangway, if_neg c_1, if_neg c_2, if_neg c_3, if_neg c_4, if_pos c_5, if_neg c_9]
              exact W.iret (v := ((pX7_of u w a1 1) - (1 : Int32))) hx hb hr (fun t ht hW => ⟨_, rfl, e9, ht⟩) (fun _ h => absurd h List.not_mem_nil) dX7_gangway_90
          · by_cases c_6 : a2 = 4
            · refine lv_tableIn (off := 81) (tgt := 91) hx hb dX7_gangway_10 (by rw [c_6]; decide) (by rw [c_6]; decide) (by rw [c_6]; rfl) (by decide) ?_
              refine lv_aload_n hx hb dX7_gangway_91 rfl (lv_at hl 0 rfl) ?_
              refine lv_iload_n hx hb dX7_gangway_92 rfl (lv_at hl 1 rfl) ?_
              refine rV (As := [.int a1]) (rest := []) hx hb hml hown hts hl.1 (kX7_hasLine l D cyC cyI cyO A u w a1 (ig7_in c_1)) bV_X7_hasLine  wml_RX7_56 ⟨rfl, rfl⟩ ⟨Nat.le_of_ble_eq_true rfl, Nat.le_of_ble_eq_true rfl, Nat.zero_le _, Nat.zero_le _⟩ [0, 1, 2, 3, 4, 5, 6] rfl hP hK 0 rfl rfl rfl rfl rfl (Nat.le_of_ble_eq_true rfl) dX7_gangway_93 ?_
              refine lv_if_eq (tgt := 110) hx hb dX7_gangway_96 (by decide) (fun c_10 => ?_) (fun c_10 => ?_)
              · refine lv_bipush (v := (-4)) hx hb dX7_gangway_110 (by decide) ?_
                have e9 : (-4) = (pX7_gangway u w a1 a2) := by simp only [pX7_gangway, if_neg c_1, if_neg c_2, if_neg c_3, if_neg c_4, if_neg c_5, if_pos c_6, if_pos c_10]
                exact W.iret (v := (-4)) hx hb hr (fun t ht hW => ⟨_, rfl, e9, ht⟩) (fun _ h => absurd h List.not_mem_nil) dX7_gangway_112
              · refine lv_aload_n hx hb dX7_gangway_99 rfl (lv_at hl 0 rfl) ?_
                refine lv_iload_n hx hb dX7_gangway_100 rfl (lv_at hl 1 rfl) ?_
                refine lv_iload_n hx hb dX7_gangway_101 rfl (lv_at hl 2 rfl) ?_
                refine lv_iconst (v := 2) hx hb dX7_gangway_102 (by decide) ?_
                refine lv_isub hx hb dX7_gangway_103 ?_
                refine rV (As := [.int a1, .int (a2 - (2 : Int32))]) (rest := []) hx hb hml hown hts hl.1 (kX7_of l D cyC cyI cyO A u w a1 (a2 - (2 : Int32)) (ig7_in c_1) (by rw [c_6]; exact vp_lit (by decide))) bV_X7_of  wml_RX7_52 ⟨rfl, rfl⟩ ⟨Nat.le_of_ble_eq_true rfl, Nat.le_of_ble_eq_true rfl, Nat.zero_le _, Nat.zero_le _⟩ [0, 1, 2, 3, 4, 5, 6] rfl hP hK 0 rfl rfl rfl rfl rfl (Nat.le_of_ble_eq_true rfl) dX7_gangway_104 ?_
                refine lv_goto (tgt := 112) hx hb dX7_gangway_107 (by decide) ?_
                have e9 : (pX7_of u w a1 (a2 - (2 : Int32))) = (pX7_gangway u w a1 a2) := by simp only [pX7_gangway, if_neg c_1, if_neg c_2, if_neg c_3, if_neg c_4, if_neg c_5, if_pos c_6, if_neg c_10]
                exact W.iret (v := (pX7_of u w a1 (a2 - (2 : Int32)))) hx hb hr (fun t ht hW => ⟨_, rfl, e9, ht⟩) (fun _ h => absurd h List.not_mem_nil) dX7_gangway_112
            · by_cases c_7 : a2 = 5
              · refine lv_tableIn (off := 81) (tgt := 91) hx hb dX7_gangway_10 (by rw [c_7]; decide) (by rw [c_7]; decide) (by rw [c_7]; rfl) (by decide) ?_
                refine lv_aload_n hx hb dX7_gangway_91 rfl (lv_at hl 0 rfl) ?_
                refine lv_iload_n hx hb dX7_gangway_92 rfl (lv_at hl 1 rfl) ?_
                refine rV (As := [.int a1]) (rest := []) hx hb hml hown hts hl.1 (kX7_hasLine l D cyC cyI cyO A u w a1 (ig7_in c_1)) bV_X7_hasLine  wml_RX7_56 ⟨rfl, rfl⟩ ⟨Nat.le_of_ble_eq_true rfl, Nat.le_of_ble_eq_true rfl, Nat.zero_le _, Nat.zero_le _⟩ [0, 1, 2, 3, 4, 5, 6] rfl hP hK 0 rfl rfl rfl rfl rfl (Nat.le_of_ble_eq_true rfl) dX7_gangway_93 ?_
                refine lv_if_eq (tgt := 110) hx hb dX7_gangway_96 (by decide) (fun c_11 => ?_) (fun c_11 => ?_)
                · refine lv_bipush (v := (-4)) hx hb dX7_gangway_110 (by decide) ?_
                  have e9 : (-4) = (pX7_gangway u w a1 a2) := by simp only [pX7_gangway, if_neg c_1, if_neg c_2, if_neg c_3, if_neg c_4, if_neg c_5, if_neg c_6, if_pos c_7, if_pos c_11]
                  exact W.iret (v := (-4)) hx hb hr (fun t ht hW => ⟨_, rfl, e9, ht⟩) (fun _ h => absurd h List.not_mem_nil) dX7_gangway_112
                · refine lv_aload_n hx hb dX7_gangway_99 rfl (lv_at hl 0 rfl) ?_
                  refine lv_iload_n hx hb dX7_gangway_100 rfl (lv_at hl 1 rfl) ?_
                  refine lv_iload_n hx hb dX7_gangway_101 rfl (lv_at hl 2 rfl) ?_
                  refine lv_iconst (v := 2) hx hb dX7_gangway_102 (by decide) ?_
                  refine lv_isub hx hb dX7_gangway_103 ?_
                  refine rV (As := [.int a1, .int (a2 - (2 : Int32))]) (rest := []) hx hb hml hown hts hl.1 (kX7_of l D cyC cyI cyO A u w a1 (a2 - (2 : Int32)) (ig7_in c_1) (by rw [c_7]; exact vp_lit (by decide))) bV_X7_of  wml_RX7_52 ⟨rfl, rfl⟩ ⟨Nat.le_of_ble_eq_true rfl, Nat.le_of_ble_eq_true rfl, Nat.zero_le _, Nat.zero_le _⟩ [0, 1, 2, 3, 4, 5, 6] rfl hP hK 0 rfl rfl rfl rfl rfl (Nat.le_of_ble_eq_true rfl) dX7_gangway_104 ?_
                  refine lv_goto (tgt := 112) hx hb dX7_gangway_107 (by decide) ?_
                  have e9 : (pX7_of u w a1 (a2 - (2 : Int32))) = (pX7_gangway u w a1 a2) := by simp only [pX7_gangway, if_neg c_1, if_neg c_2, if_neg c_3, if_neg c_4, if_neg c_5, if_neg c_6, if_pos c_7, if_neg c_11]
                  exact W.iret (v := (pX7_of u w a1 (a2 - (2 : Int32)))) hx hb hr (fun t ht hW => ⟨_, rfl, e9, ht⟩) (fun _ h => absurd h List.not_mem_nil) dX7_gangway_112
              · by_cases c_8 : a2 = 6
                · refine lv_tableIn (off := 103) (tgt := 113) hx hb dX7_gangway_10 (by rw [c_8]; decide) (by rw [c_8]; decide) (by rw [c_8]; rfl) (by decide) ?_
                  refine lv_aload_n hx hb dX7_gangway_113 rfl (lv_at hl 0 rfl) ?_
                  refine rV (As := []) (rest := []) hx hb hml hown hts hl.1 (kX7_smoke l D cyC cyI cyO A u w hm3) bV_X7_smoke  wml_RX7_78 ⟨rfl, rfl⟩ ⟨Nat.le_of_ble_eq_true rfl, Nat.le_of_ble_eq_true rfl, Nat.zero_le _, Nat.zero_le _⟩ [0, 1, 2, 3, 4, 5, 6] rfl hP hK 0 rfl rfl rfl rfl rfl (Nat.le_of_ble_eq_true rfl) dX7_gangway_114 ?_
                  refine lv_aload_n hx hb dX7_gangway_117 rfl (lv_at hl 0 rfl) ?_
                  refine lv_iload_n hx hb dX7_gangway_118 rfl (lv_at hl 1 rfl) ?_
                  refine rV (As := [.int a1]) (rest := [.int (pX7_smoke u w)]) hx hb hml hown hts hl.1 (kX7_bothOf l D cyC cyI cyO A u w a1) bV_X7_bothOf  wml_RX7_75 ⟨rfl, rfl⟩ ⟨Nat.le_of_ble_eq_true rfl, Nat.le_of_ble_eq_true rfl, Nat.zero_le _, Nat.zero_le _⟩ [0, 1, 2, 3, 4, 5, 6] rfl hP hK 0 rfl rfl rfl rfl rfl (Nat.le_of_ble_eq_true rfl) dX7_gangway_119 ?_
                  refine lv_iand hx hb dX7_gangway_122 ?_
                  refine rS (As := [.int ((pX7_smoke u w) &&& (pX7_bothOf u w a1))]) (rest := []) hx hb hml hown hts hl.1 (kX7_ones l D cyC cyI cyO ((pX7_smoke u w) &&& (pX7_bothOf u w a1))) bS_X7_ones  wml_RX7_112 ⟨rfl, rfl⟩ ⟨Nat.le_of_ble_eq_true rfl, Nat.le_of_ble_eq_true rfl, Nat.zero_le _, Nat.zero_le _⟩ [] rfl hP hK rfl rfl (Nat.le_of_ble_eq_true rfl) dX7_gangway_123 ?_
                  have e9 : (pX7_ones ((pX7_smoke u w) &&& (pX7_bothOf u w a1))) = (pX7_gangway u w a1 a2) := by simp only [pX7_gangway, if_neg c_1, if_neg c_2, if_neg c_3, if_neg c_4, if_neg c_5, if_neg c_6, if_neg c_7, if_pos c_8]
                  exact W.iret (v := (pX7_ones ((pX7_smoke u w) &&& (pX7_bothOf u w a1)))) hx hb hr (fun t ht hW => ⟨_, rfl, e9, ht⟩) (fun _ h => absurd h List.not_mem_nil) dX7_gangway_126
                · have nc_2 : (a2 : Int32).toInt ≠ 0 := fun h => c_2 (Int32.toInt_inj.mp (h.trans (by decide)))
                  have nc_3 : (a2 : Int32).toInt ≠ 1 := fun h => c_3 (Int32.toInt_inj.mp (h.trans (by decide)))
                  have nc_4 : (a2 : Int32).toInt ≠ 2 := fun h => c_4 (Int32.toInt_inj.mp (h.trans (by decide)))
                  have nc_5 : (a2 : Int32).toInt ≠ 3 := fun h => c_5 (Int32.toInt_inj.mp (h.trans (by decide)))
                  have nc_6 : (a2 : Int32).toInt ≠ 4 := fun h => c_6 (Int32.toInt_inj.mp (h.trans (by decide)))
                  have nc_7 : (a2 : Int32).toInt ≠ 5 := fun h => c_7 (Int32.toInt_inj.mp (h.trans (by decide)))
                  have nc_8 : (a2 : Int32).toInt ≠ 6 := fun h => c_8 (Int32.toInt_inj.mp (h.trans (by decide)))
                  refine lv_tableOut (tgt := 127) hx hb dX7_gangway_10 (by omega) (by decide) ?_
                  refine lv_iconst (v := (-1)) hx hb dX7_gangway_127 (by decide) ?_
                  have e9 : (-1) = (pX7_gangway u w a1 a2) := by simp only [pX7_gangway, if_neg c_1, if_neg c_2, if_neg c_3, if_neg c_4, if_neg c_5, if_neg c_6, if_neg c_7, if_neg c_8]
                  exact W.iret (v := (-1)) hx hb hr (fun t ht hW => ⟨_, rfl, e9, ht⟩) (fun _ h => absurd h List.not_mem_nil) dX7_gangway_128
  · refine lv_iconst (v := (-1)) hx hb dX7_gangway_7 (by decide) ?_
    have e9 : (-1) = (pX7_gangway u w a1 a2) := by simp only [pX7_gangway, if_pos c_1]
    exact W.iret (v := (-1)) hx hb hr (fun t ht hW => ⟨_, rfl, e9, ht⟩) (fun _ h => absurd h List.not_mem_nil) dX7_gangway_8
theorem bV_X7_gangway : BV RX7 yX7_gangway cX7_gangway 3 (some .int) 2 := ⟨wcd_X7_gangway, wim_X7_gangway, wse_X7_gangway, win_RX7, by decide +kernel⟩
def pX7_ownerOf (u : (Nat → Nat → Int32)) (w : (Nat → Int32)) (a1 : Int32) (a2 : Int32) : Int32 := (if (pX7_isOwner a1) = 0 then (-1) else (if a2 = 0 then (pX7_ofOwner u w a1 a2) else (if a2 = 1 then (pX7_ofOwner u w a1 a2) else (if a2 = 2 then (pX7_ofOwner u w a1 a2) else (if a2 = 3 then (pX7_ofOwner u w a1 a2) else (if a2 = 4 then (pX7_linesOf u w a1 0) else (if a2 = 5 then (pX7_linesOf u w a1 1) else (if a2 = 6 then (pX7_walksNow u w a1) else (if a2 = 7 then (pX7_ofOwner u w a1 4) else (if a2 = 8 then (pX7_hangsNow u w a1) else (-1)))))))))))
set_option maxHeartbeats 4000000 in
set_option maxRecDepth 100000 in
theorem kX7_ownerOf (l : Launch) (D : va_G) (cyC cyI cyO : ClassId) (A : Nat → Nat) (u : (Nat → Nat → Int32)) (w : (Nat → Int32)) (a1 : Int32) (a2 : Int32) (hm3 : ((u 0) 2) ≤ 3) : RO l yX7_ownerOf (Ty yX7_ownerOf cX7_ownerOf 3 (some .int)) ({ frames := 6, cells := 0, slots := 0, locals := 136 } : Room) D cyC cyI cyO (wM cyI A u w) [.ref (A 0), .int a1, .int a2] (pX7_ownerOf u w a1 a2) := by
  refine Met.ofW (cc := cX7_ownerOf) (maxL := 3) (ret := (some .int)) (by decide) rfl ?_
  intro p e s m args below meth cd s₁ B hml hv
  obtain ⟨rfl, hP, hK⟩ := hv
  have hx := B.exec
  have hb := B.bytes
  have hr := B.returns
  have hts : ∀ w ∈ TB, w.before ([.ref (A 0), .int a1, .int a2] : List Value).toArray s = true := fun w h => atoms_spec (ws := (Ty yX7_ownerOf cX7_ownerOf 3 (some .int))) B.pre w (List.mem_cons_of_mem _ h)
  have hown : s.vm.findClass RX7 = some m.cls := findClass_of_methodNamed B.named
  have hlocks := B.notSynchronized
  have hl := lv_entry ([.ref (A 0), .int a1, .int a2]) (n := 3) (Nat.le_of_ble_eq_true rfl)
  rw [lg_entry_eq]
  generalize (lg_sl ([.ref (A 0), .int a1, .int a2]) ++ List.replicate (3 - (lg_sl ([.ref (A 0), .int a1, .int a2])).length) Slot.unset).toArray = ls at hl ⊢
  have hl : lv_has ls 3 [(0, .ref (A 0)), (1, .int a1), (2, .int a2)] := hl
  refine lv_iload_n hx hb dX7_ownerOf_0 rfl (lv_at hl 1 rfl) ?_
  refine rS (As := [.int a1]) (rest := []) hx hb hml hown hts hl.1 (kX7_isOwner l D cyC cyI cyO a1) bS_X7_isOwner  wml_RX7_127 ⟨rfl, rfl⟩ ⟨Nat.le_of_ble_eq_true rfl, Nat.le_of_ble_eq_true rfl, Nat.zero_le _, Nat.zero_le _⟩ [] rfl hP hK rfl rfl (Nat.le_of_ble_eq_true rfl) dX7_ownerOf_1 ?_
  refine lv_if_ne (tgt := 9) hx hb dX7_ownerOf_4 (by decide) (fun c_1 => ?_) (fun c_1 => ?_)
  · refine lv_iload_n hx hb dX7_ownerOf_9 rfl (lv_at hl 2 rfl) ?_
    by_cases c_2 : a2 = 0
    · refine lv_tableIn (off := 50) (tgt := 60) hx hb dX7_ownerOf_10 (by rw [c_2]; decide) (by rw [c_2]; decide) (by rw [c_2]; rfl) (by decide) ?_
      refine lv_aload_n hx hb dX7_ownerOf_60 rfl (lv_at hl 0 rfl) ?_
      refine lv_iload_n hx hb dX7_ownerOf_61 rfl (lv_at hl 1 rfl) ?_
      refine lv_iload_n hx hb dX7_ownerOf_62 rfl (lv_at hl 2 rfl) ?_
      refine rV (As := [.int a1, .int a2]) (rest := []) hx hb hml hown hts hl.1 (kX7_ofOwner l D cyC cyI cyO A u w a1 a2 (io7_in c_1) (by rw [c_2]; exact vp_lit (by decide))) bV_X7_ofOwner  wml_RX7_72 ⟨rfl, rfl⟩ ⟨Nat.le_of_ble_eq_true rfl, Nat.le_of_ble_eq_true rfl, Nat.zero_le _, Nat.zero_le _⟩ [0, 1, 2, 3, 4, 5, 6] rfl hP hK 0 rfl rfl rfl rfl rfl (Nat.le_of_ble_eq_true rfl) dX7_ownerOf_63 ?_
      have e9 : (pX7_ofOwner u w a1 a2) = (pX7_ownerOf u w a1 a2) := by simp only [pX7_ownerOf, if_neg c_1, if_pos c_2]
      exact W.iret (v := (pX7_ofOwner u w a1 a2)) hx hb hr (fun t ht hW => ⟨_, rfl, e9, ht⟩) (fun _ h => absurd h List.not_mem_nil) dX7_ownerOf_66
    · by_cases c_3 : a2 = 1
      · refine lv_tableIn (off := 50) (tgt := 60) hx hb dX7_ownerOf_10 (by rw [c_3]; decide) (by rw [c_3]; decide) (by rw [c_3]; rfl) (by decide) ?_
        refine lv_aload_n hx hb dX7_ownerOf_60 rfl (lv_at hl 0 rfl) ?_
        refine lv_iload_n hx hb dX7_ownerOf_61 rfl (lv_at hl 1 rfl) ?_
        refine lv_iload_n hx hb dX7_ownerOf_62 rfl (lv_at hl 2 rfl) ?_
        refine rV (As := [.int a1, .int a2]) (rest := []) hx hb hml hown hts hl.1 (kX7_ofOwner l D cyC cyI cyO A u w a1 a2 (io7_in c_1) (by rw [c_3]; exact vp_lit (by decide))) bV_X7_ofOwner  wml_RX7_72 ⟨rfl, rfl⟩ ⟨Nat.le_of_ble_eq_true rfl, Nat.le_of_ble_eq_true rfl, Nat.zero_le _, Nat.zero_le _⟩ [0, 1, 2, 3, 4, 5, 6] rfl hP hK 0 rfl rfl rfl rfl rfl (Nat.le_of_ble_eq_true rfl) dX7_ownerOf_63 ?_
        have e9 : (pX7_ofOwner u w a1 a2) = (pX7_ownerOf u w a1 a2) := by simp only [pX7_ownerOf, if_neg c_1, if_neg c_2, if_pos c_3]
        exact W.iret (v := (pX7_ofOwner u w a1 a2)) hx hb hr (fun t ht hW => ⟨_, rfl, e9, ht⟩) (fun _ h => absurd h List.not_mem_nil) dX7_ownerOf_66
      · by_cases c_4 : a2 = 2
        · refine lv_tableIn (off := 50) (tgt := 60) hx hb dX7_ownerOf_10 (by rw [c_4]; decide) (by rw [c_4]; decide) (by rw [c_4]; rfl) (by decide) ?_
          refine lv_aload_n hx hb dX7_ownerOf_60 rfl (lv_at hl 0 rfl) ?_
          refine lv_iload_n hx hb dX7_ownerOf_61 rfl (lv_at hl 1 rfl) ?_
          refine lv_iload_n hx hb dX7_ownerOf_62 rfl (lv_at hl 2 rfl) ?_
          refine rV (As := [.int a1, .int a2]) (rest := []) hx hb hml hown hts hl.1 (kX7_ofOwner l D cyC cyI cyO A u w a1 a2 (io7_in c_1) (by rw [c_4]; exact vp_lit (by decide))) bV_X7_ofOwner  wml_RX7_72 ⟨rfl, rfl⟩ ⟨Nat.le_of_ble_eq_true rfl, Nat.le_of_ble_eq_true rfl, Nat.zero_le _, Nat.zero_le _⟩ [0, 1, 2, 3, 4, 5, 6] rfl hP hK 0 rfl rfl rfl rfl rfl (Nat.le_of_ble_eq_true rfl) dX7_ownerOf_63 ?_
          have e9 : (pX7_ofOwner u w a1 a2) = (pX7_ownerOf u w a1 a2) := by simp only [pX7_ownerOf, if_neg c_1, if_neg c_2, if_neg c_3, if_pos c_4]
          exact W.iret (v := (pX7_ofOwner u w a1 a2)) hx hb hr (fun t ht hW => ⟨_, rfl, e9, ht⟩) (fun _ h => absurd h List.not_mem_nil) dX7_ownerOf_66
        · by_cases c_5 : a2 = 3
          · refine lv_tableIn (off := 50) (tgt := 60) hx hb dX7_ownerOf_10 (by rw [c_5]; decide) (by rw [c_5]; decide) (by rw [c_5]; rfl) (by decide) ?_
            refine lv_aload_n hx hb dX7_ownerOf_60 rfl (lv_at hl 0 rfl) ?_
            refine lv_iload_n hx hb dX7_ownerOf_61 rfl (lv_at hl 1 rfl) ?_
            refine lv_iload_n hx hb dX7_ownerOf_62 rfl (lv_at hl 2 rfl) ?_
            refine rV (As := [.int a1, .int a2]) (rest := []) hx hb hml hown hts hl.1 (kX7_ofOwner l D cyC cyI cyO A u w a1 a2 (io7_in c_1) (by rw [c_5]; exact vp_lit (by decide))) bV_X7_ofOwner  wml_RX7_72 ⟨rfl, rfl⟩ ⟨Nat.le_of_ble_eq_true rfl, Nat.le_of_ble_eq_true rfl, Nat.zero_le _, Nat.zero_le _⟩ [0, 1, 2, 3, 4, 5, 6] rfl hP hK 0 rfl rfl rfl rfl rfl (Nat.le_of_ble_eq_true rfl) dX7_ownerOf_63 ?_
            have e9 : (pX7_ofOwner u w a1 a2) = (pX7_ownerOf u w a1 a2) := by simp only [pX7_ownerOf, if_neg c_1, if_neg c_2, if_neg c_3, if_neg c_4, if_pos c_5]
            exact W.iret (v := (pX7_ofOwner u w a1 a2)) hx hb hr (fun t ht hW => ⟨_, rfl, e9, ht⟩) (fun _ h => absurd h List.not_mem_nil) dX7_ownerOf_66
          · by_cases c_6 : a2 = 4
            · refine lv_tableIn (off := 57) (tgt := 67) hx hb dX7_ownerOf_10 (by rw [c_6]; decide) (by rw [c_6]; decide) (by rw [c_6]; rfl) (by decide) ?_
              refine lv_aload_n hx hb dX7_ownerOf_67 rfl (lv_at hl 0 rfl) ?_
              refine lv_iload_n hx hb dX7_ownerOf_68 rfl (lv_at hl 1 rfl) ?_
              refine lv_iload_n hx hb dX7_ownerOf_69 rfl (lv_at hl 2 rfl) ?_
              refine lv_iconst (v := 5) hx hb dX7_ownerOf_70 (by decide) ?_
              refine lv_icmp_ne (tgt := 78) hx hb dX7_ownerOf_71 (by decide) (fun c_11 => ?_) (fun c_11 => absurd c_11 (fun h => absurd (c_6.symm.trans h) (by decide)))
              refine lv_iconst (v := 0) hx hb dX7_ownerOf_78 (by decide) ?_
              refine rV (As := [.int a1, .int 0]) (rest := []) hx hb hml hown hts hl.1 (kX7_linesOf l D cyC cyI cyO A u w a1 0) bV_X7_linesOf  wml_RX7_207 ⟨rfl, rfl⟩ ⟨Nat.le_of_ble_eq_true rfl, Nat.le_of_ble_eq_true rfl, Nat.zero_le _, Nat.zero_le _⟩ [0, 1, 2, 3, 4, 5, 6] rfl hP hK 0 rfl rfl rfl rfl rfl (Nat.le_of_ble_eq_true rfl) dX7_ownerOf_79 ?_
              have e9 : (pX7_linesOf u w a1 0) = (pX7_ownerOf u w a1 a2) := by simp only [pX7_ownerOf, if_neg c_1, if_neg c_2, if_neg c_3, if_neg c_4, if_neg c_5, if_pos c_6]
              exact W.iret (v := (pX7_linesOf u w a1 0)) hx hb hr (fun t ht hW => ⟨_, rfl, e9, ht⟩) (fun _ h => absurd h List.not_mem_nil) dX7_ownerOf_82
            · by_cases c_7 : a2 = 5
              · refine lv_tableIn (off := 57) (tgt := 67) hx hb dX7_ownerOf_10 (by rw [c_7]; decide) (by rw [c_7]; decide) (by rw [c_7]; rfl) (by decide) ?_
                refine lv_aload_n hx hb dX7_ownerOf_67 rfl (lv_at hl 0 rfl) ?_
                refine lv_iload_n hx hb dX7_ownerOf_68 rfl (lv_at hl 1 rfl) ?_
                refine lv_iload_n hx hb dX7_ownerOf_69 rfl (lv_at hl 2 rfl) ?_
                refine lv_iconst (v := 5) hx hb dX7_ownerOf_70 (by decide) ?_
                refine lv_icmp_ne (tgt := 78) hx hb dX7_ownerOf_71 (by decide) (fun c_12 => absurd c_7 c_12) (fun c_12 => ?_)
                refine lv_iconst (v := 1) hx hb dX7_ownerOf_74 (by decide) ?_
                refine lv_goto (tgt := 79) hx hb dX7_ownerOf_75 (by decide) ?_
                refine rV (As := [.int a1, .int 1]) (rest := []) hx hb hml hown hts hl.1 (kX7_linesOf l D cyC cyI cyO A u w a1 1) bV_X7_linesOf  wml_RX7_207 ⟨rfl, rfl⟩ ⟨Nat.le_of_ble_eq_true rfl, Nat.le_of_ble_eq_true rfl, Nat.zero_le _, Nat.zero_le _⟩ [0, 1, 2, 3, 4, 5, 6] rfl hP hK 0 rfl rfl rfl rfl rfl (Nat.le_of_ble_eq_true rfl) dX7_ownerOf_79 ?_
                have e9 : (pX7_linesOf u w a1 1) = (pX7_ownerOf u w a1 a2) := by simp only [pX7_ownerOf, if_neg c_1, if_neg c_2, if_neg c_3, if_neg c_4, if_neg c_5, if_neg c_6, if_pos c_7]
                exact W.iret (v := (pX7_linesOf u w a1 1)) hx hb hr (fun t ht hW => ⟨_, rfl, e9, ht⟩) (fun _ h => absurd h List.not_mem_nil) dX7_ownerOf_82
              · by_cases c_8 : a2 = 6
                · refine lv_tableIn (off := 73) (tgt := 83) hx hb dX7_ownerOf_10 (by rw [c_8]; decide) (by rw [c_8]; decide) (by rw [c_8]; rfl) (by decide) ?_
                  refine lv_aload_n hx hb dX7_ownerOf_83 rfl (lv_at hl 0 rfl) ?_
                  refine lv_iload_n hx hb dX7_ownerOf_84 rfl (lv_at hl 1 rfl) ?_
                  refine rV (As := [.int a1]) (rest := []) hx hb hml hown hts hl.1 (kX7_walksNow l D cyC cyI cyO A u w a1 (io7_in c_1)) bV_X7_walksNow  wml_RX7_211 ⟨rfl, rfl⟩ ⟨Nat.le_of_ble_eq_true rfl, Nat.le_of_ble_eq_true rfl, Nat.zero_le _, Nat.zero_le _⟩ [0, 1, 2, 3, 4, 5, 6] rfl hP hK 0 rfl rfl rfl rfl rfl (Nat.le_of_ble_eq_true rfl) dX7_ownerOf_85 ?_
                  have e9 : (pX7_walksNow u w a1) = (pX7_ownerOf u w a1 a2) := by simp only [pX7_ownerOf, if_neg c_1, if_neg c_2, if_neg c_3, if_neg c_4, if_neg c_5, if_neg c_6, if_neg c_7, if_pos c_8]
                  exact W.iret (v := (pX7_walksNow u w a1)) hx hb hr (fun t ht hW => ⟨_, rfl, e9, ht⟩) (fun _ h => absurd h List.not_mem_nil) dX7_ownerOf_88
                · by_cases c_9 : a2 = 7
                  · refine lv_tableIn (off := 79) (tgt := 89) hx hb dX7_ownerOf_10 (by rw [c_9]; decide) (by rw [c_9]; decide) (by rw [c_9]; rfl) (by decide) ?_
                    refine lv_aload_n hx hb dX7_ownerOf_89 rfl (lv_at hl 0 rfl) ?_
                    refine lv_iload_n hx hb dX7_ownerOf_90 rfl (lv_at hl 1 rfl) ?_
                    refine lv_iconst (v := 4) hx hb dX7_ownerOf_91 (by decide) ?_
                    refine rV (As := [.int a1, .int 4]) (rest := []) hx hb hml hown hts hl.1 (kX7_ofOwner l D cyC cyI cyO A u w a1 4 (io7_in c_1) (vp_lit (by decide))) bV_X7_ofOwner  wml_RX7_72 ⟨rfl, rfl⟩ ⟨Nat.le_of_ble_eq_true rfl, Nat.le_of_ble_eq_true rfl, Nat.zero_le _, Nat.zero_le _⟩ [0, 1, 2, 3, 4, 5, 6] rfl hP hK 0 rfl rfl rfl rfl rfl (Nat.le_of_ble_eq_true rfl) dX7_ownerOf_92 ?_
                    have e9 : (pX7_ofOwner u w a1 4) = (pX7_ownerOf u w a1 a2) := by simp only [pX7_ownerOf, if_neg c_1, if_neg c_2, if_neg c_3, if_neg c_4, if_neg c_5, if_neg c_6, if_neg c_7, if_neg c_8, if_pos c_9]
                    exact W.iret (v := (pX7_ofOwner u w a1 4)) hx hb hr (fun t ht hW => ⟨_, rfl, e9, ht⟩) (fun _ h => absurd h List.not_mem_nil) dX7_ownerOf_95
                  · by_cases c_10 : a2 = 8
                    · refine lv_tableIn (off := 86) (tgt := 96) hx hb dX7_ownerOf_10 (by rw [c_10]; decide) (by rw [c_10]; decide) (by rw [c_10]; rfl) (by decide) ?_
                      refine lv_aload_n hx hb dX7_ownerOf_96 rfl (lv_at hl 0 rfl) ?_
                      refine lv_iload_n hx hb dX7_ownerOf_97 rfl (lv_at hl 1 rfl) ?_
                      refine rV (As := [.int a1]) (rest := []) hx hb hml hown hts hl.1 (kX7_hangsNow l D cyC cyI cyO A u w a1 (io7_in c_1) hm3) bV_X7_hangsNow  wml_RX7_214 ⟨rfl, rfl⟩ ⟨Nat.le_of_ble_eq_true rfl, Nat.le_of_ble_eq_true rfl, Nat.zero_le _, Nat.zero_le _⟩ [0, 1, 2, 3, 4, 5, 6] rfl hP hK 0 rfl rfl rfl rfl rfl (Nat.le_of_ble_eq_true rfl) dX7_ownerOf_98 ?_
                      have e9 : (pX7_hangsNow u w a1) = (pX7_ownerOf u w a1 a2) := by simp only [pX7_ownerOf, if_neg c_1, if_neg c_2, if_neg c_3, if_neg c_4, if_neg c_5, if_neg c_6, if_neg c_7, if_neg c_8, if_neg c_9, if_pos c_10]
                      exact W.iret (v := (pX7_hangsNow u w a1)) hx hb hr (fun t ht hW => ⟨_, rfl, e9, ht⟩) (fun _ h => absurd h List.not_mem_nil) dX7_ownerOf_101
                    · have nc_2 : (a2 : Int32).toInt ≠ 0 := fun h => c_2 (Int32.toInt_inj.mp (h.trans (by decide)))
                      have nc_3 : (a2 : Int32).toInt ≠ 1 := fun h => c_3 (Int32.toInt_inj.mp (h.trans (by decide)))
                      have nc_4 : (a2 : Int32).toInt ≠ 2 := fun h => c_4 (Int32.toInt_inj.mp (h.trans (by decide)))
                      have nc_5 : (a2 : Int32).toInt ≠ 3 := fun h => c_5 (Int32.toInt_inj.mp (h.trans (by decide)))
                      have nc_6 : (a2 : Int32).toInt ≠ 4 := fun h => c_6 (Int32.toInt_inj.mp (h.trans (by decide)))
                      have nc_7 : (a2 : Int32).toInt ≠ 5 := fun h => c_7 (Int32.toInt_inj.mp (h.trans (by decide)))
                      have nc_8 : (a2 : Int32).toInt ≠ 6 := fun h => c_8 (Int32.toInt_inj.mp (h.trans (by decide)))
                      have nc_9 : (a2 : Int32).toInt ≠ 7 := fun h => c_9 (Int32.toInt_inj.mp (h.trans (by decide)))
                      have nc_10 : (a2 : Int32).toInt ≠ 8 := fun h => c_10 (Int32.toInt_inj.mp (h.trans (by decide)))
                      refine lv_tableOut (tgt := 102) hx hb dX7_ownerOf_10 (by omega) (by decide) ?_
                      refine lv_iconst (v := (-1)) hx hb dX7_ownerOf_102 (by decide) ?_
                      have e9 : (-1) = (pX7_ownerOf u w a1 a2) := by simp only [pX7_ownerOf, if_neg c_1, if_neg c_2, if_neg c_3, if_neg c_4, if_neg c_5, if_neg c_6, if_neg c_7, if_neg c_8, if_neg c_9, if_neg c_10]
                      exact W.iret (v := (-1)) hx hb hr (fun t ht hW => ⟨_, rfl, e9, ht⟩) (fun _ h => absurd h List.not_mem_nil) dX7_ownerOf_103
  · refine lv_iconst (v := (-1)) hx hb dX7_ownerOf_7 (by decide) ?_
    have e9 : (-1) = (pX7_ownerOf u w a1 a2) := by simp only [pX7_ownerOf, if_pos c_1]
    exact W.iret (v := (-1)) hx hb hr (fun t ht hW => ⟨_, rfl, e9, ht⟩) (fun _ h => absurd h List.not_mem_nil) dX7_ownerOf_8
theorem bV_X7_ownerOf : BV RX7 yX7_ownerOf cX7_ownerOf 3 (some .int) 2 := ⟨wcd_X7_ownerOf, wim_X7_ownerOf, wse_X7_ownerOf, win_RX7, by decide +kernel⟩
def pX7_whyNotHang (u : (Nat → Nat → Int32)) (w : (Nat → Int32)) (a1 : Int32) (a2 : Int32) : Int32 := (if (pX7_isOwner a1) = 0 then (-1) else (if (pX7_isGangway a2) = 0 then (-1) else (pX7_reasonToHang u w a1 a2)))
set_option maxHeartbeats 4000000 in
set_option maxRecDepth 100000 in
theorem kX7_whyNotHang (l : Launch) (D : va_G) (cyC cyI cyO : ClassId) (A : Nat → Nat) (u : (Nat → Nat → Int32)) (w : (Nat → Int32)) (a1 : Int32) (a2 : Int32) (hm3 : ((u 0) 2) ≤ 3) : RO l yX7_whyNotHang (Ty yX7_whyNotHang cX7_whyNotHang 3 (some .int)) ({ frames := 5, cells := 0, slots := 0, locals := 113 } : Room) D cyC cyI cyO (wM cyI A u w) [.ref (A 0), .int a1, .int a2] (pX7_whyNotHang u w a1 a2) := by
  refine Met.ofW (cc := cX7_whyNotHang) (maxL := 3) (ret := (some .int)) (by decide) rfl ?_
  intro p e s m args below meth cd s₁ B hml hv
  obtain ⟨rfl, hP, hK⟩ := hv
  have hx := B.exec
  have hb := B.bytes
  have hr := B.returns
  have hts : ∀ w ∈ TB, w.before ([.ref (A 0), .int a1, .int a2] : List Value).toArray s = true := fun w h => atoms_spec (ws := (Ty yX7_whyNotHang cX7_whyNotHang 3 (some .int))) B.pre w (List.mem_cons_of_mem _ h)
  have hown : s.vm.findClass RX7 = some m.cls := findClass_of_methodNamed B.named
  have hlocks := B.notSynchronized
  have hl := lv_entry ([.ref (A 0), .int a1, .int a2]) (n := 3) (Nat.le_of_ble_eq_true rfl)
  rw [lg_entry_eq]
  generalize (lg_sl ([.ref (A 0), .int a1, .int a2]) ++ List.replicate (3 - (lg_sl ([.ref (A 0), .int a1, .int a2])).length) Slot.unset).toArray = ls at hl ⊢
  have hl : lv_has ls 3 [(0, .ref (A 0)), (1, .int a1), (2, .int a2)] := hl
  refine lv_iload_n hx hb dX7_whyNotHang_0 rfl (lv_at hl 1 rfl) ?_
  refine rS (As := [.int a1]) (rest := []) hx hb hml hown hts hl.1 (kX7_isOwner l D cyC cyI cyO a1) bS_X7_isOwner  wml_RX7_127 ⟨rfl, rfl⟩ ⟨Nat.le_of_ble_eq_true rfl, Nat.le_of_ble_eq_true rfl, Nat.zero_le _, Nat.zero_le _⟩ [] rfl hP hK rfl rfl (Nat.le_of_ble_eq_true rfl) dX7_whyNotHang_1 ?_
  refine lv_if_eq (tgt := 23) hx hb dX7_whyNotHang_4 (by decide) (fun c_1 => ?_) (fun c_1 => ?_)
  · refine lv_iconst (v := (-1)) hx hb dX7_whyNotHang_23 (by decide) ?_
    have e9 : (-1) = (pX7_whyNotHang u w a1 a2) := by simp only [pX7_whyNotHang, if_pos c_1]
    exact W.iret (v := (-1)) hx hb hr (fun t ht hW => ⟨_, rfl, e9, ht⟩) (fun _ h => absurd h List.not_mem_nil) dX7_whyNotHang_24
  · refine lv_iload_n hx hb dX7_whyNotHang_7 rfl (lv_at hl 2 rfl) ?_
    refine rS (As := [.int a2]) (rest := []) hx hb hml hown hts hl.1 (kX7_isGangway l D cyC cyI cyO a2) bS_X7_isGangway  wml_RX7_29 ⟨rfl, rfl⟩ ⟨Nat.le_of_ble_eq_true rfl, Nat.le_of_ble_eq_true rfl, Nat.zero_le _, Nat.zero_le _⟩ [] rfl hP hK rfl rfl (Nat.le_of_ble_eq_true rfl) dX7_whyNotHang_8 ?_
    refine lv_if_eq (tgt := 23) hx hb dX7_whyNotHang_11 (by decide) (fun c_2 => ?_) (fun c_2 => ?_)
    · refine lv_iconst (v := (-1)) hx hb dX7_whyNotHang_23 (by decide) ?_
      have e9 : (-1) = (pX7_whyNotHang u w a1 a2) := by simp only [pX7_whyNotHang, if_neg c_1, if_pos c_2]
      exact W.iret (v := (-1)) hx hb hr (fun t ht hW => ⟨_, rfl, e9, ht⟩) (fun _ h => absurd h List.not_mem_nil) dX7_whyNotHang_24
    · refine lv_aload_n hx hb dX7_whyNotHang_14 rfl (lv_at hl 0 rfl) ?_
      refine lv_iload_n hx hb dX7_whyNotHang_15 rfl (lv_at hl 1 rfl) ?_
      refine lv_iload_n hx hb dX7_whyNotHang_16 rfl (lv_at hl 2 rfl) ?_
      refine rV (As := [.int a1, .int a2]) (rest := []) hx hb hml hown hts hl.1 (kX7_reasonToHang l D cyC cyI cyO A u w a1 a2 (io7_in c_1) (ig7_in c_2) hm3) bV_X7_reasonToHang  wml_RX7_95 ⟨rfl, rfl⟩ ⟨Nat.le_of_ble_eq_true rfl, Nat.le_of_ble_eq_true rfl, Nat.zero_le _, Nat.zero_le _⟩ [0, 1, 2, 3, 4, 5, 6] rfl hP hK 0 rfl rfl rfl rfl rfl (Nat.le_of_ble_eq_true rfl) dX7_whyNotHang_17 ?_
      refine lv_goto (tgt := 24) hx hb dX7_whyNotHang_20 (by decide) ?_
      have e9 : (pX7_reasonToHang u w a1 a2) = (pX7_whyNotHang u w a1 a2) := by simp only [pX7_whyNotHang, if_neg c_1, if_neg c_2]
      exact W.iret (v := (pX7_reasonToHang u w a1 a2)) hx hb hr (fun t ht hW => ⟨_, rfl, e9, ht⟩) (fun _ h => absurd h List.not_mem_nil) dX7_whyNotHang_24
theorem bV_X7_whyNotHang : BV RX7 yX7_whyNotHang cX7_whyNotHang 3 (some .int) 2 := ⟨wcd_X7_whyNotHang, wim_X7_whyNotHang, wse_X7_whyNotHang, win_RX7, by decide +kernel⟩
def pX7_strongest (u : (Nat → Nat → Int32)) (w : (Nat → Int32)) (a1 : Int32) (a2 : Int32) (a3 : Int32) : Int32 := (if (pX7_isRoof a1) = 0 then (-1) else (if (pX7_isRoof a2) = 0 then (-1) else (if (pX7_in a3 0 1) = 0 then (-1) else (pX7_strengthOf u w a1 a2))))
set_option maxHeartbeats 4000000 in
set_option maxRecDepth 100000 in
theorem kX7_strongest (l : Launch) (D : va_G) (cyC cyI cyO : ClassId) (A : Nat → Nat) (u : (Nat → Nat → Int32)) (w : (Nat → Int32)) (a1 : Int32) (a2 : Int32) (a3 : Int32) : RO l yX7_strongest (Ty yX7_strongest cX7_strongest 4 (some .int)) ({ frames := 4, cells := 0, slots := 0, locals := 93 } : Room) D cyC cyI cyO (wM cyI A u w) [.ref (A 0), .int a1, .int a2, .int a3] (pX7_strongest u w a1 a2 a3) := by
  refine Met.ofW (cc := cX7_strongest) (maxL := 4) (ret := (some .int)) (by decide) rfl ?_
  intro p e s m args below meth cd s₁ B hml hv
  obtain ⟨rfl, hP, hK⟩ := hv
  have hx := B.exec
  have hb := B.bytes
  have hr := B.returns
  have hts : ∀ w ∈ TB, w.before ([.ref (A 0), .int a1, .int a2, .int a3] : List Value).toArray s = true := fun w h => atoms_spec (ws := (Ty yX7_strongest cX7_strongest 4 (some .int))) B.pre w (List.mem_cons_of_mem _ h)
  have hown : s.vm.findClass RX7 = some m.cls := findClass_of_methodNamed B.named
  have hlocks := B.notSynchronized
  have hl := lv_entry ([.ref (A 0), .int a1, .int a2, .int a3]) (n := 4) (Nat.le_of_ble_eq_true rfl)
  rw [lg_entry_eq]
  generalize (lg_sl ([.ref (A 0), .int a1, .int a2, .int a3]) ++ List.replicate (4 - (lg_sl ([.ref (A 0), .int a1, .int a2, .int a3])).length) Slot.unset).toArray = ls at hl ⊢
  have hl : lv_has ls 4 [(0, .ref (A 0)), (1, .int a1), (2, .int a2), (3, .int a3)] := hl
  refine lv_iload_n hx hb dX7_strongest_0 rfl (lv_at hl 1 rfl) ?_
  refine rS (As := [.int a1]) (rest := []) hx hb hml hown hts hl.1 (kX7_isRoof l D cyC cyI cyO a1) bS_X7_isRoof  wml_RX7_121 ⟨rfl, rfl⟩ ⟨Nat.le_of_ble_eq_true rfl, Nat.le_of_ble_eq_true rfl, Nat.zero_le _, Nat.zero_le _⟩ [] rfl hP hK rfl rfl (Nat.le_of_ble_eq_true rfl) dX7_strongest_1 ?_
  refine lv_if_eq (tgt := 32) hx hb dX7_strongest_4 (by decide) (fun c_1 => ?_) (fun c_1 => ?_)
  · refine lv_iconst (v := (-1)) hx hb dX7_strongest_32 (by decide) ?_
    have e9 : (-1) = (pX7_strongest u w a1 a2 a3) := by simp only [pX7_strongest, if_pos c_1]
    exact W.iret (v := (-1)) hx hb hr (fun t ht hW => ⟨_, rfl, e9, ht⟩) (fun _ h => absurd h List.not_mem_nil) dX7_strongest_33
  · refine lv_iload_n hx hb dX7_strongest_7 rfl (lv_at hl 2 rfl) ?_
    refine rS (As := [.int a2]) (rest := []) hx hb hml hown hts hl.1 (kX7_isRoof l D cyC cyI cyO a2) bS_X7_isRoof  wml_RX7_121 ⟨rfl, rfl⟩ ⟨Nat.le_of_ble_eq_true rfl, Nat.le_of_ble_eq_true rfl, Nat.zero_le _, Nat.zero_le _⟩ [] rfl hP hK rfl rfl (Nat.le_of_ble_eq_true rfl) dX7_strongest_8 ?_
    refine lv_if_eq (tgt := 32) hx hb dX7_strongest_11 (by decide) (fun c_2 => ?_) (fun c_2 => ?_)
    · refine lv_iconst (v := (-1)) hx hb dX7_strongest_32 (by decide) ?_
      have e9 : (-1) = (pX7_strongest u w a1 a2 a3) := by simp only [pX7_strongest, if_neg c_1, if_pos c_2]
      exact W.iret (v := (-1)) hx hb hr (fun t ht hW => ⟨_, rfl, e9, ht⟩) (fun _ h => absurd h List.not_mem_nil) dX7_strongest_33
    · refine lv_iload_n hx hb dX7_strongest_14 rfl (lv_at hl 3 rfl) ?_
      refine lv_iconst (v := 0) hx hb dX7_strongest_15 (by decide) ?_
      refine lv_iconst (v := 1) hx hb dX7_strongest_16 (by decide) ?_
      refine rS (As := [.int a3, .int 0, .int 1]) (rest := []) hx hb hml hown hts hl.1 (kX7_in l D cyC cyI cyO a3 0 1) bS_X7_in  wml_RX7_41 ⟨rfl, rfl⟩ ⟨Nat.le_of_ble_eq_true rfl, Nat.le_of_ble_eq_true rfl, Nat.zero_le _, Nat.zero_le _⟩ [] rfl hP hK rfl rfl (Nat.le_of_ble_eq_true rfl) dX7_strongest_17 ?_
      refine lv_if_eq (tgt := 32) hx hb dX7_strongest_20 (by decide) (fun c_3 => ?_) (fun c_3 => ?_)
      · refine lv_iconst (v := (-1)) hx hb dX7_strongest_32 (by decide) ?_
        have e9 : (-1) = (pX7_strongest u w a1 a2 a3) := by simp only [pX7_strongest, if_neg c_1, if_neg c_2, if_pos c_3]
        exact W.iret (v := (-1)) hx hb hr (fun t ht hW => ⟨_, rfl, e9, ht⟩) (fun _ h => absurd h List.not_mem_nil) dX7_strongest_33
      · refine lv_aload_n hx hb dX7_strongest_23 rfl (lv_at hl 0 rfl) ?_
        refine lv_iload_n hx hb dX7_strongest_24 rfl (lv_at hl 1 rfl) ?_
        refine lv_iload_n hx hb dX7_strongest_25 rfl (lv_at hl 2 rfl) ?_
        refine rV (As := [.int a1, .int a2]) (rest := []) hx hb hml hown hts hl.1 (kX7_strengthOf l D cyC cyI cyO A u w a1 a2) bV_X7_strengthOf  wml_RX7_217 ⟨rfl, rfl⟩ ⟨Nat.le_of_ble_eq_true rfl, Nat.le_of_ble_eq_true rfl, Nat.zero_le _, Nat.zero_le _⟩ [0, 1, 2, 3, 4, 5, 6] rfl hP hK 0 rfl rfl rfl rfl rfl (Nat.le_of_ble_eq_true rfl) dX7_strongest_26 ?_
        refine lv_goto (tgt := 33) hx hb dX7_strongest_29 (by decide) ?_
        have e9 : (pX7_strengthOf u w a1 a2) = (pX7_strongest u w a1 a2 a3) := by simp only [pX7_strongest, if_neg c_1, if_neg c_2, if_neg c_3]
        exact W.iret (v := (pX7_strengthOf u w a1 a2)) hx hb hr (fun t ht hW => ⟨_, rfl, e9, ht⟩) (fun _ h => absurd h List.not_mem_nil) dX7_strongest_33
theorem bV_X7_strongest : BV RX7 yX7_strongest cX7_strongest 4 (some .int) 3 := ⟨wcd_X7_strongest, wim_X7_strongest, wse_X7_strongest, win_RX7, by decide +kernel⟩
def pX7_steps (u : (Nat → Nat → Int32)) (w : (Nat → Int32)) (a1 : Int32) (a2 : Int32) : Int32 := (if (pX7_isOwner a1) = 0 then (-1) else (if (pX7_isRoof a2) = 0 then (-1) else (pX7_stepsOf u w a1 a2)))
set_option maxHeartbeats 4000000 in
set_option maxRecDepth 100000 in
theorem kX7_steps (l : Launch) (D : va_G) (cyC cyI cyO : ClassId) (A : Nat → Nat) (u : (Nat → Nat → Int32)) (w : (Nat → Int32)) (a1 : Int32) (a2 : Int32) : RO l yX7_steps (Ty yX7_steps cX7_steps 3 (some .int)) ({ frames := 5, cells := 0, slots := 0, locals := 116 } : Room) D cyC cyI cyO (wM cyI A u w) [.ref (A 0), .int a1, .int a2] (pX7_steps u w a1 a2) := by
  refine Met.ofW (cc := cX7_steps) (maxL := 3) (ret := (some .int)) (by decide) rfl ?_
  intro p e s m args below meth cd s₁ B hml hv
  obtain ⟨rfl, hP, hK⟩ := hv
  have hx := B.exec
  have hb := B.bytes
  have hr := B.returns
  have hts : ∀ w ∈ TB, w.before ([.ref (A 0), .int a1, .int a2] : List Value).toArray s = true := fun w h => atoms_spec (ws := (Ty yX7_steps cX7_steps 3 (some .int))) B.pre w (List.mem_cons_of_mem _ h)
  have hown : s.vm.findClass RX7 = some m.cls := findClass_of_methodNamed B.named
  have hlocks := B.notSynchronized
  have hl := lv_entry ([.ref (A 0), .int a1, .int a2]) (n := 3) (Nat.le_of_ble_eq_true rfl)
  rw [lg_entry_eq]
  generalize (lg_sl ([.ref (A 0), .int a1, .int a2]) ++ List.replicate (3 - (lg_sl ([.ref (A 0), .int a1, .int a2])).length) Slot.unset).toArray = ls at hl ⊢
  have hl : lv_has ls 3 [(0, .ref (A 0)), (1, .int a1), (2, .int a2)] := hl
  refine lv_iload_n hx hb dX7_steps_0 rfl (lv_at hl 1 rfl) ?_
  refine rS (As := [.int a1]) (rest := []) hx hb hml hown hts hl.1 (kX7_isOwner l D cyC cyI cyO a1) bS_X7_isOwner  wml_RX7_127 ⟨rfl, rfl⟩ ⟨Nat.le_of_ble_eq_true rfl, Nat.le_of_ble_eq_true rfl, Nat.zero_le _, Nat.zero_le _⟩ [] rfl hP hK rfl rfl (Nat.le_of_ble_eq_true rfl) dX7_steps_1 ?_
  refine lv_if_eq (tgt := 23) hx hb dX7_steps_4 (by decide) (fun c_1 => ?_) (fun c_1 => ?_)
  · refine lv_iconst (v := (-1)) hx hb dX7_steps_23 (by decide) ?_
    have e9 : (-1) = (pX7_steps u w a1 a2) := by simp only [pX7_steps, if_pos c_1]
    exact W.iret (v := (-1)) hx hb hr (fun t ht hW => ⟨_, rfl, e9, ht⟩) (fun _ h => absurd h List.not_mem_nil) dX7_steps_24
  · refine lv_iload_n hx hb dX7_steps_7 rfl (lv_at hl 2 rfl) ?_
    refine rS (As := [.int a2]) (rest := []) hx hb hml hown hts hl.1 (kX7_isRoof l D cyC cyI cyO a2) bS_X7_isRoof  wml_RX7_121 ⟨rfl, rfl⟩ ⟨Nat.le_of_ble_eq_true rfl, Nat.le_of_ble_eq_true rfl, Nat.zero_le _, Nat.zero_le _⟩ [] rfl hP hK rfl rfl (Nat.le_of_ble_eq_true rfl) dX7_steps_8 ?_
    refine lv_if_eq (tgt := 23) hx hb dX7_steps_11 (by decide) (fun c_2 => ?_) (fun c_2 => ?_)
    · refine lv_iconst (v := (-1)) hx hb dX7_steps_23 (by decide) ?_
      have e9 : (-1) = (pX7_steps u w a1 a2) := by simp only [pX7_steps, if_neg c_1, if_pos c_2]
      exact W.iret (v := (-1)) hx hb hr (fun t ht hW => ⟨_, rfl, e9, ht⟩) (fun _ h => absurd h List.not_mem_nil) dX7_steps_24
    · refine lv_aload_n hx hb dX7_steps_14 rfl (lv_at hl 0 rfl) ?_
      refine lv_iload_n hx hb dX7_steps_15 rfl (lv_at hl 1 rfl) ?_
      refine lv_iload_n hx hb dX7_steps_16 rfl (lv_at hl 2 rfl) ?_
      refine rV (As := [.int a1, .int a2]) (rest := []) hx hb hml hown hts hl.1 (kX7_stepsOf l D cyC cyI cyO A u w a1 a2 (io7_in c_1)) bV_X7_stepsOf  wml_RX7_223 ⟨rfl, rfl⟩ ⟨Nat.le_of_ble_eq_true rfl, Nat.le_of_ble_eq_true rfl, Nat.zero_le _, Nat.zero_le _⟩ [0, 1, 2, 3, 4, 5, 6] rfl hP hK 0 rfl rfl rfl rfl rfl (Nat.le_of_ble_eq_true rfl) dX7_steps_17 ?_
      refine lv_goto (tgt := 24) hx hb dX7_steps_20 (by decide) ?_
      have e9 : (pX7_stepsOf u w a1 a2) = (pX7_steps u w a1 a2) := by simp only [pX7_steps, if_neg c_1, if_neg c_2]
      exact W.iret (v := (pX7_stepsOf u w a1 a2)) hx hb hr (fun t ht hW => ⟨_, rfl, e9, ht⟩) (fun _ h => absurd h List.not_mem_nil) dX7_steps_24
theorem bV_X7_steps : BV RX7 yX7_steps cX7_steps 3 (some .int) 2 := ⟨wcd_X7_steps, wim_X7_steps, wse_X7_steps, win_RX7, by decide +kernel⟩
def pX7_count (u : (Nat → Nat → Int32)) (w : (Nat → Int32)) (a1 : Int32) : Int32 := (if a1 = 0 then ((u 0) (a1).toNatClampNeg) else (if a1 = 1 then ((u 0) (a1).toNatClampNeg) else (if a1 = 2 then (pX7_ones ((u 0) 8)) else (if a1 = 3 then (pX7_ones (pX7_smoke u w)) else (if a1 = 4 then (pX7_ones ((u 0) 9)) else (if a1 = 5 then (pX7_linesNow u w) else (if a1 = 6 then (pX7_cleanNow u w) else (if a1 = 7 then (pX7_sumOf u w 2) else (if a1 = 8 then (pX7_sumOf u w 3) else (if a1 = 9 then (pX7_smokedBy u w ((u 0) 1)) else (if a1 = 10 then ((u 0) ((((4 : Int32) + a1) - (10 : Int32))).toNatClampNeg) else (if a1 = 11 then ((u 0) ((((4 : Int32) + a1) - (10 : Int32))).toNatClampNeg) else (if a1 = 12 then ((u 0) ((((4 : Int32) + a1) - (10 : Int32))).toNatClampNeg) else (if a1 = 13 then ((u 0) ((((4 : Int32) + a1) - (10 : Int32))).toNatClampNeg) else (if a1 = 14 then ((u 0) 2) else (if a1 = 15 then ((u 0) 3) else (if a1 = 16 then (w 7) else (if a1 = 17 then (w 3) else (-1)))))))))))))))))))
set_option maxHeartbeats 4000000 in
set_option maxRecDepth 100000 in
theorem kX7_count (l : Launch) (D : va_G) (cyC cyI cyO : ClassId) (A : Nat → Nat) (u : (Nat → Nat → Int32)) (w : (Nat → Int32)) (a1 : Int32) (hm3 : ((u 0) 2) ≤ 3) : RO l yX7_count (Ty yX7_count cX7_count 2 (some .int)) ({ frames := 4, cells := 0, slots := 0, locals := 95 } : Room) D cyC cyI cyO (wM cyI A u w) [.ref (A 0), .int a1] (pX7_count u w a1) := by
  refine Met.ofW (cc := cX7_count) (maxL := 2) (ret := (some .int)) (by decide) rfl ?_
  intro p e s m args below meth cd s₁ B hml hv
  obtain ⟨rfl, hP, hK⟩ := hv
  have hx := B.exec
  have hb := B.bytes
  have hr := B.returns
  have hts : ∀ w ∈ TB, w.before ([.ref (A 0), .int a1] : List Value).toArray s = true := fun w h => atoms_spec (ws := (Ty yX7_count cX7_count 2 (some .int))) B.pre w (List.mem_cons_of_mem _ h)
  have hown : s.vm.findClass RX7 = some m.cls := findClass_of_methodNamed B.named
  have hlocks := B.notSynchronized
  have hl := lv_entry ([.ref (A 0), .int a1]) (n := 2) (Nat.le_of_ble_eq_true rfl)
  rw [lg_entry_eq]
  generalize (lg_sl ([.ref (A 0), .int a1]) ++ List.replicate (2 - (lg_sl ([.ref (A 0), .int a1])).length) Slot.unset).toArray = ls at hl ⊢
  have hl : lv_has ls 2 [(0, .ref (A 0)), (1, .int a1)] := hl
  refine lv_iload_n hx hb dX7_count_0 rfl (lv_at hl 1 rfl) ?_
  by_cases c_1 : a1 = 0
  · refine lv_tableIn (off := 87) (tgt := 88) hx hb dX7_count_1 (by rw [c_1]; decide) (by rw [c_1]; decide) (by rw [c_1]; rfl) (by decide) ?_
    refine lv_aload_n hx hb dX7_count_88 rfl (lv_at hl 0 rfl) ?_
    refine va_get (D := D) (ci := 6) (v := .ref (A 1)) (C := RX7) (T := TX7) (N := 15) hx hb hts inT_X7 hown hK.1 hP 0 rfl rfl 0 (by decide) (hts _ wfl_RX7_7) (fun _ h9 => h9) rfl dX7_count_89 ?_
    refine lv_iload_n hx hb dX7_count_92 rfl (lv_at hl 1 rfl) ?_
    refine va_iald (D := D) (f := (u 0)) hx hb hK.1 hP 1 1 rfl rfl (by rw [c_1]; exact vp_lit (by decide)) dX7_count_93 ?_
    have e9 : ((u 0) (a1).toNatClampNeg) = (pX7_count u w a1) := by simp only [pX7_count, if_pos c_1]
    exact W.iret (v := ((u 0) (a1).toNatClampNeg)) hx hb hr (fun t ht hW => ⟨_, rfl, e9, ht⟩) (fun _ h => absurd h List.not_mem_nil) dX7_count_94
  · by_cases c_2 : a1 = 1
    · refine lv_tableIn (off := 87) (tgt := 88) hx hb dX7_count_1 (by rw [c_2]; decide) (by rw [c_2]; decide) (by rw [c_2]; rfl) (by decide) ?_
      refine lv_aload_n hx hb dX7_count_88 rfl (lv_at hl 0 rfl) ?_
      refine va_get (D := D) (ci := 6) (v := .ref (A 1)) (C := RX7) (T := TX7) (N := 15) hx hb hts inT_X7 hown hK.1 hP 0 rfl rfl 0 (by decide) (hts _ wfl_RX7_7) (fun _ h9 => h9) rfl dX7_count_89 ?_
      refine lv_iload_n hx hb dX7_count_92 rfl (lv_at hl 1 rfl) ?_
      refine va_iald (D := D) (f := (u 0)) hx hb hK.1 hP 1 1 rfl rfl (by rw [c_2]; exact vp_lit (by decide)) dX7_count_93 ?_
      have e9 : ((u 0) (a1).toNatClampNeg) = (pX7_count u w a1) := by simp only [pX7_count, if_neg c_1, if_pos c_2]
      exact W.iret (v := ((u 0) (a1).toNatClampNeg)) hx hb hr (fun t ht hW => ⟨_, rfl, e9, ht⟩) (fun _ h => absurd h List.not_mem_nil) dX7_count_94
    · by_cases c_3 : a1 = 2
      · refine lv_tableIn (off := 94) (tgt := 95) hx hb dX7_count_1 (by rw [c_3]; decide) (by rw [c_3]; decide) (by rw [c_3]; rfl) (by decide) ?_
        refine lv_aload_n hx hb dX7_count_95 rfl (lv_at hl 0 rfl) ?_
        refine va_get (D := D) (ci := 6) (v := .ref (A 1)) (C := RX7) (T := TX7) (N := 15) hx hb hts inT_X7 hown hK.1 hP 0 rfl rfl 0 (by decide) (hts _ wfl_RX7_7) (fun _ h9 => h9) rfl dX7_count_96 ?_
        refine lv_bipush (v := 8) hx hb dX7_count_99 (by decide) ?_
        refine va_iald (D := D) (f := (u 0)) hx hb hK.1 hP 1 1 rfl rfl (vp_lit (by decide)) dX7_count_101 ?_
        refine W.eq (g2 := F0 m _ ls [.int ((u 0) 8)]) rfl ?_
        refine rS (As := [.int ((u 0) 8)]) (rest := []) hx hb hml hown hts hl.1 (kX7_ones l D cyC cyI cyO ((u 0) 8)) bS_X7_ones  wml_RX7_112 ⟨rfl, rfl⟩ ⟨Nat.le_of_ble_eq_true rfl, Nat.le_of_ble_eq_true rfl, Nat.zero_le _, Nat.zero_le _⟩ [] rfl hP hK rfl rfl (Nat.le_of_ble_eq_true rfl) dX7_count_102 ?_
        have e9 : (pX7_ones ((u 0) 8)) = (pX7_count u w a1) := by simp only [pX7_count, if_neg c_1, if_neg c_2, if_pos c_3]
        exact W.iret (v := (pX7_ones ((u 0) 8))) hx hb hr (fun t ht hW => ⟨_, rfl, e9, ht⟩) (fun _ h => absurd h List.not_mem_nil) dX7_count_105
      · by_cases c_4 : a1 = 3
        · refine lv_tableIn (off := 105) (tgt := 106) hx hb dX7_count_1 (by rw [c_4]; decide) (by rw [c_4]; decide) (by rw [c_4]; rfl) (by decide) ?_
          refine lv_aload_n hx hb dX7_count_106 rfl (lv_at hl 0 rfl) ?_
          refine rV (As := []) (rest := []) hx hb hml hown hts hl.1 (kX7_smoke l D cyC cyI cyO A u w hm3) bV_X7_smoke  wml_RX7_78 ⟨rfl, rfl⟩ ⟨Nat.le_of_ble_eq_true rfl, Nat.le_of_ble_eq_true rfl, Nat.zero_le _, Nat.zero_le _⟩ [0, 1, 2, 3, 4, 5, 6] rfl hP hK 0 rfl rfl rfl rfl rfl (Nat.le_of_ble_eq_true rfl) dX7_count_107 ?_
          refine rS (As := [.int (pX7_smoke u w)]) (rest := []) hx hb hml hown hts hl.1 (kX7_ones l D cyC cyI cyO (pX7_smoke u w)) bS_X7_ones  wml_RX7_112 ⟨rfl, rfl⟩ ⟨Nat.le_of_ble_eq_true rfl, Nat.le_of_ble_eq_true rfl, Nat.zero_le _, Nat.zero_le _⟩ [] rfl hP hK rfl rfl (Nat.le_of_ble_eq_true rfl) dX7_count_110 ?_
          have e9 : (pX7_ones (pX7_smoke u w)) = (pX7_count u w a1) := by simp only [pX7_count, if_neg c_1, if_neg c_2, if_neg c_3, if_pos c_4]
          exact W.iret (v := (pX7_ones (pX7_smoke u w))) hx hb hr (fun t ht hW => ⟨_, rfl, e9, ht⟩) (fun _ h => absurd h List.not_mem_nil) dX7_count_113
        · by_cases c_5 : a1 = 4
          · refine lv_tableIn (off := 113) (tgt := 114) hx hb dX7_count_1 (by rw [c_5]; decide) (by rw [c_5]; decide) (by rw [c_5]; rfl) (by decide) ?_
            refine lv_aload_n hx hb dX7_count_114 rfl (lv_at hl 0 rfl) ?_
            refine va_get (D := D) (ci := 6) (v := .ref (A 1)) (C := RX7) (T := TX7) (N := 15) hx hb hts inT_X7 hown hK.1 hP 0 rfl rfl 0 (by decide) (hts _ wfl_RX7_7) (fun _ h9 => h9) rfl dX7_count_115 ?_
            refine lv_bipush (v := 9) hx hb dX7_count_118 (by decide) ?_
            refine va_iald (D := D) (f := (u 0)) hx hb hK.1 hP 1 1 rfl rfl (vp_lit (by decide)) dX7_count_120 ?_
            refine W.eq (g2 := F0 m _ ls [.int ((u 0) 9)]) rfl ?_
            refine rS (As := [.int ((u 0) 9)]) (rest := []) hx hb hml hown hts hl.1 (kX7_ones l D cyC cyI cyO ((u 0) 9)) bS_X7_ones  wml_RX7_112 ⟨rfl, rfl⟩ ⟨Nat.le_of_ble_eq_true rfl, Nat.le_of_ble_eq_true rfl, Nat.zero_le _, Nat.zero_le _⟩ [] rfl hP hK rfl rfl (Nat.le_of_ble_eq_true rfl) dX7_count_121 ?_
            have e9 : (pX7_ones ((u 0) 9)) = (pX7_count u w a1) := by simp only [pX7_count, if_neg c_1, if_neg c_2, if_neg c_3, if_neg c_4, if_pos c_5]
            exact W.iret (v := (pX7_ones ((u 0) 9))) hx hb hr (fun t ht hW => ⟨_, rfl, e9, ht⟩) (fun _ h => absurd h List.not_mem_nil) dX7_count_124
          · by_cases c_6 : a1 = 5
            · refine lv_tableIn (off := 124) (tgt := 125) hx hb dX7_count_1 (by rw [c_6]; decide) (by rw [c_6]; decide) (by rw [c_6]; rfl) (by decide) ?_
              refine lv_aload_n hx hb dX7_count_125 rfl (lv_at hl 0 rfl) ?_
              refine rV (As := []) (rest := []) hx hb hml hown hts hl.1 (kX7_linesNow l D cyC cyI cyO A u w) bV_X7_linesNow  wml_RX7_105 ⟨rfl, rfl⟩ ⟨Nat.le_of_ble_eq_true rfl, Nat.le_of_ble_eq_true rfl, Nat.zero_le _, Nat.zero_le _⟩ [0, 1, 2, 3, 4, 5, 6] rfl hP hK 0 rfl rfl rfl rfl rfl (Nat.le_of_ble_eq_true rfl) dX7_count_126 ?_
              have e9 : (pX7_linesNow u w) = (pX7_count u w a1) := by simp only [pX7_count, if_neg c_1, if_neg c_2, if_neg c_3, if_neg c_4, if_neg c_5, if_pos c_6]
              exact W.iret (v := (pX7_linesNow u w)) hx hb hr (fun t ht hW => ⟨_, rfl, e9, ht⟩) (fun _ h => absurd h List.not_mem_nil) dX7_count_129
            · by_cases c_7 : a1 = 6
              · refine lv_tableIn (off := 129) (tgt := 130) hx hb dX7_count_1 (by rw [c_7]; decide) (by rw [c_7]; decide) (by rw [c_7]; rfl) (by decide) ?_
                refine lv_aload_n hx hb dX7_count_130 rfl (lv_at hl 0 rfl) ?_
                refine rV (As := []) (rest := []) hx hb hml hown hts hl.1 (kX7_cleanNow l D cyC cyI cyO A u w) bV_X7_cleanNow  wml_RX7_115 ⟨rfl, rfl⟩ ⟨Nat.le_of_ble_eq_true rfl, Nat.le_of_ble_eq_true rfl, Nat.zero_le _, Nat.zero_le _⟩ [0, 1, 2, 3, 4, 5, 6] rfl hP hK 0 rfl rfl rfl rfl rfl (Nat.le_of_ble_eq_true rfl) dX7_count_131 ?_
                have e9 : (pX7_cleanNow u w) = (pX7_count u w a1) := by simp only [pX7_count, if_neg c_1, if_neg c_2, if_neg c_3, if_neg c_4, if_neg c_5, if_neg c_6, if_pos c_7]
                exact W.iret (v := (pX7_cleanNow u w)) hx hb hr (fun t ht hW => ⟨_, rfl, e9, ht⟩) (fun _ h => absurd h List.not_mem_nil) dX7_count_134
              · by_cases c_8 : a1 = 7
                · refine lv_tableIn (off := 134) (tgt := 135) hx hb dX7_count_1 (by rw [c_8]; decide) (by rw [c_8]; decide) (by rw [c_8]; rfl) (by decide) ?_
                  refine lv_aload_n hx hb dX7_count_135 rfl (lv_at hl 0 rfl) ?_
                  refine lv_iload_n hx hb dX7_count_136 rfl (lv_at hl 1 rfl) ?_
                  refine lv_bipush (v := 7) hx hb dX7_count_137 (by decide) ?_
                  refine lv_icmp_ne (tgt := 146) hx hb dX7_count_139 (by decide) (fun c_19 => absurd c_8 c_19) (fun c_19 => ?_)
                  refine lv_iconst (v := 2) hx hb dX7_count_142 (by decide) ?_
                  refine lv_goto (tgt := 147) hx hb dX7_count_143 (by decide) ?_
                  refine rV (As := [.int 2]) (rest := []) hx hb hml hown hts hl.1 (kX7_sumOf l D cyC cyI cyO A u w 2 (vp_lit (by decide))) bV_X7_sumOf  wml_RX7_226 ⟨rfl, rfl⟩ ⟨Nat.le_of_ble_eq_true rfl, Nat.le_of_ble_eq_true rfl, Nat.zero_le _, Nat.zero_le _⟩ [0, 1, 2, 3, 4, 5, 6] rfl hP hK 0 rfl rfl rfl rfl rfl (Nat.le_of_ble_eq_true rfl) dX7_count_147 ?_
                  have e9 : (pX7_sumOf u w 2) = (pX7_count u w a1) := by simp only [pX7_count, if_neg c_1, if_neg c_2, if_neg c_3, if_neg c_4, if_neg c_5, if_neg c_6, if_neg c_7, if_pos c_8]
                  exact W.iret (v := (pX7_sumOf u w 2)) hx hb hr (fun t ht hW => ⟨_, rfl, e9, ht⟩) (fun _ h => absurd h List.not_mem_nil) dX7_count_150
                · by_cases c_9 : a1 = 8
                  · refine lv_tableIn (off := 134) (tgt := 135) hx hb dX7_count_1 (by rw [c_9]; decide) (by rw [c_9]; decide) (by rw [c_9]; rfl) (by decide) ?_
                    refine lv_aload_n hx hb dX7_count_135 rfl (lv_at hl 0 rfl) ?_
                    refine lv_iload_n hx hb dX7_count_136 rfl (lv_at hl 1 rfl) ?_
                    refine lv_bipush (v := 7) hx hb dX7_count_137 (by decide) ?_
                    refine lv_icmp_ne (tgt := 146) hx hb dX7_count_139 (by decide) (fun c_20 => ?_) (fun c_20 => absurd c_20 (fun h => absurd (c_9.symm.trans h) (by decide)))
                    refine lv_iconst (v := 3) hx hb dX7_count_146 (by decide) ?_
                    refine rV (As := [.int 3]) (rest := []) hx hb hml hown hts hl.1 (kX7_sumOf l D cyC cyI cyO A u w 3 (vp_lit (by decide))) bV_X7_sumOf  wml_RX7_226 ⟨rfl, rfl⟩ ⟨Nat.le_of_ble_eq_true rfl, Nat.le_of_ble_eq_true rfl, Nat.zero_le _, Nat.zero_le _⟩ [0, 1, 2, 3, 4, 5, 6] rfl hP hK 0 rfl rfl rfl rfl rfl (Nat.le_of_ble_eq_true rfl) dX7_count_147 ?_
                    have e9 : (pX7_sumOf u w 3) = (pX7_count u w a1) := by simp only [pX7_count, if_neg c_1, if_neg c_2, if_neg c_3, if_neg c_4, if_neg c_5, if_neg c_6, if_neg c_7, if_neg c_8, if_pos c_9]
                    exact W.iret (v := (pX7_sumOf u w 3)) hx hb hr (fun t ht hW => ⟨_, rfl, e9, ht⟩) (fun _ h => absurd h List.not_mem_nil) dX7_count_150
                  · by_cases c_10 : a1 = 9
                    · refine lv_tableIn (off := 150) (tgt := 151) hx hb dX7_count_1 (by rw [c_10]; decide) (by rw [c_10]; decide) (by rw [c_10]; rfl) (by decide) ?_
                      refine lv_aload_n hx hb dX7_count_151 rfl (lv_at hl 0 rfl) ?_
                      refine lv_aload_n hx hb dX7_count_152 rfl (lv_at hl 0 rfl) ?_
                      refine va_get (D := D) (ci := 6) (v := .ref (A 1)) (C := RX7) (T := TX7) (N := 15) hx hb hts inT_X7 hown hK.1 hP 0 rfl rfl 0 (by decide) (hts _ wfl_RX7_7) (fun _ h9 => h9) rfl dX7_count_153 ?_
                      refine lv_iconst (v := 1) hx hb dX7_count_156 (by decide) ?_
                      refine va_iald (D := D) (f := (u 0)) hx hb hK.1 hP 1 1 rfl rfl (vp_lit (by decide)) dX7_count_157 ?_
                      refine W.eq (g2 := F0 m _ ls [.int ((u 0) 1), .ref (A 0)]) rfl ?_
                      refine rV (As := [.int ((u 0) 1)]) (rest := []) hx hb hml hown hts hl.1 (kX7_smokedBy l D cyC cyI cyO A u w ((u 0) 1) hm3) bV_X7_smokedBy  wml_RX7_229 ⟨rfl, rfl⟩ ⟨Nat.le_of_ble_eq_true rfl, Nat.le_of_ble_eq_true rfl, Nat.zero_le _, Nat.zero_le _⟩ [0, 1, 2, 3, 4, 5, 6] rfl hP hK 0 rfl rfl rfl rfl rfl (Nat.le_of_ble_eq_true rfl) dX7_count_158 ?_
                      have e9 : (pX7_smokedBy u w ((u 0) 1)) = (pX7_count u w a1) := by simp only [pX7_count, if_neg c_1, if_neg c_2, if_neg c_3, if_neg c_4, if_neg c_5, if_neg c_6, if_neg c_7, if_neg c_8, if_neg c_9, if_pos c_10]
                      exact W.iret (v := (pX7_smokedBy u w ((u 0) 1))) hx hb hr (fun t ht hW => ⟨_, rfl, e9, ht⟩) (fun _ h => absurd h List.not_mem_nil) dX7_count_161
                    · by_cases c_11 : a1 = 10
                      · refine lv_tableIn (off := 161) (tgt := 162) hx hb dX7_count_1 (by rw [c_11]; decide) (by rw [c_11]; decide) (by rw [c_11]; rfl) (by decide) ?_
                        refine lv_aload_n hx hb dX7_count_162 rfl (lv_at hl 0 rfl) ?_
                        refine va_get (D := D) (ci := 6) (v := .ref (A 1)) (C := RX7) (T := TX7) (N := 15) hx hb hts inT_X7 hown hK.1 hP 0 rfl rfl 0 (by decide) (hts _ wfl_RX7_7) (fun _ h9 => h9) rfl dX7_count_163 ?_
                        refine lv_iconst (v := 4) hx hb dX7_count_166 (by decide) ?_
                        refine lv_iload_n hx hb dX7_count_167 rfl (lv_at hl 1 rfl) ?_
                        refine lv_iadd hx hb dX7_count_168 ?_
                        refine lv_bipush (v := 10) hx hb dX7_count_169 (by decide) ?_
                        refine lv_isub hx hb dX7_count_171 ?_
                        refine va_iald (D := D) (f := (u 0)) hx hb hK.1 hP 1 1 rfl rfl (by rw [c_11]; exact vp_lit (by decide)) dX7_count_172 ?_
                        have e9 : ((u 0) ((((4 : Int32) + a1) - (10 : Int32))).toNatClampNeg) = (pX7_count u w a1) := by simp only [pX7_count, if_neg c_1, if_neg c_2, if_neg c_3, if_neg c_4, if_neg c_5, if_neg c_6, if_neg c_7, if_neg c_8, if_neg c_9, if_neg c_10, if_pos c_11]
                        exact W.iret (v := ((u 0) ((((4 : Int32) + a1) - (10 : Int32))).toNatClampNeg)) hx hb hr (fun t ht hW => ⟨_, rfl, e9, ht⟩) (fun _ h => absurd h List.not_mem_nil) dX7_count_173
                      · by_cases c_12 : a1 = 11
                        · refine lv_tableIn (off := 161) (tgt := 162) hx hb dX7_count_1 (by rw [c_12]; decide) (by rw [c_12]; decide) (by rw [c_12]; rfl) (by decide) ?_
                          refine lv_aload_n hx hb dX7_count_162 rfl (lv_at hl 0 rfl) ?_
                          refine va_get (D := D) (ci := 6) (v := .ref (A 1)) (C := RX7) (T := TX7) (N := 15) hx hb hts inT_X7 hown hK.1 hP 0 rfl rfl 0 (by decide) (hts _ wfl_RX7_7) (fun _ h9 => h9) rfl dX7_count_163 ?_
                          refine lv_iconst (v := 4) hx hb dX7_count_166 (by decide) ?_
                          refine lv_iload_n hx hb dX7_count_167 rfl (lv_at hl 1 rfl) ?_
                          refine lv_iadd hx hb dX7_count_168 ?_
                          refine lv_bipush (v := 10) hx hb dX7_count_169 (by decide) ?_
                          refine lv_isub hx hb dX7_count_171 ?_
                          refine va_iald (D := D) (f := (u 0)) hx hb hK.1 hP 1 1 rfl rfl (by rw [c_12]; exact vp_lit (by decide)) dX7_count_172 ?_
                          have e9 : ((u 0) ((((4 : Int32) + a1) - (10 : Int32))).toNatClampNeg) = (pX7_count u w a1) := by simp only [pX7_count, if_neg c_1, if_neg c_2, if_neg c_3, if_neg c_4, if_neg c_5, if_neg c_6, if_neg c_7, if_neg c_8, if_neg c_9, if_neg c_10, if_neg c_11, if_pos c_12]
                          exact W.iret (v := ((u 0) ((((4 : Int32) + a1) - (10 : Int32))).toNatClampNeg)) hx hb hr (fun t ht hW => ⟨_, rfl, e9, ht⟩) (fun _ h => absurd h List.not_mem_nil) dX7_count_173
                        · by_cases c_13 : a1 = 12
                          · refine lv_tableIn (off := 161) (tgt := 162) hx hb dX7_count_1 (by rw [c_13]; decide) (by rw [c_13]; decide) (by rw [c_13]; rfl) (by decide) ?_
                            refine lv_aload_n hx hb dX7_count_162 rfl (lv_at hl 0 rfl) ?_
                            refine va_get (D := D) (ci := 6) (v := .ref (A 1)) (C := RX7) (T := TX7) (N := 15) hx hb hts inT_X7 hown hK.1 hP 0 rfl rfl 0 (by decide) (hts _ wfl_RX7_7) (fun _ h9 => h9) rfl dX7_count_163 ?_
                            refine lv_iconst (v := 4) hx hb dX7_count_166 (by decide) ?_
                            refine lv_iload_n hx hb dX7_count_167 rfl (lv_at hl 1 rfl) ?_
                            refine lv_iadd hx hb dX7_count_168 ?_
                            refine lv_bipush (v := 10) hx hb dX7_count_169 (by decide) ?_
                            refine lv_isub hx hb dX7_count_171 ?_
                            refine va_iald (D := D) (f := (u 0)) hx hb hK.1 hP 1 1 rfl rfl (by rw [c_13]; exact vp_lit (by decide)) dX7_count_172 ?_
                            have e9 : ((u 0) ((((4 : Int32) + a1) - (10 : Int32))).toNatClampNeg) = (pX7_count u w a1) := by simp only [pX7_count, if_neg c_1, if_neg c_2, if_neg c_3, if_neg c_4, if_neg c_5, if_neg c_6, if_neg c_7, if_neg c_8, if_neg c_9, if_neg c_10, if_neg c_11, if_neg c_12, if_pos c_13]
                            exact W.iret (v := ((u 0) ((((4 : Int32) + a1) - (10 : Int32))).toNatClampNeg)) hx hb hr (fun t ht hW => ⟨_, rfl, e9, ht⟩) (fun _ h => absurd h List.not_mem_nil) dX7_count_173
                          · by_cases c_14 : a1 = 13
                            · refine lv_tableIn (off := 161) (tgt := 162) hx hb dX7_count_1 (by rw [c_14]; decide) (by rw [c_14]; decide) (by rw [c_14]; rfl) (by decide) ?_
                              refine lv_aload_n hx hb dX7_count_162 rfl (lv_at hl 0 rfl) ?_
                              refine va_get (D := D) (ci := 6) (v := .ref (A 1)) (C := RX7) (T := TX7) (N := 15) hx hb hts inT_X7 hown hK.1 hP 0 rfl rfl 0 (by decide) (hts _ wfl_RX7_7) (fun _ h9 => h9) rfl dX7_count_163 ?_
                              refine lv_iconst (v := 4) hx hb dX7_count_166 (by decide) ?_
                              refine lv_iload_n hx hb dX7_count_167 rfl (lv_at hl 1 rfl) ?_
                              refine lv_iadd hx hb dX7_count_168 ?_
                              refine lv_bipush (v := 10) hx hb dX7_count_169 (by decide) ?_
                              refine lv_isub hx hb dX7_count_171 ?_
                              refine va_iald (D := D) (f := (u 0)) hx hb hK.1 hP 1 1 rfl rfl (by rw [c_14]; exact vp_lit (by decide)) dX7_count_172 ?_
                              have e9 : ((u 0) ((((4 : Int32) + a1) - (10 : Int32))).toNatClampNeg) = (pX7_count u w a1) := by simp only [pX7_count, if_neg c_1, if_neg c_2, if_neg c_3, if_neg c_4, if_neg c_5, if_neg c_6, if_neg c_7, if_neg c_8, if_neg c_9, if_neg c_10, if_neg c_11, if_neg c_12, if_neg c_13, if_pos c_14]
                              exact W.iret (v := ((u 0) ((((4 : Int32) + a1) - (10 : Int32))).toNatClampNeg)) hx hb hr (fun t ht hW => ⟨_, rfl, e9, ht⟩) (fun _ h => absurd h List.not_mem_nil) dX7_count_173
                            · by_cases c_15 : a1 = 14
                              · refine lv_tableIn (off := 173) (tgt := 174) hx hb dX7_count_1 (by rw [c_15]; decide) (by rw [c_15]; decide) (by rw [c_15]; rfl) (by decide) ?_
                                refine lv_aload_n hx hb dX7_count_174 rfl (lv_at hl 0 rfl) ?_
                                refine va_get (D := D) (ci := 6) (v := .ref (A 1)) (C := RX7) (T := TX7) (N := 15) hx hb hts inT_X7 hown hK.1 hP 0 rfl rfl 0 (by decide) (hts _ wfl_RX7_7) (fun _ h9 => h9) rfl dX7_count_175 ?_
                                refine lv_iconst (v := 2) hx hb dX7_count_178 (by decide) ?_
                                refine va_iald (D := D) (f := (u 0)) hx hb hK.1 hP 1 1 rfl rfl (vp_lit (by decide)) dX7_count_179 ?_
                                refine W.eq (g2 := F0 m _ ls [.int ((u 0) 2)]) rfl ?_
                                have e9 : ((u 0) 2) = (pX7_count u w a1) := by simp only [pX7_count, if_neg c_1, if_neg c_2, if_neg c_3, if_neg c_4, if_neg c_5, if_neg c_6, if_neg c_7, if_neg c_8, if_neg c_9, if_neg c_10, if_neg c_11, if_neg c_12, if_neg c_13, if_neg c_14, if_pos c_15]
                                exact W.iret (v := ((u 0) 2)) hx hb hr (fun t ht hW => ⟨_, rfl, e9, ht⟩) (fun _ h => absurd h List.not_mem_nil) dX7_count_180
                              · by_cases c_16 : a1 = 15
                                · refine lv_tableIn (off := 180) (tgt := 181) hx hb dX7_count_1 (by rw [c_16]; decide) (by rw [c_16]; decide) (by rw [c_16]; rfl) (by decide) ?_
                                  refine lv_aload_n hx hb dX7_count_181 rfl (lv_at hl 0 rfl) ?_
                                  refine va_get (D := D) (ci := 6) (v := .ref (A 1)) (C := RX7) (T := TX7) (N := 15) hx hb hts inT_X7 hown hK.1 hP 0 rfl rfl 0 (by decide) (hts _ wfl_RX7_7) (fun _ h9 => h9) rfl dX7_count_182 ?_
                                  refine lv_iconst (v := 3) hx hb dX7_count_185 (by decide) ?_
                                  refine va_iald (D := D) (f := (u 0)) hx hb hK.1 hP 1 1 rfl rfl (vp_lit (by decide)) dX7_count_186 ?_
                                  refine W.eq (g2 := F0 m _ ls [.int ((u 0) 3)]) rfl ?_
                                  have e9 : ((u 0) 3) = (pX7_count u w a1) := by simp only [pX7_count, if_neg c_1, if_neg c_2, if_neg c_3, if_neg c_4, if_neg c_5, if_neg c_6, if_neg c_7, if_neg c_8, if_neg c_9, if_neg c_10, if_neg c_11, if_neg c_12, if_neg c_13, if_neg c_14, if_neg c_15, if_pos c_16]
                                  exact W.iret (v := ((u 0) 3)) hx hb hr (fun t ht hW => ⟨_, rfl, e9, ht⟩) (fun _ h => absurd h List.not_mem_nil) dX7_count_187
                                · by_cases c_17 : a1 = 16
                                  · refine lv_tableIn (off := 187) (tgt := 188) hx hb dX7_count_1 (by rw [c_17]; decide) (by rw [c_17]; decide) (by rw [c_17]; rfl) (by decide) ?_
                                    refine lv_aload_n hx hb dX7_count_188 rfl (lv_at hl 0 rfl) ?_
                                    refine va_get (D := D) (ci := 6) (v := .int (w 7)) (C := RX7) (T := TX7) (N := 15) hx hb hts inT_X7 hown hK.1 hP 0 rfl rfl 7 (by decide) (hts _ wfl_RX7_145) (fun _ h9 => h9) rfl dX7_count_189 ?_
                                    have e9 : (w 7) = (pX7_count u w a1) := by simp only [pX7_count, if_neg c_1, if_neg c_2, if_neg c_3, if_neg c_4, if_neg c_5, if_neg c_6, if_neg c_7, if_neg c_8, if_neg c_9, if_neg c_10, if_neg c_11, if_neg c_12, if_neg c_13, if_neg c_14, if_neg c_15, if_neg c_16, if_pos c_17]
                                    exact W.iret (v := (w 7)) hx hb hr (fun t ht hW => ⟨_, rfl, e9, ht⟩) (fun _ h => absurd h List.not_mem_nil) dX7_count_192
                                  · by_cases c_18 : a1 = 17
                                    · refine lv_tableIn (off := 192) (tgt := 193) hx hb dX7_count_1 (by rw [c_18]; decide) (by rw [c_18]; decide) (by rw [c_18]; rfl) (by decide) ?_
                                      refine lv_aload_n hx hb dX7_count_193 rfl (lv_at hl 0 rfl) ?_
                                      refine va_get (D := D) (ci := 6) (v := .int (w 3)) (C := RX7) (T := TX7) (N := 15) hx hb hts inT_X7 hown hK.1 hP 0 rfl rfl 3 (by decide) (hts _ wfl_RX7_33) (fun _ h9 => h9) rfl dX7_count_194 ?_
                                      have e9 : (w 3) = (pX7_count u w a1) := by simp only [pX7_count, if_neg c_1, if_neg c_2, if_neg c_3, if_neg c_4, if_neg c_5, if_neg c_6, if_neg c_7, if_neg c_8, if_neg c_9, if_neg c_10, if_neg c_11, if_neg c_12, if_neg c_13, if_neg c_14, if_neg c_15, if_neg c_16, if_neg c_17, if_pos c_18]
                                      exact W.iret (v := (w 3)) hx hb hr (fun t ht hW => ⟨_, rfl, e9, ht⟩) (fun _ h => absurd h List.not_mem_nil) dX7_count_197
                                    · have nc_1 : (a1 : Int32).toInt ≠ 0 := fun h => c_1 (Int32.toInt_inj.mp (h.trans (by decide)))
                                      have nc_2 : (a1 : Int32).toInt ≠ 1 := fun h => c_2 (Int32.toInt_inj.mp (h.trans (by decide)))
                                      have nc_3 : (a1 : Int32).toInt ≠ 2 := fun h => c_3 (Int32.toInt_inj.mp (h.trans (by decide)))
                                      have nc_4 : (a1 : Int32).toInt ≠ 3 := fun h => c_4 (Int32.toInt_inj.mp (h.trans (by decide)))
                                      have nc_5 : (a1 : Int32).toInt ≠ 4 := fun h => c_5 (Int32.toInt_inj.mp (h.trans (by decide)))
                                      have nc_6 : (a1 : Int32).toInt ≠ 5 := fun h => c_6 (Int32.toInt_inj.mp (h.trans (by decide)))
                                      have nc_7 : (a1 : Int32).toInt ≠ 6 := fun h => c_7 (Int32.toInt_inj.mp (h.trans (by decide)))
                                      have nc_8 : (a1 : Int32).toInt ≠ 7 := fun h => c_8 (Int32.toInt_inj.mp (h.trans (by decide)))
                                      have nc_9 : (a1 : Int32).toInt ≠ 8 := fun h => c_9 (Int32.toInt_inj.mp (h.trans (by decide)))
                                      have nc_10 : (a1 : Int32).toInt ≠ 9 := fun h => c_10 (Int32.toInt_inj.mp (h.trans (by decide)))
                                      have nc_11 : (a1 : Int32).toInt ≠ 10 := fun h => c_11 (Int32.toInt_inj.mp (h.trans (by decide)))
                                      have nc_12 : (a1 : Int32).toInt ≠ 11 := fun h => c_12 (Int32.toInt_inj.mp (h.trans (by decide)))
                                      have nc_13 : (a1 : Int32).toInt ≠ 12 := fun h => c_13 (Int32.toInt_inj.mp (h.trans (by decide)))
                                      have nc_14 : (a1 : Int32).toInt ≠ 13 := fun h => c_14 (Int32.toInt_inj.mp (h.trans (by decide)))
                                      have nc_15 : (a1 : Int32).toInt ≠ 14 := fun h => c_15 (Int32.toInt_inj.mp (h.trans (by decide)))
                                      have nc_16 : (a1 : Int32).toInt ≠ 15 := fun h => c_16 (Int32.toInt_inj.mp (h.trans (by decide)))
                                      have nc_17 : (a1 : Int32).toInt ≠ 16 := fun h => c_17 (Int32.toInt_inj.mp (h.trans (by decide)))
                                      have nc_18 : (a1 : Int32).toInt ≠ 17 := fun h => c_18 (Int32.toInt_inj.mp (h.trans (by decide)))
                                      refine lv_tableOut (tgt := 198) hx hb dX7_count_1 (by omega) (by decide) ?_
                                      refine lv_iconst (v := (-1)) hx hb dX7_count_198 (by decide) ?_
                                      have e9 : (-1) = (pX7_count u w a1) := by simp only [pX7_count, if_neg c_1, if_neg c_2, if_neg c_3, if_neg c_4, if_neg c_5, if_neg c_6, if_neg c_7, if_neg c_8, if_neg c_9, if_neg c_10, if_neg c_11, if_neg c_12, if_neg c_13, if_neg c_14, if_neg c_15, if_neg c_16, if_neg c_17, if_neg c_18]
                                      exact W.iret (v := (-1)) hx hb hr (fun t ht hW => ⟨_, rfl, e9, ht⟩) (fun _ h => absurd h List.not_mem_nil) dX7_count_199
theorem bV_X7_count : BV RX7 yX7_count cX7_count 2 (some .int) 1 := ⟨wcd_X7_count, wim_X7_count, wse_X7_count, win_RX7, by decide +kernel⟩
def pX7_ifWind (u : (Nat → Nat → Int32)) (w : (Nat → Int32)) (a1 : Int32) : Int32 := (if (pX7_in a1 0 3) = 0 then (-1) else (pX7_smokedBy u w a1))
set_option maxHeartbeats 4000000 in
set_option maxRecDepth 100000 in
theorem kX7_ifWind (l : Launch) (D : va_G) (cyC cyI cyO : ClassId) (A : Nat → Nat) (u : (Nat → Nat → Int32)) (w : (Nat → Int32)) (a1 : Int32) (hm3 : ((u 0) 2) ≤ 3) : RO l yX7_ifWind (Ty yX7_ifWind cX7_ifWind 2 (some .int)) ({ frames := 4, cells := 0, slots := 0, locals := 95 } : Room) D cyC cyI cyO (wM cyI A u w) [.ref (A 0), .int a1] (pX7_ifWind u w a1) := by
  refine Met.ofW (cc := cX7_ifWind) (maxL := 2) (ret := (some .int)) (by decide) rfl ?_
  intro p e s m args below meth cd s₁ B hml hv
  obtain ⟨rfl, hP, hK⟩ := hv
  have hx := B.exec
  have hb := B.bytes
  have hr := B.returns
  have hts : ∀ w ∈ TB, w.before ([.ref (A 0), .int a1] : List Value).toArray s = true := fun w h => atoms_spec (ws := (Ty yX7_ifWind cX7_ifWind 2 (some .int))) B.pre w (List.mem_cons_of_mem _ h)
  have hown : s.vm.findClass RX7 = some m.cls := findClass_of_methodNamed B.named
  have hlocks := B.notSynchronized
  have hl := lv_entry ([.ref (A 0), .int a1]) (n := 2) (Nat.le_of_ble_eq_true rfl)
  rw [lg_entry_eq]
  generalize (lg_sl ([.ref (A 0), .int a1]) ++ List.replicate (2 - (lg_sl ([.ref (A 0), .int a1])).length) Slot.unset).toArray = ls at hl ⊢
  have hl : lv_has ls 2 [(0, .ref (A 0)), (1, .int a1)] := hl
  refine lv_iload_n hx hb dX7_ifWind_0 rfl (lv_at hl 1 rfl) ?_
  refine lv_iconst (v := 0) hx hb dX7_ifWind_1 (by decide) ?_
  refine lv_iconst (v := 3) hx hb dX7_ifWind_2 (by decide) ?_
  refine rS (As := [.int a1, .int 0, .int 3]) (rest := []) hx hb hml hown hts hl.1 (kX7_in l D cyC cyI cyO a1 0 3) bS_X7_in  wml_RX7_41 ⟨rfl, rfl⟩ ⟨Nat.le_of_ble_eq_true rfl, Nat.le_of_ble_eq_true rfl, Nat.zero_le _, Nat.zero_le _⟩ [] rfl hP hK rfl rfl (Nat.le_of_ble_eq_true rfl) dX7_ifWind_3 ?_
  refine lv_if_eq (tgt := 17) hx hb dX7_ifWind_6 (by decide) (fun c_1 => ?_) (fun c_1 => ?_)
  · refine lv_iconst (v := (-1)) hx hb dX7_ifWind_17 (by decide) ?_
    have e9 : (-1) = (pX7_ifWind u w a1) := by simp only [pX7_ifWind, if_pos c_1]
    exact W.iret (v := (-1)) hx hb hr (fun t ht hW => ⟨_, rfl, e9, ht⟩) (fun _ h => absurd h List.not_mem_nil) dX7_ifWind_18
  · refine lv_aload_n hx hb dX7_ifWind_9 rfl (lv_at hl 0 rfl) ?_
    refine lv_iload_n hx hb dX7_ifWind_10 rfl (lv_at hl 1 rfl) ?_
    refine rV (As := [.int a1]) (rest := []) hx hb hml hown hts hl.1 (kX7_smokedBy l D cyC cyI cyO A u w a1 hm3) bV_X7_smokedBy  wml_RX7_229 ⟨rfl, rfl⟩ ⟨Nat.le_of_ble_eq_true rfl, Nat.le_of_ble_eq_true rfl, Nat.zero_le _, Nat.zero_le _⟩ [0, 1, 2, 3, 4, 5, 6] rfl hP hK 0 rfl rfl rfl rfl rfl (Nat.le_of_ble_eq_true rfl) dX7_ifWind_11 ?_
    refine lv_goto (tgt := 18) hx hb dX7_ifWind_14 (by decide) ?_
    have e9 : (pX7_smokedBy u w a1) = (pX7_ifWind u w a1) := by simp only [pX7_ifWind, if_neg c_1]
    exact W.iret (v := (pX7_smokedBy u w a1)) hx hb hr (fun t ht hW => ⟨_, rfl, e9, ht⟩) (fun _ h => absurd h List.not_mem_nil) dX7_ifWind_18
theorem bV_X7_ifWind : BV RX7 yX7_ifWind cX7_ifWind 2 (some .int) 1 := ⟨wcd_X7_ifWind, wim_X7_ifWind, wse_X7_ifWind, win_RX7, by decide +kernel⟩
def pX7_bestPlace_L17 (u : (Nat → Nat → Int32)) (w : (Nat → Int32)) (a1 : Int32) : Nat → Int32 × Int32 := fo (fun i x_i => (if (pX7_isGangway (nI i)) = 0 then (if x_i.2 ≤ 5 then (x_i.1, x_i.2) else ((nI i), 5)) else (if (pX7_reasonToHang u w a1 (nI i)) = 0 then (if x_i.2 ≤ (pX7_windsOver u w (nI i)) then (x_i.1, x_i.2) else ((nI i), (pX7_windsOver u w (nI i)))) else (if x_i.2 ≤ 5 then (x_i.1, x_i.2) else ((nI i), 5))))) ((-4), 5)
theorem pX7_bestPlace_L17_s (u : (Nat → Nat → Int32)) (w : (Nat → Int32)) (a1 : Int32) (i : Nat) : pX7_bestPlace_L17 u w a1 (i + 1) = (if (pX7_isGangway (nI i)) = 0 then (if (pX7_bestPlace_L17 u w a1 i).2 ≤ 5 then ((pX7_bestPlace_L17 u w a1 i).1, (pX7_bestPlace_L17 u w a1 i).2) else ((nI i), 5)) else (if (pX7_reasonToHang u w a1 (nI i)) = 0 then (if (pX7_bestPlace_L17 u w a1 i).2 ≤ (pX7_windsOver u w (nI i)) then ((pX7_bestPlace_L17 u w a1 i).1, (pX7_bestPlace_L17 u w a1 i).2) else ((nI i), (pX7_windsOver u w (nI i)))) else (if (pX7_bestPlace_L17 u w a1 i).2 ≤ 5 then ((pX7_bestPlace_L17 u w a1 i).1, (pX7_bestPlace_L17 u w a1 i).2) else ((nI i), 5)))) := rfl
theorem pX7_bestPlace_L17_0 (u : (Nat → Nat → Int32)) (w : (Nat → Int32)) (a1 : Int32) : pX7_bestPlace_L17 u w a1 0 = ((-4), 5) := rfl
def pX7_bestPlace (u : (Nat → Nat → Int32)) (w : (Nat → Int32)) (a1 : Int32) : Int32 := (if (pX7_isOwner a1) = 0 then (-1) else (pX7_bestPlace_L17 u w a1 28).1)
set_option maxHeartbeats 4000000 in
set_option maxRecDepth 100000 in
theorem kX7_bestPlace (l : Launch) (D : va_G) (cyC cyI cyO : ClassId) (A : Nat → Nat) (u : (Nat → Nat → Int32)) (w : (Nat → Int32)) (a1 : Int32) (hm3 : ((u 0) 2) ≤ 3) : RO l yX7_bestPlace (Ty yX7_bestPlace cX7_bestPlace 6 (some .int)) ({ frames := 5, cells := 0, slots := 0, locals := 113 } : Room) D cyC cyI cyO (wM cyI A u w) [.ref (A 0), .int a1] (pX7_bestPlace u w a1) := by
  refine Met.ofW (cc := cX7_bestPlace) (maxL := 6) (ret := (some .int)) (by decide) rfl ?_
  intro p e s m args below meth cd s₁ B hml hv
  obtain ⟨rfl, hP, hK⟩ := hv
  have hx := B.exec
  have hb := B.bytes
  have hr := B.returns
  have hts : ∀ w ∈ TB, w.before ([.ref (A 0), .int a1] : List Value).toArray s = true := fun w h => atoms_spec (ws := (Ty yX7_bestPlace cX7_bestPlace 6 (some .int))) B.pre w (List.mem_cons_of_mem _ h)
  have hown : s.vm.findClass RX7 = some m.cls := findClass_of_methodNamed B.named
  have hlocks := B.notSynchronized
  have hl := lv_entry ([.ref (A 0), .int a1]) (n := 6) (Nat.le_of_ble_eq_true rfl)
  rw [lg_entry_eq]
  generalize (lg_sl ([.ref (A 0), .int a1]) ++ List.replicate (6 - (lg_sl ([.ref (A 0), .int a1])).length) Slot.unset).toArray = ls at hl ⊢
  have hl : lv_has ls 6 [(0, .ref (A 0)), (1, .int a1)] := hl
  refine lv_iload_n hx hb dX7_bestPlace_0 rfl (lv_at hl 1 rfl) ?_
  refine rS (As := [.int a1]) (rest := []) hx hb hml hown hts hl.1 (kX7_isOwner l D cyC cyI cyO a1) bS_X7_isOwner  wml_RX7_127 ⟨rfl, rfl⟩ ⟨Nat.le_of_ble_eq_true rfl, Nat.le_of_ble_eq_true rfl, Nat.zero_le _, Nat.zero_le _⟩ [] rfl hP hK rfl rfl (Nat.le_of_ble_eq_true rfl) dX7_bestPlace_1 ?_
  refine lv_if_ne (tgt := 9) hx hb dX7_bestPlace_4 (by decide) (fun c_1 => ?_) (fun c_1 => ?_)
  · refine lv_bipush (v := (-4)) hx hb dX7_bestPlace_9 (by decide) ?_
    refine lv_istore_n (lv' := [(2, .int (-4)), (0, .ref (A 0)), (1, .int a1)]) hx hb dX7_bestPlace_11 rfl hl (by decide) rfl (fun ls hl => ?_)
    refine lv_iconst (v := 5) hx hb dX7_bestPlace_12 (by decide) ?_
    refine lv_istore_n (lv' := [(3, .int 5), (2, .int (-4)), (0, .ref (A 0)), (1, .int a1)]) hx hb dX7_bestPlace_13 rfl hl (by decide) rfl (fun ls hl => ?_)
    refine lv_iconst (v := 0) hx hb dX7_bestPlace_14 (by decide) ?_
    refine lv_istore (lv' := [(4, .int 0), (3, .int 5), (2, .int (-4)), (0, .ref (A 0)), (1, .int a1)]) hx hb dX7_bestPlace_15 hl (by decide) rfl (fun ls hl => ?_)
    have key_17 : ∀ k i : Nat, i + k = 28 → ∀ (ls : Array Slot), lv_has ls 6 [(0, .ref (A 0)), (1, .int a1), (2, .int (pX7_bestPlace_L17 u w a1 i).1), (3, .int (pX7_bestPlace_L17 u w a1 i).2), (4, .int (nI i))] → W p l e (headSpec (Ty yX7_bestPlace cX7_bestPlace 6 (some .int)) ({ frames := 5, cells := 0, slots := 0, locals := 113 } : Room)).room s m ([.ref (A 0), .int a1] : List Value).toArray below meth cd s.heap [] 0 0 (MQ below (vp_Si (fun x => x = (pX7_bestPlace u w a1))) ([.ref (A 0), .int a1] : List Value).toArray s 0 0 (fun _ => False)) (F0 m 17 ls []) := by
      intro k
      induction k with
      | zero =>
        intro i hi ls hl
        obtain rfl : i = 28 := hi
        obtain ⟨z_2, hz_2⟩ : ∃ q, q = (pX7_bestPlace_L17 u w a1 28) := ⟨_, rfl⟩
        rw [← hz_2] at hl
        refine lv_iload hx hb dX7_bestPlace_17 (lv_at hl 4 rfl) ?_
        refine lv_bipush (v := 28) hx hb dX7_bestPlace_19 (by decide) ?_
        refine lv_icmp_ge (tgt := 86) hx hb dX7_bestPlace_21 (by decide) (fun c_3 => ?_) (fun c_3 => absurd (le_of (C := 28) (N := 28) (by decide)) c_3)
        refine lv_iload_n hx hb dX7_bestPlace_86 rfl (lv_at hl 2 rfl) ?_
        have e9 : z_2.1 = (pX7_bestPlace u w a1) := by simp only [pX7_bestPlace, ← hz_2, if_neg c_1]
        exact W.iret (v := z_2.1) hx hb hr (fun t ht hW => ⟨_, rfl, e9, ht⟩) (fun _ h => absurd h List.not_mem_nil) dX7_bestPlace_87
      | succ k ih_17 =>
        intro i hi ls hl
        have hlt : i < 28 := by omega
        refine lv_iload hx hb dX7_bestPlace_17 (lv_at hl 4 rfl) ?_
        refine lv_bipush (v := 28) hx hb dX7_bestPlace_19 (by decide) ?_
        refine lv_icmp_ge (tgt := 86) hx hb dX7_bestPlace_21 (by decide) (fun c_4 => absurd c_4 (nle_of (C := 28) (N := 28) (by decide) hlt (by decide))) (fun c_4 => ?_)
        refine lv_iload hx hb dX7_bestPlace_24 (lv_at hl 4 rfl) ?_
        refine rS (As := [.int (nI i)]) (rest := []) hx hb hml hown hts hl.1 (kX7_isGangway l D cyC cyI cyO (nI i)) bS_X7_isGangway  wml_RX7_29 ⟨rfl, rfl⟩ ⟨Nat.le_of_ble_eq_true rfl, Nat.le_of_ble_eq_true rfl, Nat.zero_le _, Nat.zero_le _⟩ [] rfl hP hK rfl rfl (Nat.le_of_ble_eq_true rfl) dX7_bestPlace_26 ?_
        refine lv_if_eq (tgt := 51) hx hb dX7_bestPlace_29 (by decide) (fun c_5 => ?_) (fun c_5 => ?_)
        · refine lv_iconst (v := 5) hx hb dX7_bestPlace_51 (by decide) ?_
          refine lv_istore (lv' := [(5, .int 5), (0, .ref (A 0)), (1, .int a1), (2, .int (pX7_bestPlace_L17 u w a1 i).1), (3, .int (pX7_bestPlace_L17 u w a1 i).2), (4, .int (nI i))]) hx hb dX7_bestPlace_52 hl (by decide) rfl (fun ls hl => ?_)
          refine lv_iload hx hb dX7_bestPlace_54 (lv_at hl 0 rfl) ?_
          refine lv_iload_n hx hb dX7_bestPlace_56 rfl (lv_at hl 4 rfl) ?_
          refine lv_icmp_ge (tgt := 65) hx hb dX7_bestPlace_57 (by decide) (fun c_6 => ?_) (fun c_6 => ?_)
          · refine lv_iload_n hx hb dX7_bestPlace_65 rfl (lv_at hl 3 rfl) ?_
            refine lv_istore_n (lv' := [(2, .int (pX7_bestPlace_L17 u w a1 i).1), (5, .int 5), (0, .ref (A 0)), (1, .int a1), (3, .int (pX7_bestPlace_L17 u w a1 i).2), (4, .int (nI i))]) hx hb dX7_bestPlace_66 rfl hl (by decide) rfl (fun ls hl => ?_)
            refine lv_iload hx hb dX7_bestPlace_67 (lv_at hl 1 rfl) ?_
            refine lv_iload_n hx hb dX7_bestPlace_69 rfl (lv_at hl 4 rfl) ?_
            refine lv_icmp_ge (tgt := 78) hx hb dX7_bestPlace_70 (by decide) (fun c_7 => ?_) (fun c_7 => absurd c_6 c_7)
            refine lv_iload_n hx hb dX7_bestPlace_78 rfl (lv_at hl 4 rfl) ?_
            refine lv_istore_n (lv' := [(3, .int (pX7_bestPlace_L17 u w a1 i).2), (2, .int (pX7_bestPlace_L17 u w a1 i).1), (5, .int 5), (0, .ref (A 0)), (1, .int a1), (4, .int (nI i))]) hx hb dX7_bestPlace_79 rfl hl (by decide) rfl (fun ls hl => ?_)
            refine lv_iinc (v := (nI (i + 1))) (lv' := [(4, .int (nI (i + 1))), (3, .int (pX7_bestPlace_L17 u w a1 i).2), (2, .int (pX7_bestPlace_L17 u w a1 i).1), (5, .int 5), (0, .ref (A 0)), (1, .int a1)]) hx hb dX7_bestPlace_80 hl (k := 5) rfl (nI_succ i).symm (by decide) rfl (fun ls hl => ?_)
            refine lv_goto (tgt := 17) hx hb dX7_bestPlace_83 (by decide) ?_
            have e8 : pX7_bestPlace_L17 u w a1 (i + 1) = ((pX7_bestPlace_L17 u w a1 i).1, (pX7_bestPlace_L17 u w a1 i).2) := by rw [pX7_bestPlace_L17_s] <;> simp only [if_neg c_1, if_pos c_5, if_pos c_6]
            exact ih_17 (i + 1) (by omega) ls (by rw [e8]; exact lv_sub hl [4, 5, 2, 1, 0] rfl)
          · refine lv_iload hx hb dX7_bestPlace_60 (lv_at hl 5 rfl) ?_
            refine lv_goto (tgt := 66) hx hb dX7_bestPlace_62 (by decide) ?_
            refine lv_istore_n (lv' := [(2, .int (nI i)), (5, .int 5), (0, .ref (A 0)), (1, .int a1), (3, .int (pX7_bestPlace_L17 u w a1 i).2), (4, .int (nI i))]) hx hb dX7_bestPlace_66 rfl hl (by decide) rfl (fun ls hl => ?_)
            refine lv_iload hx hb dX7_bestPlace_67 (lv_at hl 1 rfl) ?_
            refine lv_iload_n hx hb dX7_bestPlace_69 rfl (lv_at hl 4 rfl) ?_
            refine lv_icmp_ge (tgt := 78) hx hb dX7_bestPlace_70 (by decide) (fun c_8 => absurd c_8 c_6) (fun c_8 => ?_)
            refine lv_iload hx hb dX7_bestPlace_73 (lv_at hl 1 rfl) ?_
            refine lv_goto (tgt := 79) hx hb dX7_bestPlace_75 (by decide) ?_
            refine lv_istore_n (lv' := [(3, .int 5), (2, .int (nI i)), (5, .int 5), (0, .ref (A 0)), (1, .int a1), (4, .int (nI i))]) hx hb dX7_bestPlace_79 rfl hl (by decide) rfl (fun ls hl => ?_)
            refine lv_iinc (v := (nI (i + 1))) (lv' := [(4, .int (nI (i + 1))), (3, .int 5), (2, .int (nI i)), (5, .int 5), (0, .ref (A 0)), (1, .int a1)]) hx hb dX7_bestPlace_80 hl (k := 5) rfl (nI_succ i).symm (by decide) rfl (fun ls hl => ?_)
            refine lv_goto (tgt := 17) hx hb dX7_bestPlace_83 (by decide) ?_
            have e8 : pX7_bestPlace_L17 u w a1 (i + 1) = ((nI i), 5) := by rw [pX7_bestPlace_L17_s] <;> simp only [if_neg c_1, if_pos c_5, if_neg c_6]
            exact ih_17 (i + 1) (by omega) ls (by rw [e8]; exact lv_sub hl [4, 5, 2, 1, 0] rfl)
        · refine lv_aload_n hx hb dX7_bestPlace_32 rfl (lv_at hl 0 rfl) ?_
          refine lv_iload_n hx hb dX7_bestPlace_33 rfl (lv_at hl 1 rfl) ?_
          refine lv_iload hx hb dX7_bestPlace_34 (lv_at hl 4 rfl) ?_
          refine rV (As := [.int a1, .int (nI i)]) (rest := []) hx hb hml hown hts hl.1 (kX7_reasonToHang l D cyC cyI cyO A u w a1 (nI i) (io7_in c_1) (vp_in_nI (Nat.lt_of_lt_of_le hlt (by decide)) (by decide)) hm3) bV_X7_reasonToHang  wml_RX7_95 ⟨rfl, rfl⟩ ⟨Nat.le_of_ble_eq_true rfl, Nat.le_of_ble_eq_true rfl, Nat.zero_le _, Nat.zero_le _⟩ [0, 1, 2, 3, 4, 5, 6] rfl hP hK 0 rfl rfl rfl rfl rfl (Nat.le_of_ble_eq_true rfl) dX7_bestPlace_36 ?_
          refine lv_if_ne (tgt := 51) hx hb dX7_bestPlace_39 (by decide) (fun c_9 => ?_) (fun c_9 => ?_)
          · refine lv_iconst (v := 5) hx hb dX7_bestPlace_51 (by decide) ?_
            refine lv_istore (lv' := [(5, .int 5), (0, .ref (A 0)), (1, .int a1), (2, .int (pX7_bestPlace_L17 u w a1 i).1), (3, .int (pX7_bestPlace_L17 u w a1 i).2), (4, .int (nI i))]) hx hb dX7_bestPlace_52 hl (by decide) rfl (fun ls hl => ?_)
            refine lv_iload hx hb dX7_bestPlace_54 (lv_at hl 0 rfl) ?_
            refine lv_iload_n hx hb dX7_bestPlace_56 rfl (lv_at hl 4 rfl) ?_
            refine lv_icmp_ge (tgt := 65) hx hb dX7_bestPlace_57 (by decide) (fun c_10 => ?_) (fun c_10 => ?_)
            · refine lv_iload_n hx hb dX7_bestPlace_65 rfl (lv_at hl 3 rfl) ?_
              refine lv_istore_n (lv' := [(2, .int (pX7_bestPlace_L17 u w a1 i).1), (5, .int 5), (0, .ref (A 0)), (1, .int a1), (3, .int (pX7_bestPlace_L17 u w a1 i).2), (4, .int (nI i))]) hx hb dX7_bestPlace_66 rfl hl (by decide) rfl (fun ls hl => ?_)
              refine lv_iload hx hb dX7_bestPlace_67 (lv_at hl 1 rfl) ?_
              refine lv_iload_n hx hb dX7_bestPlace_69 rfl (lv_at hl 4 rfl) ?_
              refine lv_icmp_ge (tgt := 78) hx hb dX7_bestPlace_70 (by decide) (fun c_11 => ?_) (fun c_11 => absurd c_10 c_11)
              refine lv_iload_n hx hb dX7_bestPlace_78 rfl (lv_at hl 4 rfl) ?_
              refine lv_istore_n (lv' := [(3, .int (pX7_bestPlace_L17 u w a1 i).2), (2, .int (pX7_bestPlace_L17 u w a1 i).1), (5, .int 5), (0, .ref (A 0)), (1, .int a1), (4, .int (nI i))]) hx hb dX7_bestPlace_79 rfl hl (by decide) rfl (fun ls hl => ?_)
              refine lv_iinc (v := (nI (i + 1))) (lv' := [(4, .int (nI (i + 1))), (3, .int (pX7_bestPlace_L17 u w a1 i).2), (2, .int (pX7_bestPlace_L17 u w a1 i).1), (5, .int 5), (0, .ref (A 0)), (1, .int a1)]) hx hb dX7_bestPlace_80 hl (k := 5) rfl (nI_succ i).symm (by decide) rfl (fun ls hl => ?_)
              refine lv_goto (tgt := 17) hx hb dX7_bestPlace_83 (by decide) ?_
              have e8 : pX7_bestPlace_L17 u w a1 (i + 1) = ((pX7_bestPlace_L17 u w a1 i).1, (pX7_bestPlace_L17 u w a1 i).2) := by rw [pX7_bestPlace_L17_s] <;> simp only [if_neg c_1, if_neg c_5, if_neg c_9, if_pos c_10]
              exact ih_17 (i + 1) (by omega) ls (by rw [e8]; exact lv_sub hl [4, 5, 2, 1, 0] rfl)
            · refine lv_iload hx hb dX7_bestPlace_60 (lv_at hl 5 rfl) ?_
              refine lv_goto (tgt := 66) hx hb dX7_bestPlace_62 (by decide) ?_
              refine lv_istore_n (lv' := [(2, .int (nI i)), (5, .int 5), (0, .ref (A 0)), (1, .int a1), (3, .int (pX7_bestPlace_L17 u w a1 i).2), (4, .int (nI i))]) hx hb dX7_bestPlace_66 rfl hl (by decide) rfl (fun ls hl => ?_)
              refine lv_iload hx hb dX7_bestPlace_67 (lv_at hl 1 rfl) ?_
              refine lv_iload_n hx hb dX7_bestPlace_69 rfl (lv_at hl 4 rfl) ?_
              refine lv_icmp_ge (tgt := 78) hx hb dX7_bestPlace_70 (by decide) (fun c_12 => absurd c_12 c_10) (fun c_12 => ?_)
              refine lv_iload hx hb dX7_bestPlace_73 (lv_at hl 1 rfl) ?_
              refine lv_goto (tgt := 79) hx hb dX7_bestPlace_75 (by decide) ?_
              refine lv_istore_n (lv' := [(3, .int 5), (2, .int (nI i)), (5, .int 5), (0, .ref (A 0)), (1, .int a1), (4, .int (nI i))]) hx hb dX7_bestPlace_79 rfl hl (by decide) rfl (fun ls hl => ?_)
              refine lv_iinc (v := (nI (i + 1))) (lv' := [(4, .int (nI (i + 1))), (3, .int 5), (2, .int (nI i)), (5, .int 5), (0, .ref (A 0)), (1, .int a1)]) hx hb dX7_bestPlace_80 hl (k := 5) rfl (nI_succ i).symm (by decide) rfl (fun ls hl => ?_)
              refine lv_goto (tgt := 17) hx hb dX7_bestPlace_83 (by decide) ?_
              have e8 : pX7_bestPlace_L17 u w a1 (i + 1) = ((nI i), 5) := by rw [pX7_bestPlace_L17_s] <;> simp only [if_neg c_1, if_neg c_5, if_neg c_9, if_neg c_10]
              exact ih_17 (i + 1) (by omega) ls (by rw [e8]; exact lv_sub hl [4, 5, 2, 1, 0] rfl)
          · refine lv_aload_n hx hb dX7_bestPlace_42 rfl (lv_at hl 0 rfl) ?_
            refine lv_iload hx hb dX7_bestPlace_43 (lv_at hl 4 rfl) ?_
            refine rV (As := [.int (nI i)]) (rest := []) hx hb hml hown hts hl.1 (kX7_windsOver l D cyC cyI cyO A u w (nI i) hm3) bV_X7_windsOver  wml_RX7_232 ⟨rfl, rfl⟩ ⟨Nat.le_of_ble_eq_true rfl, Nat.le_of_ble_eq_true rfl, Nat.zero_le _, Nat.zero_le _⟩ [0, 1, 2, 3, 4, 5, 6] rfl hP hK 0 rfl rfl rfl rfl rfl (Nat.le_of_ble_eq_true rfl) dX7_bestPlace_45 ?_
            refine lv_goto (tgt := 52) hx hb dX7_bestPlace_48 (by decide) ?_
            refine lv_istore (lv' := [(5, .int (pX7_windsOver u w (nI i))), (0, .ref (A 0)), (1, .int a1), (2, .int (pX7_bestPlace_L17 u w a1 i).1), (3, .int (pX7_bestPlace_L17 u w a1 i).2), (4, .int (nI i))]) hx hb dX7_bestPlace_52 hl (by decide) rfl (fun ls hl => ?_)
            refine lv_iload hx hb dX7_bestPlace_54 (lv_at hl 0 rfl) ?_
            refine lv_iload_n hx hb dX7_bestPlace_56 rfl (lv_at hl 4 rfl) ?_
            refine lv_icmp_ge (tgt := 65) hx hb dX7_bestPlace_57 (by decide) (fun c_13 => ?_) (fun c_13 => ?_)
            · refine lv_iload_n hx hb dX7_bestPlace_65 rfl (lv_at hl 3 rfl) ?_
              refine lv_istore_n (lv' := [(2, .int (pX7_bestPlace_L17 u w a1 i).1), (5, .int (pX7_windsOver u w (nI i))), (0, .ref (A 0)), (1, .int a1), (3, .int (pX7_bestPlace_L17 u w a1 i).2), (4, .int (nI i))]) hx hb dX7_bestPlace_66 rfl hl (by decide) rfl (fun ls hl => ?_)
              refine lv_iload hx hb dX7_bestPlace_67 (lv_at hl 1 rfl) ?_
              refine lv_iload_n hx hb dX7_bestPlace_69 rfl (lv_at hl 4 rfl) ?_
              refine lv_icmp_ge (tgt := 78) hx hb dX7_bestPlace_70 (by decide) (fun c_14 => ?_) (fun c_14 => absurd c_13 c_14)
              refine lv_iload_n hx hb dX7_bestPlace_78 rfl (lv_at hl 4 rfl) ?_
              refine lv_istore_n (lv' := [(3, .int (pX7_bestPlace_L17 u w a1 i).2), (2, .int (pX7_bestPlace_L17 u w a1 i).1), (5, .int (pX7_windsOver u w (nI i))), (0, .ref (A 0)), (1, .int a1), (4, .int (nI i))]) hx hb dX7_bestPlace_79 rfl hl (by decide) rfl (fun ls hl => ?_)
              refine lv_iinc (v := (nI (i + 1))) (lv' := [(4, .int (nI (i + 1))), (3, .int (pX7_bestPlace_L17 u w a1 i).2), (2, .int (pX7_bestPlace_L17 u w a1 i).1), (5, .int (pX7_windsOver u w (nI i))), (0, .ref (A 0)), (1, .int a1)]) hx hb dX7_bestPlace_80 hl (k := 5) rfl (nI_succ i).symm (by decide) rfl (fun ls hl => ?_)
              refine lv_goto (tgt := 17) hx hb dX7_bestPlace_83 (by decide) ?_
              have e8 : pX7_bestPlace_L17 u w a1 (i + 1) = ((pX7_bestPlace_L17 u w a1 i).1, (pX7_bestPlace_L17 u w a1 i).2) := by rw [pX7_bestPlace_L17_s] <;> simp only [if_neg c_1, if_neg c_5, if_pos c_9, if_pos c_13]
              exact ih_17 (i + 1) (by omega) ls (by rw [e8]; exact lv_sub hl [4, 5, 2, 1, 0] rfl)
            · refine lv_iload hx hb dX7_bestPlace_60 (lv_at hl 5 rfl) ?_
              refine lv_goto (tgt := 66) hx hb dX7_bestPlace_62 (by decide) ?_
              refine lv_istore_n (lv' := [(2, .int (nI i)), (5, .int (pX7_windsOver u w (nI i))), (0, .ref (A 0)), (1, .int a1), (3, .int (pX7_bestPlace_L17 u w a1 i).2), (4, .int (nI i))]) hx hb dX7_bestPlace_66 rfl hl (by decide) rfl (fun ls hl => ?_)
              refine lv_iload hx hb dX7_bestPlace_67 (lv_at hl 1 rfl) ?_
              refine lv_iload_n hx hb dX7_bestPlace_69 rfl (lv_at hl 4 rfl) ?_
              refine lv_icmp_ge (tgt := 78) hx hb dX7_bestPlace_70 (by decide) (fun c_15 => absurd c_15 c_13) (fun c_15 => ?_)
              refine lv_iload hx hb dX7_bestPlace_73 (lv_at hl 1 rfl) ?_
              refine lv_goto (tgt := 79) hx hb dX7_bestPlace_75 (by decide) ?_
              refine lv_istore_n (lv' := [(3, .int (pX7_windsOver u w (nI i))), (2, .int (nI i)), (5, .int (pX7_windsOver u w (nI i))), (0, .ref (A 0)), (1, .int a1), (4, .int (nI i))]) hx hb dX7_bestPlace_79 rfl hl (by decide) rfl (fun ls hl => ?_)
              refine lv_iinc (v := (nI (i + 1))) (lv' := [(4, .int (nI (i + 1))), (3, .int (pX7_windsOver u w (nI i))), (2, .int (nI i)), (5, .int (pX7_windsOver u w (nI i))), (0, .ref (A 0)), (1, .int a1)]) hx hb dX7_bestPlace_80 hl (k := 5) rfl (nI_succ i).symm (by decide) rfl (fun ls hl => ?_)
              refine lv_goto (tgt := 17) hx hb dX7_bestPlace_83 (by decide) ?_
              have e8 : pX7_bestPlace_L17 u w a1 (i + 1) = ((nI i), (pX7_windsOver u w (nI i))) := by rw [pX7_bestPlace_L17_s] <;> simp only [if_neg c_1, if_neg c_5, if_pos c_9, if_neg c_13]
              exact ih_17 (i + 1) (by omega) ls (by rw [e8]; exact lv_sub hl [4, 5, 2, 1, 0] rfl)
    exact key_17 28 0 (Nat.zero_add 28) ls (lv_sub hl [3, 4, 2, 1, 0] rfl)
  · refine lv_iconst (v := (-1)) hx hb dX7_bestPlace_7 (by decide) ?_
    have e9 : (-1) = (pX7_bestPlace u w a1) := by simp only [pX7_bestPlace, if_pos c_1]
    exact W.iret (v := (-1)) hx hb hr (fun t ht hW => ⟨_, rfl, e9, ht⟩) (fun _ h => absurd h List.not_mem_nil) dX7_bestPlace_8
theorem bV_X7_bestPlace : BV RX7 yX7_bestPlace cX7_bestPlace 6 (some .int) 1 := ⟨wcd_X7_bestPlace, wim_X7_bestPlace, wse_X7_bestPlace, win_RX7, by decide +kernel⟩
def pX7_undo (u : (Nat → Nat → Int32)) (w : (Nat → Int32)) (kn : Nat) : Int32 × (Nat → Nat → Int32) × (Nat → Int32) := (if (nI kn) = 0 then ((-2), u, (va_up w 3 (nI kn))) else (((nI kn) - (1 : Int32)), (va_up u 0 ((pX7_copies (fun _ => (u 2)) (fun _ => (u 0)) (142 * (kn - 1)) 0 568 142) 0)), (va_up w 3 ((nI kn) - (1 : Int32)))))
set_option maxHeartbeats 4000000 in
set_option maxRecDepth 100000 in
theorem kX7_undo (l : Launch) (D : va_G) (cyC cyI cyO : ClassId) (A : Nat → Nat) (u : (Nat → Nat → Int32)) (w : (Nat → Int32)) (kn : Nat) (hkn : kn ≤ 4) : MU l yX7_undo (Ty yX7_undo cX7_undo 1 (some .int)) ({ frames := 1, cells := 0, slots := 0, locals := 24 } : Room) D cyC cyI cyO (wM cyI A u (va_up w 3 (nI kn))) [.ref (A 0)] (some (.int (pX7_undo u w kn).1)) (wM cyI A (pX7_undo u w kn).2.1 (pX7_undo u w kn).2.2) := by
  intro sz
  refine Met.ofW (cc := cX7_undo) (maxL := 1) (ret := (some .int)) (by decide) rfl ?_
  intro p e s m args below meth cd s₁ B hml hv
  obtain ⟨rfl, hsz, hP, hK, hD0⟩ := hv
  have hx := B.exec
  have hb := B.bytes
  have hr := B.returns
  have hts : ∀ w ∈ TB, w.before ([.ref (A 0)] : List Value).toArray s = true := fun w h => atoms_spec (ws := (Ty yX7_undo cX7_undo 1 (some .int))) B.pre w (List.mem_cons_of_mem _ h)
  have hown : s.vm.findClass RX7 = some m.cls := findClass_of_methodNamed B.named
  have hlocks := B.notSynchronized
  subst hsz
  have hD := hD0.self (sz := s.heap.size)
  have hA : ∀ q : Nat, s.heap.size ≤ q → (va_A (wM cyI A u (va_up w 3 (nI kn))) s.heap.size) q := fun q h => Or.inr h
  generalize hAe : va_A (wM cyI A u (va_up w 3 (nI kn))) s.heap.size = A0 at hD hA ⊢
  have hS : va_S A0 s.heap s.heap [] := va_S.rf
  have hl := lv_entry ([.ref (A 0)]) (n := 1) (Nat.le_of_ble_eq_true rfl)
  rw [lg_entry_eq]
  generalize (lg_sl ([.ref (A 0)]) ++ List.replicate (1 - (lg_sl ([.ref (A 0)])).length) Slot.unset).toArray = ls at hl ⊢
  have hl : lv_has ls 1 [(0, .ref (A 0))] := hl
  refine lv_aload_n hx hb dX7_undo_0 rfl (lv_at hl 0 rfl) ?_
  refine va_get (D := D) (ci := 6) (v := .int (nI kn)) (C := RX7) (T := TX7) (N := 15) hx hb hts inT_X7 hown hK.1 hP 0 rfl rfl 3 (by decide) (hts _ wfl_RX7_33) (fun _ h9 => h9) rfl dX7_undo_1 ?_
  refine lv_if_ne (tgt := 10) hx hb dX7_undo_4 (by decide) (fun c_1 => ?_) (fun c_1 => ?_)
  · refine lv_aload_n hx hb dX7_undo_10 rfl (lv_at hl 0 rfl) ?_
    refine lv_dup hx hb dX7_undo_11 rfl ?_
    refine va_get (D := D) (ci := 6) (v := .int (nI kn)) (C := RX7) (T := TX7) (N := 15) hx hb hts inT_X7 hown hK.1 hP 0 rfl rfl 3 (by decide) (hts _ wfl_RX7_33) (fun _ h9 => h9) rfl dX7_undo_12 ?_
    refine lv_iconst (v := 1) hx hb dX7_undo_15 (by decide) ?_
    refine lv_isub hx hb dX7_undo_16 ?_
    refine va_put (D := D) (ci := 6) (v := .int ((nI kn) - (1 : Int32))) (ty := .int) (C := RX7) (T := TX7) (N := 15) hx hb hts inT_X7 tyX7 tyX7_ok nmX7 hown hK.1 hP hD hS 0 rfl rfl 3 (by decide) (hts _ wfl_RX7_33) (fun _ h9 => h9) rfl (by decide +kernel) (by rfl) rfl (Nat.le_of_ble_eq_true rfl) dX7_undo_17 (fun H locs hP hD hS => ?_)
    have hP : va_P D vwCl (wM cyI A u (va_up w 3 ((nI kn) - (1 : Int32)))) H := hP
    have hD : va_D A0 (wM cyI A u (va_up w 3 ((nI kn) - (1 : Int32)))) := hD
    refine lv_aload_n hx hb dX7_undo_20 rfl (lv_at hl 0 rfl) ?_
    refine va_get (D := D) (ci := 6) (v := .ref (A 3)) (C := RX7) (T := TX7) (N := 15) hx hb hts inT_X7 hown hK.1 hP 0 rfl rfl 2 (by decide) (hts _ wfl_RX7_16) (fun _ h9 => h9) rfl dX7_undo_21 ?_
    refine lv_sipush (v := 142) hx hb dX7_undo_24 (by decide) ?_
    refine lv_aload_n hx hb dX7_undo_27 rfl (lv_at hl 0 rfl) ?_
    refine va_get (D := D) (ci := 6) (v := .int ((nI kn) - (1 : Int32))) (C := RX7) (T := TX7) (N := 15) hx hb hts inT_X7 hown hK.1 hP 0 rfl rfl 3 (by decide) (hts _ wfl_RX7_33) (fun _ h9 => h9) rfl dX7_undo_28 ?_
    refine lv_imul hx hb dX7_undo_31 ?_
    refine lv_aload_n hx hb dX7_undo_32 rfl (lv_at hl 0 rfl) ?_
    refine va_get (D := D) (ci := 6) (v := .ref (A 1)) (C := RX7) (T := TX7) (N := 15) hx hb hts inT_X7 hown hK.1 hP 0 rfl rfl 0 (by decide) (hts _ wfl_RX7_7) (fun _ h9 => h9) rfl dX7_undo_33 ?_
    refine lv_iconst (v := 0) hx hb dX7_undo_36 (by decide) ?_
    refine W.eq (g2 := F0 m _ ls [.int 0, .ref (A 1), .int (nI (142 * (kn - 1))), .ref (A 3)]) (by rw [show ((142 : Int32) * ((nI kn) - (1 : Int32))) = (nI (142 * (kn - 1))) from (by have h9 := kn1 c_1; rw [show (142 : Int32) = nI 142 from rfl, show (1 : Int32) = nI 1 from rfl, pk_sub h9, pk_mul])] <;> rfl) ?_
    obtain ⟨z_2, hz_2⟩ : ∃ q, q = (pX7_copies (fun _ => (u 2)) (fun _ => (u 0)) (142 * (kn - 1)) 0 568 142) := ⟨_, rfl⟩
    refine mS (ws := (wM cyI A u (va_up w 3 ((nI kn) - (1 : Int32))))) (ws' := (wM cyI A (va_up u 0 (z_2 0)) (va_up w 3 ((nI kn) - (1 : Int32))))) (As := [.ref (A 3), .int (nI (142 * (kn - 1))), .ref (A 1), .int 0]) (rest := []) hx hb hml hown hts hl.1 (WS := (wQ cyI 568 (fun _ => (A 3)) (fun _ => (u 2)) ++ (wQ cyI 142 (fun _ => (A 1)) (fun _ => (u 0))))) (WS' := (wQ cyI 568 (fun _ => (A 3)) (fun _ => (u 2)) ++ (wQ cyI 142 (fun _ => (A 1)) z_2))) (ro := none) (by rw [hz_2]; exact kX7_copies l D cyC cyI cyO (fun _ => (A 3)) (fun _ => (A 1)) (fun _ => (u 2)) (fun _ => (u 0)) (142 * (kn - 1)) 0 568 142 (by omega) (by decide) (by decide) (by decide)) bS_X7_copies  wml_RX7_37 ⟨rfl, rfl⟩ ⟨Nat.le_of_ble_eq_true rfl, Nat.le_of_ble_eq_true rfl, Nat.zero_le _, Nat.zero_le _⟩ [3, 1] rfl rfl rfl rfl rfl hP hD hS hA hK rfl rfl (Nat.le_of_ble_eq_true rfl) dX7_undo_37 (fun H locs hP hD hS => ?_)
    refine lv_aload_n hx hb dX7_undo_40 rfl (lv_at hl 0 rfl) ?_
    refine va_get (D := D) (ci := 6) (v := .int ((nI kn) - (1 : Int32))) (C := RX7) (T := TX7) (N := 15) hx hb hts inT_X7 hown hK.1 hP 0 rfl rfl 3 (by decide) (hts _ wfl_RX7_33) (fun _ h9 => h9) rfl dX7_undo_41 ?_
    have e9 : (pX7_undo u w kn) = (((nI kn) - (1 : Int32)), (va_up u 0 (z_2 0)), (va_up w 3 ((nI kn) - (1 : Int32)))) := by simp only [pX7_undo, ← hz_2, if_neg c_1]
    have e9_0 : (pX7_undo u w kn).1 = ((nI kn) - (1 : Int32)) := by rw [e9]
    have e9_1 : (pX7_undo u w kn).2.1 = (va_up u 0 (z_2 0)) := by rw [e9]
    have e9_2 : (pX7_undo u w kn).2.2 = (va_up w 3 ((nI kn) - (1 : Int32))) := by rw [e9]
    exact W.iret (v := ((nI kn) - (1 : Int32))) hx hb hr (fun t ht hW => ⟨⟨by rw [e9_0], by rw [e9_1, e9_2, ht]; exact hP⟩, hS.F ht⟩) hS.2.2 dX7_undo_44
  · refine lv_bipush (v := (-2)) hx hb dX7_undo_7 (by decide) ?_
    have e9 : (pX7_undo u w kn) = ((-2), u, (va_up w 3 (nI kn))) := by simp only [pX7_undo, if_pos c_1]
    have e9_0 : (pX7_undo u w kn).1 = (-2) := by rw [e9]
    have e9_1 : (pX7_undo u w kn).2.1 = u := by rw [e9]
    have e9_2 : (pX7_undo u w kn).2.2 = (va_up w 3 (nI kn)) := by rw [e9]
    exact W.iret (v := (-2)) hx hb hr (fun t ht hW => ⟨⟨by rw [e9_0], by rw [e9_1, e9_2, ht]; exact hP⟩, hS.F ht⟩) hS.2.2 dX7_undo_9
theorem bV_X7_undo : BV RX7 yX7_undo cX7_undo 1 (some .int) 0 := ⟨wcd_X7_undo, wim_X7_undo, wse_X7_undo, win_RX7, by decide +kernel⟩
def pX7_save (u : (Nat → Nat → Int32)) (w : (Nat → Int32)) : Int32 × (Nat → Nat → Int32) × (Nat → Int32) := ((pX7_linesNow (va_up u 3 ((pX7_copies (fun _ => (u 0)) (fun _ => (u 3)) 0 0 142 142) 0)) (va_up w 5 1)), (va_up u 3 ((pX7_copies (fun _ => (u 0)) (fun _ => (u 3)) 0 0 142 142) 0)), (va_up w 5 1))
set_option maxHeartbeats 4000000 in
set_option maxRecDepth 100000 in
theorem kX7_save (l : Launch) (D : va_G) (cyC cyI cyO : ClassId) (A : Nat → Nat) (u : (Nat → Nat → Int32)) (w : (Nat → Int32)) : MU l yX7_save (Ty yX7_save cX7_save 1 (some .int)) ({ frames := 3, cells := 0, slots := 0, locals := 65 } : Room) D cyC cyI cyO (wM cyI A u w) [.ref (A 0)] (some (.int (pX7_save u w).1)) (wM cyI A (pX7_save u w).2.1 (pX7_save u w).2.2) := by
  intro sz
  refine Met.ofW (cc := cX7_save) (maxL := 1) (ret := (some .int)) (by decide) rfl ?_
  intro p e s m args below meth cd s₁ B hml hv
  obtain ⟨rfl, hsz, hP, hK, hD0⟩ := hv
  have hx := B.exec
  have hb := B.bytes
  have hr := B.returns
  have hts : ∀ w ∈ TB, w.before ([.ref (A 0)] : List Value).toArray s = true := fun w h => atoms_spec (ws := (Ty yX7_save cX7_save 1 (some .int))) B.pre w (List.mem_cons_of_mem _ h)
  have hown : s.vm.findClass RX7 = some m.cls := findClass_of_methodNamed B.named
  have hlocks := B.notSynchronized
  subst hsz
  have hD := hD0.self (sz := s.heap.size)
  have hA : ∀ q : Nat, s.heap.size ≤ q → (va_A (wM cyI A u w) s.heap.size) q := fun q h => Or.inr h
  generalize hAe : va_A (wM cyI A u w) s.heap.size = A0 at hD hA ⊢
  have hS : va_S A0 s.heap s.heap [] := va_S.rf
  have hl := lv_entry ([.ref (A 0)]) (n := 1) (Nat.le_of_ble_eq_true rfl)
  rw [lg_entry_eq]
  generalize (lg_sl ([.ref (A 0)]) ++ List.replicate (1 - (lg_sl ([.ref (A 0)])).length) Slot.unset).toArray = ls at hl ⊢
  have hl : lv_has ls 1 [(0, .ref (A 0))] := hl
  refine lv_aload_n hx hb dX7_save_0 rfl (lv_at hl 0 rfl) ?_
  refine va_get (D := D) (ci := 6) (v := .ref (A 1)) (C := RX7) (T := TX7) (N := 15) hx hb hts inT_X7 hown hK.1 hP 0 rfl rfl 0 (by decide) (hts _ wfl_RX7_7) (fun _ h9 => h9) rfl dX7_save_1 ?_
  refine lv_iconst (v := 0) hx hb dX7_save_4 (by decide) ?_
  refine lv_aload_n hx hb dX7_save_5 rfl (lv_at hl 0 rfl) ?_
  refine va_get (D := D) (ci := 6) (v := .ref (A 4)) (C := RX7) (T := TX7) (N := 15) hx hb hts inT_X7 hown hK.1 hP 0 rfl rfl 4 (by decide) (hts _ wfl_RX7_19) (fun _ h9 => h9) rfl dX7_save_6 ?_
  refine lv_iconst (v := 0) hx hb dX7_save_9 (by decide) ?_
  obtain ⟨z_1, hz_1⟩ : ∃ q, q = (pX7_copies (fun _ => (u 0)) (fun _ => (u 3)) 0 0 142 142) := ⟨_, rfl⟩
  refine mS (ws := (wM cyI A u w)) (ws' := (wM cyI A (va_up u 3 (z_1 0)) w)) (As := [.ref (A 1), .int 0, .ref (A 4), .int 0]) (rest := []) hx hb hml hown hts hl.1 (WS := (wQ cyI 142 (fun _ => (A 1)) (fun _ => (u 0)) ++ (wQ cyI 142 (fun _ => (A 4)) (fun _ => (u 3))))) (WS' := (wQ cyI 142 (fun _ => (A 1)) (fun _ => (u 0)) ++ (wQ cyI 142 (fun _ => (A 4)) z_1))) (ro := none) (by rw [hz_1]; exact kX7_copies l D cyC cyI cyO (fun _ => (A 1)) (fun _ => (A 4)) (fun _ => (u 0)) (fun _ => (u 3)) 0 0 142 142 (by decide) (by decide) (by decide) (by decide)) bS_X7_copies  wml_RX7_37 ⟨rfl, rfl⟩ ⟨Nat.le_of_ble_eq_true rfl, Nat.le_of_ble_eq_true rfl, Nat.zero_le _, Nat.zero_le _⟩ [1, 4] rfl rfl rfl rfl rfl hP hD hS hA hK rfl rfl (Nat.le_of_ble_eq_true rfl) dX7_save_10 (fun H locs hP hD hS => ?_)
  refine lv_aload_n hx hb dX7_save_13 rfl (lv_at hl 0 rfl) ?_
  refine lv_iconst (v := 1) hx hb dX7_save_14 (by decide) ?_
  refine va_put (D := D) (ci := 6) (v := .int 1) (ty := .boolean) (C := RX7) (T := TX7) (N := 15) hx hb hts inT_X7 tyX7 tyX7_ok nmX7 hown hK.1 hP hD hS 0 rfl rfl 5 (by decide) (hts _ wfl_RX7_235) (fun _ h9 => h9) rfl (by decide +kernel) (by rfl) (by rfl) (Nat.le_of_ble_eq_true rfl) dX7_save_15 (fun H locs hP hD hS => ?_)
  have hP : va_P D vwCl (wM cyI A (va_up u 3 (z_1 0)) (va_up w 5 1)) H := hP
  have hD : va_D A0 (wM cyI A (va_up u 3 (z_1 0)) (va_up w 5 1)) := hD
  refine lv_aload_n hx hb dX7_save_18 rfl (lv_at hl 0 rfl) ?_
  refine rV (As := []) (rest := []) hx hb hml hown hts hl.1 (kX7_linesNow l D cyC cyI cyO A (va_up u 3 (z_1 0)) (va_up w 5 1)) bV_X7_linesNow  wml_RX7_105 ⟨rfl, rfl⟩ ⟨Nat.le_of_ble_eq_true rfl, Nat.le_of_ble_eq_true rfl, Nat.zero_le _, Nat.zero_le _⟩ [0, 1, 2, 3, 4, 5, 6] rfl hP hK 0 rfl rfl rfl rfl rfl (Nat.le_of_ble_eq_true rfl) dX7_save_19 ?_
  have e9 : (pX7_save u w) = ((pX7_linesNow (va_up u 3 (z_1 0)) (va_up w 5 1)), (va_up u 3 (z_1 0)), (va_up w 5 1)) := by simp only [pX7_save, ← hz_1]
  have e9_0 : (pX7_save u w).1 = (pX7_linesNow (va_up u 3 (z_1 0)) (va_up w 5 1)) := by rw [e9]
  have e9_1 : (pX7_save u w).2.1 = (va_up u 3 (z_1 0)) := by rw [e9]
  have e9_2 : (pX7_save u w).2.2 = (va_up w 5 1) := by rw [e9]
  exact W.iret (v := (pX7_linesNow (va_up u 3 (z_1 0)) (va_up w 5 1))) hx hb hr (fun t ht hW => ⟨⟨by rw [e9_0], by rw [e9_1, e9_2, ht]; exact hP⟩, hS.F ht⟩) hS.2.2 dX7_save_22
theorem bV_X7_save : BV RX7 yX7_save cX7_save 1 (some .int) 0 := ⟨wcd_X7_save, wim_X7_save, wse_X7_save, win_RX7, by decide +kernel⟩
def pX7_restore (u : (Nat → Nat → Int32)) (w : (Nat → Int32)) (kn : Nat) : Int32 × (Nat → Nat → Int32) × (Nat → Int32) := (if (w 5) = 0 then ((-2), u, w) else ((pX7_linesNow (va_up (pX7_records u w kn).1 0 ((pX7_copies (fun _ => ((pX7_records u w kn).1 3)) (fun _ => ((pX7_records u w kn).1 0)) 0 0 142 142) 0)) (pX7_records u w kn).2), (va_up (pX7_records u w kn).1 0 ((pX7_copies (fun _ => ((pX7_records u w kn).1 3)) (fun _ => ((pX7_records u w kn).1 0)) 0 0 142 142) 0)), (pX7_records u w kn).2))
set_option maxHeartbeats 4000000 in
set_option maxRecDepth 100000 in
theorem kX7_restore (l : Launch) (D : va_G) (cyC cyI cyO : ClassId) (A : Nat → Nat) (u : (Nat → Nat → Int32)) (w : (Nat → Int32)) (kn : Nat) (hkn : kn ≤ 4) (hk : (w 3) = nI kn) : MU l yX7_restore (Ty yX7_restore cX7_restore 1 (some .int)) ({ frames := 3, cells := 0, slots := 0, locals := 65 } : Room) D cyC cyI cyO (wM cyI A u w) [.ref (A 0)] (some (.int (pX7_restore u w kn).1)) (wM cyI A (pX7_restore u w kn).2.1 (pX7_restore u w kn).2.2) := by
  intro sz
  refine Met.ofW (cc := cX7_restore) (maxL := 1) (ret := (some .int)) (by decide) rfl ?_
  intro p e s m args below meth cd s₁ B hml hv
  obtain ⟨rfl, hsz, hP, hK, hD0⟩ := hv
  have hx := B.exec
  have hb := B.bytes
  have hr := B.returns
  have hts : ∀ w ∈ TB, w.before ([.ref (A 0)] : List Value).toArray s = true := fun w h => atoms_spec (ws := (Ty yX7_restore cX7_restore 1 (some .int))) B.pre w (List.mem_cons_of_mem _ h)
  have hown : s.vm.findClass RX7 = some m.cls := findClass_of_methodNamed B.named
  have hlocks := B.notSynchronized
  subst hsz
  have hD := hD0.self (sz := s.heap.size)
  have hA : ∀ q : Nat, s.heap.size ≤ q → (va_A (wM cyI A u w) s.heap.size) q := fun q h => Or.inr h
  generalize hAe : va_A (wM cyI A u w) s.heap.size = A0 at hD hA ⊢
  have hS : va_S A0 s.heap s.heap [] := va_S.rf
  have hl := lv_entry ([.ref (A 0)]) (n := 1) (Nat.le_of_ble_eq_true rfl)
  rw [lg_entry_eq]
  generalize (lg_sl ([.ref (A 0)]) ++ List.replicate (1 - (lg_sl ([.ref (A 0)])).length) Slot.unset).toArray = ls at hl ⊢
  have hl : lv_has ls 1 [(0, .ref (A 0))] := hl
  refine lv_aload_n hx hb dX7_restore_0 rfl (lv_at hl 0 rfl) ?_
  refine va_get (D := D) (ci := 6) (v := .int (w 5)) (C := RX7) (T := TX7) (N := 15) hx hb hts inT_X7 hown hK.1 hP 0 rfl rfl 5 (by decide) (hts _ wfl_RX7_235) (fun _ h9 => h9) rfl dX7_restore_1 ?_
  refine lv_if_ne (tgt := 10) hx hb dX7_restore_4 (by decide) (fun c_1 => ?_) (fun c_1 => ?_)
  · refine lv_aload_n hx hb dX7_restore_10 rfl (lv_at hl 0 rfl) ?_
    obtain ⟨z_2, hz_2⟩ : ∃ q, q = (pX7_records u w kn) := ⟨_, rfl⟩
    refine mV (ws := (wM cyI A u w)) (ws' := (wM cyI A z_2.1 z_2.2)) (As := []) (rest := []) hx hb hml hown hts hl.1 (WS := (wM cyI A u w)) (WS' := (wM cyI A z_2.1 z_2.2)) (ro := none) (by rw [hz_2]; exact kX7_recordsK l D cyC cyI cyO A u w kn hkn hk) bV_X7_records  wml_RX7_118 ⟨rfl, rfl⟩ ⟨Nat.le_of_ble_eq_true rfl, Nat.le_of_ble_eq_true rfl, Nat.zero_le _, Nat.zero_le _⟩ [0, 1, 2, 3, 4, 5, 6] rfl rfl rfl rfl rfl hP hD hS hA hK 0 rfl rfl rfl rfl rfl (Nat.le_of_ble_eq_true rfl) dX7_restore_11 (fun H locs hP hD hS => ?_)
    refine lv_aload_n hx hb dX7_restore_14 rfl (lv_at hl 0 rfl) ?_
    refine va_get (D := D) (ci := 6) (v := .ref (A 4)) (C := RX7) (T := TX7) (N := 15) hx hb hts inT_X7 hown hK.1 hP 0 rfl rfl 4 (by decide) (hts _ wfl_RX7_19) (fun _ h9 => h9) rfl dX7_restore_15 ?_
    refine lv_iconst (v := 0) hx hb dX7_restore_18 (by decide) ?_
    refine lv_aload_n hx hb dX7_restore_19 rfl (lv_at hl 0 rfl) ?_
    refine va_get (D := D) (ci := 6) (v := .ref (A 1)) (C := RX7) (T := TX7) (N := 15) hx hb hts inT_X7 hown hK.1 hP 0 rfl rfl 0 (by decide) (hts _ wfl_RX7_7) (fun _ h9 => h9) rfl dX7_restore_20 ?_
    refine lv_iconst (v := 0) hx hb dX7_restore_23 (by decide) ?_
    obtain ⟨z_3, hz_3⟩ : ∃ q, q = (pX7_copies (fun _ => (z_2.1 3)) (fun _ => (z_2.1 0)) 0 0 142 142) := ⟨_, rfl⟩
    refine mS (ws := (wM cyI A z_2.1 z_2.2)) (ws' := (wM cyI A (va_up z_2.1 0 (z_3 0)) z_2.2)) (As := [.ref (A 4), .int 0, .ref (A 1), .int 0]) (rest := []) hx hb hml hown hts hl.1 (WS := (wQ cyI 142 (fun _ => (A 4)) (fun _ => (z_2.1 3)) ++ (wQ cyI 142 (fun _ => (A 1)) (fun _ => (z_2.1 0))))) (WS' := (wQ cyI 142 (fun _ => (A 4)) (fun _ => (z_2.1 3)) ++ (wQ cyI 142 (fun _ => (A 1)) z_3))) (ro := none) (by rw [hz_3]; exact kX7_copies l D cyC cyI cyO (fun _ => (A 4)) (fun _ => (A 1)) (fun _ => (z_2.1 3)) (fun _ => (z_2.1 0)) 0 0 142 142 (by decide) (by decide) (by decide) (by decide)) bS_X7_copies  wml_RX7_37 ⟨rfl, rfl⟩ ⟨Nat.le_of_ble_eq_true rfl, Nat.le_of_ble_eq_true rfl, Nat.zero_le _, Nat.zero_le _⟩ [4, 1] rfl rfl rfl rfl rfl hP hD hS hA hK rfl rfl (Nat.le_of_ble_eq_true rfl) dX7_restore_24 (fun H locs hP hD hS => ?_)
    refine lv_aload_n hx hb dX7_restore_27 rfl (lv_at hl 0 rfl) ?_
    refine rV (As := []) (rest := []) hx hb hml hown hts hl.1 (kX7_linesNow l D cyC cyI cyO A (va_up z_2.1 0 (z_3 0)) z_2.2) bV_X7_linesNow  wml_RX7_105 ⟨rfl, rfl⟩ ⟨Nat.le_of_ble_eq_true rfl, Nat.le_of_ble_eq_true rfl, Nat.zero_le _, Nat.zero_le _⟩ [0, 1, 2, 3, 4, 5, 6] rfl hP hK 0 rfl rfl rfl rfl rfl (Nat.le_of_ble_eq_true rfl) dX7_restore_28 ?_
    have e9 : (pX7_restore u w kn) = ((pX7_linesNow (va_up z_2.1 0 (z_3 0)) z_2.2), (va_up z_2.1 0 (z_3 0)), z_2.2) := by simp only [pX7_restore, ← hz_2, ← hz_3, if_neg c_1]
    have e9_0 : (pX7_restore u w kn).1 = (pX7_linesNow (va_up z_2.1 0 (z_3 0)) z_2.2) := by rw [e9]
    have e9_1 : (pX7_restore u w kn).2.1 = (va_up z_2.1 0 (z_3 0)) := by rw [e9]
    have e9_2 : (pX7_restore u w kn).2.2 = z_2.2 := by rw [e9]
    exact W.iret (v := (pX7_linesNow (va_up z_2.1 0 (z_3 0)) z_2.2)) hx hb hr (fun t ht hW => ⟨⟨by rw [e9_0], by rw [e9_1, e9_2, ht]; exact hP⟩, hS.F ht⟩) hS.2.2 dX7_restore_31
  · refine lv_bipush (v := (-2)) hx hb dX7_restore_7 (by decide) ?_
    have e9 : (pX7_restore u w kn) = ((-2), u, w) := by simp only [pX7_restore, if_pos c_1]
    have e9_0 : (pX7_restore u w kn).1 = (-2) := by rw [e9]
    have e9_1 : (pX7_restore u w kn).2.1 = u := by rw [e9]
    have e9_2 : (pX7_restore u w kn).2.2 = w := by rw [e9]
    exact W.iret (v := (-2)) hx hb hr (fun t ht hW => ⟨⟨by rw [e9_0], by rw [e9_1, e9_2, ht]; exact hP⟩, hS.F ht⟩) hS.2.2 dX7_restore_9
theorem bV_X7_restore : BV RX7 yX7_restore cX7_restore 1 (some .int) 0 := ⟨wcd_X7_restore, wim_X7_restore, wse_X7_restore, win_RX7, by decide +kernel⟩
