def pX0_letBear (u : (Nat → Nat → Int32)) (w : (Nat → Int32)) (a1 : Int32) (a2 : Int32) : (Nat → Nat → Int32) × (Nat → Int32) := (if a2 = 0 then (if (pX0_hasLine (va_up u 0 (upd (u 0) (a1).toNatClampNeg a2)) w a1) = 0 then ((va_up u 0 (upd (u 0) (a1).toNatClampNeg a2)), w) else ((va_up (va_up u 0 (upd (u 0) (a1).toNatClampNeg a2)) 1 (upd (u 1) (a1).toNatClampNeg (-1 : Int32))), (va_up w 17 ((w 17) + (1 : Int32))))) else ((va_up u 0 (upd (u 0) (a1).toNatClampNeg a2)), w))
set_option maxHeartbeats 4000000 in
set_option maxRecDepth 100000 in
theorem kX0_letBear (l : Launch) (D : va_G) (cyC cyI cyO : ClassId) (A : Nat → Nat) (u : (Nat → Nat → Int32)) (w : (Nat → Int32)) (a1 : Int32) (a2 : Int32) (h1 : vp_in a1 28) : MU l yX0_letBear (Ty yX0_letBear cX0_letBear 3 none) ({ frames := 1, cells := 0, slots := 0, locals := 21 } : Room) D cyC cyI cyO (wC cyI A u w) [.ref (A 0), .int a1, .int a2] none (wC cyI A (pX0_letBear u w a1 a2).1 (pX0_letBear u w a1 a2).2) := by
  intro sz
  refine Met.ofW (cc := cX0_letBear) (maxL := 3) (ret := none) (by decide) rfl ?_
  intro p e s m args below meth cd s₁ B hml hv
  obtain ⟨rfl, hsz, hP, hK, hD0⟩ := hv
  have hx := B.exec
  have hb := B.bytes
  have hr := B.returns
  have hts : ∀ w ∈ TB, w.before ([.ref (A 0), .int a1, .int a2] : List Value).toArray s = true := fun w h => atoms_spec (ws := (Ty yX0_letBear cX0_letBear 3 none)) B.pre w (List.mem_cons_of_mem _ h)
  have hown : s.vm.findClass RX0 = some m.cls := findClass_of_methodNamed B.named
  have hlocks := B.notSynchronized
  subst hsz
  have hD := hD0.self (sz := s.heap.size)
  have hA : ∀ q : Nat, s.heap.size ≤ q → (va_A (wC cyI A u w) s.heap.size) q := fun q h => Or.inr h
  generalize hAe : va_A (wC cyI A u w) s.heap.size = A0 at hD hA ⊢
  have hS : va_S A0 s.heap s.heap [] := va_S.rf
  have hl := lv_entry ([.ref (A 0), .int a1, .int a2]) (n := 3) (Nat.le_of_ble_eq_true rfl)
  rw [lg_entry_eq]
  generalize (lg_sl ([.ref (A 0), .int a1, .int a2]) ++ List.replicate (3 - (lg_sl ([.ref (A 0), .int a1, .int a2])).length) Slot.unset).toArray = ls at hl ⊢
  have hl : lv_has ls 3 [(0, .ref (A 0)), (1, .int a1), (2, .int a2)] := hl
  refine lv_aload_n hx hb dX0_letBear_0 rfl (lv_at hl 0 rfl) ?_
  refine va_get (D := D) (ci := 0) (v := .ref (A 1)) (C := RX0) (T := TX0) (N := 19) hx hb hts inT_X0 hown hK.1 hP 0 rfl rfl 0 (by decide) (hts _ wfl_RX0_9) (fun _ h9 => h9) rfl dX0_letBear_1 ?_
  refine lv_iload_n hx hb dX0_letBear_4 rfl (lv_at hl 1 rfl) ?_
  refine lv_iload_n hx hb dX0_letBear_5 rfl (lv_at hl 2 rfl) ?_
  obtain ⟨z_1, hz_1⟩ : ∃ q, q = (upd (u 0) (a1).toNatClampNeg a2) := ⟨_, rfl⟩
  refine va_iast (D := D) (f := (u 0)) hx hb hK.1 hP hD hS 1 1 rfl rfl h1 dX0_letBear_6 (fun H locs hP hD hS => ?_)
  have hP : va_P D vwCl (wC cyI A (va_up u 0 (upd (u 0) (a1).toNatClampNeg a2)) w) H := hP
  have hD : va_D A0 (wC cyI A (va_up u 0 (upd (u 0) (a1).toNatClampNeg a2)) w) := hD
  rw [← hz_1] at hP hD
  refine lv_iload_n hx hb dX0_letBear_7 rfl (lv_at hl 2 rfl) ?_
  refine lv_if_ne (tgt := 36) hx hb dX0_letBear_8 (by decide) (fun c_2 => ?_) (fun c_2 => ?_)
  · have e9 : (pX0_letBear u w a1 a2) = ((va_up u 0 z_1), w) := by simp only [pX0_letBear, ← hz_1, if_neg c_2]
    have e9_0 : (pX0_letBear u w a1 a2).1 = (va_up u 0 z_1) := by rw [e9]
    have e9_1 : (pX0_letBear u w a1 a2).2 = w := by rw [e9]
    exact W.vret hx hb hr (fun t ht hW => ⟨⟨rfl, by rw [e9_0, e9_1, ht]; exact hP⟩, hS.F ht⟩) hS.2.2 dX0_letBear_36
  · refine lv_aload_n hx hb dX0_letBear_11 rfl (lv_at hl 0 rfl) ?_
    refine lv_iload_n hx hb dX0_letBear_12 rfl (lv_at hl 1 rfl) ?_
    refine rV (As := [.int a1]) (rest := []) hx hb hml hown hts hl.1 (kX0_hasLine l D cyC cyI cyO A (va_up u 0 z_1) w a1 h1) bV_X0_hasLine  wml_RX0_89 ⟨rfl, rfl⟩ ⟨Nat.le_of_ble_eq_true rfl, Nat.le_of_ble_eq_true rfl, Nat.zero_le _, Nat.zero_le _⟩ [0, 1, 2, 3, 4, 5, 6, 7, 8] rfl hP hK 0 rfl rfl rfl rfl rfl (Nat.le_of_ble_eq_true rfl) dX0_letBear_13 ?_
    refine lv_if_eq (tgt := 36) hx hb dX0_letBear_16 (by decide) (fun c_3 => ?_) (fun c_3 => ?_)
    · have e9 : (pX0_letBear u w a1 a2) = ((va_up u 0 z_1), w) := by simp only [pX0_letBear, ← hz_1, if_pos c_2, if_pos c_3]
      have e9_0 : (pX0_letBear u w a1 a2).1 = (va_up u 0 z_1) := by rw [e9]
      have e9_1 : (pX0_letBear u w a1 a2).2 = w := by rw [e9]
      exact W.vret hx hb hr (fun t ht hW => ⟨⟨rfl, by rw [e9_0, e9_1, ht]; exact hP⟩, hS.F ht⟩) hS.2.2 dX0_letBear_36
    · refine lv_aload_n hx hb dX0_letBear_19 rfl (lv_at hl 0 rfl) ?_
      refine va_get (D := D) (ci := 0) (v := .ref (A 2)) (C := RX0) (T := TX0) (N := 19) hx hb hts inT_X0 hown hK.1 hP 0 rfl rfl 1 (by decide) (hts _ wfl_RX0_15) (fun _ h9 => h9) rfl dX0_letBear_20 ?_
      refine lv_iload_n hx hb dX0_letBear_23 rfl (lv_at hl 1 rfl) ?_
      refine lv_iconst (v := (-1)) hx hb dX0_letBear_24 (by decide) ?_
      obtain ⟨z_4, hz_4⟩ : ∃ q, q = (upd (u 1) (a1).toNatClampNeg (-1 : Int32)) := ⟨_, rfl⟩
      refine va_iast (D := D) (f := (u 1)) hx hb hK.1 hP hD hS 2 1 rfl rfl h1 dX0_letBear_25 (fun H locs hP hD hS => ?_)
      have hP : va_P D vwCl (wC cyI A (va_up (va_up u 0 z_1) 1 (upd (u 1) (a1).toNatClampNeg (-1 : Int32))) w) H := hP
      have hD : va_D A0 (wC cyI A (va_up (va_up u 0 z_1) 1 (upd (u 1) (a1).toNatClampNeg (-1 : Int32))) w) := hD
      rw [← hz_4] at hP hD
      refine lv_aload_n hx hb dX0_letBear_26 rfl (lv_at hl 0 rfl) ?_
      refine lv_dup hx hb dX0_letBear_27 rfl ?_
      refine va_get (D := D) (ci := 0) (v := .int (w 17)) (C := RX0) (T := TX0) (N := 19) hx hb hts inT_X0 hown hK.1 hP 0 rfl rfl 17 (by decide) (hts _ wfl_RX0_83) (fun _ h9 => h9) rfl dX0_letBear_28 ?_
      refine lv_iconst (v := 1) hx hb dX0_letBear_31 (by decide) ?_
      refine lv_iadd hx hb dX0_letBear_32 ?_
      refine va_put (D := D) (ci := 0) (v := .int ((w 17) + (1 : Int32))) (ty := .int) (C := RX0) (T := TX0) (N := 19) hx hb hts inT_X0 tyX0 tyX0_ok nmX0 hown hK.1 hP hD hS 0 rfl rfl 17 (by decide) (hts _ wfl_RX0_83) (fun _ h9 => h9) rfl (by decide +kernel) (by rfl) rfl (Nat.le_of_ble_eq_true rfl) dX0_letBear_33 (fun H locs hP hD hS => ?_)
      have hP : va_P D vwCl (wC cyI A (va_up (va_up u 0 z_1) 1 z_4) (va_up w 17 ((w 17) + (1 : Int32)))) H := hP
      have hD : va_D A0 (wC cyI A (va_up (va_up u 0 z_1) 1 z_4) (va_up w 17 ((w 17) + (1 : Int32)))) := hD
      have e9 : (pX0_letBear u w a1 a2) = ((va_up (va_up u 0 z_1) 1 z_4), (va_up w 17 ((w 17) + (1 : Int32)))) := by simp only [pX0_letBear, ← hz_1, ← hz_4, if_pos c_2, if_neg c_3]
      have e9_0 : (pX0_letBear u w a1 a2).1 = (va_up (va_up u 0 z_1) 1 z_4) := by rw [e9]
      have e9_1 : (pX0_letBear u w a1 a2).2 = (va_up w 17 ((w 17) + (1 : Int32))) := by rw [e9]
      exact W.vret hx hb hr (fun t ht hW => ⟨⟨rfl, by rw [e9_0, e9_1, ht]; exact hP⟩, hS.F ht⟩) hS.2.2 dX0_letBear_36
theorem bV_X0_letBear : BV RX0 yX0_letBear cX0_letBear 3 none 2 := ⟨wcd_X0_letBear, wim_X0_letBear, wse_X0_letBear, win_RX0, by decide +kernel⟩
def pX0_toggleChimney (u : (Nat → Nat → Int32)) (w : (Nat → Int32)) (a1 : Int32) : (Nat → Nat → Int32) × (Nat → Int32) := (u, (va_up w 9 ((w 9) ^^^ ((1 : Int32) <<< (a1 &&& 31)))))
set_option maxHeartbeats 4000000 in
set_option maxRecDepth 100000 in
theorem kX0_toggleChimney (l : Launch) (D : va_G) (cyC cyI cyO : ClassId) (A : Nat → Nat) (u : (Nat → Nat → Int32)) (w : (Nat → Int32)) (a1 : Int32) : MU l yX0_toggleChimney (Ty yX0_toggleChimney cX0_toggleChimney 2 none) ({ frames := 0, cells := 0, slots := 0, locals := 0 } : Room) D cyC cyI cyO (wC cyI A u w) [.ref (A 0), .int a1] none (wC cyI A (pX0_toggleChimney u w a1).1 (pX0_toggleChimney u w a1).2) := by
  intro sz
  refine Met.ofW (cc := cX0_toggleChimney) (maxL := 2) (ret := none) (by decide) rfl ?_
  intro p e s m args below meth cd s₁ B hml hv
  obtain ⟨rfl, hsz, hP, hK, hD0⟩ := hv
  have hx := B.exec
  have hb := B.bytes
  have hr := B.returns
  have hts : ∀ w ∈ TB, w.before ([.ref (A 0), .int a1] : List Value).toArray s = true := fun w h => atoms_spec (ws := (Ty yX0_toggleChimney cX0_toggleChimney 2 none)) B.pre w (List.mem_cons_of_mem _ h)
  have hown : s.vm.findClass RX0 = some m.cls := findClass_of_methodNamed B.named
  have hlocks := B.notSynchronized
  subst hsz
  have hD := hD0.self (sz := s.heap.size)
  have hA : ∀ q : Nat, s.heap.size ≤ q → (va_A (wC cyI A u w) s.heap.size) q := fun q h => Or.inr h
  generalize hAe : va_A (wC cyI A u w) s.heap.size = A0 at hD hA ⊢
  have hS : va_S A0 s.heap s.heap [] := va_S.rf
  have hl := lv_entry ([.ref (A 0), .int a1]) (n := 2) (Nat.le_of_ble_eq_true rfl)
  rw [lg_entry_eq]
  generalize (lg_sl ([.ref (A 0), .int a1]) ++ List.replicate (2 - (lg_sl ([.ref (A 0), .int a1])).length) Slot.unset).toArray = ls at hl ⊢
  have hl : lv_has ls 2 [(0, .ref (A 0)), (1, .int a1)] := hl
  refine lv_aload_n hx hb dX0_toggleChimney_0 rfl (lv_at hl 0 rfl) ?_
  refine lv_dup hx hb dX0_toggleChimney_1 rfl ?_
  refine va_get (D := D) (ci := 0) (v := .int (w 9)) (C := RX0) (T := TX0) (N := 19) hx hb hts inT_X0 hown hK.1 hP 0 rfl rfl 9 (by decide) (hts _ wfl_RX0_68) (fun _ h9 => h9) rfl dX0_toggleChimney_2 ?_
  refine lv_iconst (v := 1) hx hb dX0_toggleChimney_5 (by decide) ?_
  refine lv_iload_n hx hb dX0_toggleChimney_6 rfl (lv_at hl 1 rfl) ?_
  refine lv_ishl hx hb dX0_toggleChimney_7 ?_
  refine lv_ixor hx hb dX0_toggleChimney_8 ?_
  refine va_put (D := D) (ci := 0) (v := .int ((w 9) ^^^ ((1 : Int32) <<< (a1 &&& 31)))) (ty := .int) (C := RX0) (T := TX0) (N := 19) hx hb hts inT_X0 tyX0 tyX0_ok nmX0 hown hK.1 hP hD hS 0 rfl rfl 9 (by decide) (hts _ wfl_RX0_68) (fun _ h9 => h9) rfl (by decide +kernel) (by rfl) rfl (Nat.le_of_ble_eq_true rfl) dX0_toggleChimney_9 (fun H locs hP hD hS => ?_)
  have hP : va_P D vwCl (wC cyI A u (va_up w 9 ((w 9) ^^^ ((1 : Int32) <<< (a1 &&& 31))))) H := hP
  have hD : va_D A0 (wC cyI A u (va_up w 9 ((w 9) ^^^ ((1 : Int32) <<< (a1 &&& 31))))) := hD
  have e9 : (pX0_toggleChimney u w a1) = (u, (va_up w 9 ((w 9) ^^^ ((1 : Int32) <<< (a1 &&& 31))))) := rfl
  have e9_0 : (pX0_toggleChimney u w a1).1 = u := by rw [e9]
  have e9_1 : (pX0_toggleChimney u w a1).2 = (va_up w 9 ((w 9) ^^^ ((1 : Int32) <<< (a1 &&& 31)))) := by rw [e9]
  exact W.vret hx hb hr (fun t ht hW => ⟨⟨rfl, by rw [e9_0, e9_1, ht]; exact hP⟩, hS.F ht⟩) hS.2.2 dX0_toggleChimney_12
theorem bV_X0_toggleChimney : BV RX0 yX0_toggleChimney cX0_toggleChimney 2 none 1 := ⟨wcd_X0_toggleChimney, wim_X0_toggleChimney, wse_X0_toggleChimney, win_RX0, by decide +kernel⟩
def pX0_setTruce (u : (Nat → Nat → Int32)) (w : (Nat → Int32)) (a1 : Int32) (a2 : Int32) : (Nat → Nat → Int32) × (Nat → Int32) := (if a2 = 0 then (u, (va_up w 8 ((w 8) &&& (((1 : Int32) <<< (a1 &&& 31)) ^^^ (-1 : Int32))))) else (u, (va_up w 8 ((w 8) ||| ((1 : Int32) <<< (a1 &&& 31))))))
set_option maxHeartbeats 4000000 in
set_option maxRecDepth 100000 in
theorem kX0_setTruce (l : Launch) (D : va_G) (cyC cyI cyO : ClassId) (A : Nat → Nat) (u : (Nat → Nat → Int32)) (w : (Nat → Int32)) (a1 : Int32) (a2 : Int32) : MU l yX0_setTruce (Ty yX0_setTruce cX0_setTruce 3 none) ({ frames := 0, cells := 0, slots := 0, locals := 0 } : Room) D cyC cyI cyO (wC cyI A u w) [.ref (A 0), .int a1, .int a2] none (wC cyI A (pX0_setTruce u w a1 a2).1 (pX0_setTruce u w a1 a2).2) := by
  intro sz
  refine Met.ofW (cc := cX0_setTruce) (maxL := 3) (ret := none) (by decide) rfl ?_
  intro p e s m args below meth cd s₁ B hml hv
  obtain ⟨rfl, hsz, hP, hK, hD0⟩ := hv
  have hx := B.exec
  have hb := B.bytes
  have hr := B.returns
  have hts : ∀ w ∈ TB, w.before ([.ref (A 0), .int a1, .int a2] : List Value).toArray s = true := fun w h => atoms_spec (ws := (Ty yX0_setTruce cX0_setTruce 3 none)) B.pre w (List.mem_cons_of_mem _ h)
  have hown : s.vm.findClass RX0 = some m.cls := findClass_of_methodNamed B.named
  have hlocks := B.notSynchronized
  subst hsz
  have hD := hD0.self (sz := s.heap.size)
  have hA : ∀ q : Nat, s.heap.size ≤ q → (va_A (wC cyI A u w) s.heap.size) q := fun q h => Or.inr h
  generalize hAe : va_A (wC cyI A u w) s.heap.size = A0 at hD hA ⊢
  have hS : va_S A0 s.heap s.heap [] := va_S.rf
  have hl := lv_entry ([.ref (A 0), .int a1, .int a2]) (n := 3) (Nat.le_of_ble_eq_true rfl)
  rw [lg_entry_eq]
  generalize (lg_sl ([.ref (A 0), .int a1, .int a2]) ++ List.replicate (3 - (lg_sl ([.ref (A 0), .int a1, .int a2])).length) Slot.unset).toArray = ls at hl ⊢
  have hl : lv_has ls 3 [(0, .ref (A 0)), (1, .int a1), (2, .int a2)] := hl
  refine lv_aload_n hx hb dX0_setTruce_0 rfl (lv_at hl 0 rfl) ?_
  refine lv_iload_n hx hb dX0_setTruce_1 rfl (lv_at hl 2 rfl) ?_
  refine lv_if_eq (tgt := 16) hx hb dX0_setTruce_2 (by decide) (fun c_1 => ?_) (fun c_1 => ?_)
  · refine lv_aload_n hx hb dX0_setTruce_16 rfl (lv_at hl 0 rfl) ?_
    refine va_get (D := D) (ci := 0) (v := .int (w 8)) (C := RX0) (T := TX0) (N := 19) hx hb hts inT_X0 hown hK.1 hP 0 rfl rfl 8 (by decide) (hts _ wfl_RX0_65) (fun _ h9 => h9) rfl dX0_setTruce_17 ?_
    refine lv_iconst (v := 1) hx hb dX0_setTruce_20 (by decide) ?_
    refine lv_iload_n hx hb dX0_setTruce_21 rfl (lv_at hl 1 rfl) ?_
    refine lv_ishl hx hb dX0_setTruce_22 ?_
    refine lv_iconst (v := (-1)) hx hb dX0_setTruce_23 (by decide) ?_
    refine lv_ixor hx hb dX0_setTruce_24 ?_
    refine lv_iand hx hb dX0_setTruce_25 ?_
    refine va_put (D := D) (ci := 0) (v := .int ((w 8) &&& (((1 : Int32) <<< (a1 &&& 31)) ^^^ (-1 : Int32)))) (ty := .int) (C := RX0) (T := TX0) (N := 19) hx hb hts inT_X0 tyX0 tyX0_ok nmX0 hown hK.1 hP hD hS 0 rfl rfl 8 (by decide) (hts _ wfl_RX0_65) (fun _ h9 => h9) rfl (by decide +kernel) (by rfl) rfl (Nat.le_of_ble_eq_true rfl) dX0_setTruce_26 (fun H locs hP hD hS => ?_)
    have hP : va_P D vwCl (wC cyI A u (va_up w 8 ((w 8) &&& (((1 : Int32) <<< (a1 &&& 31)) ^^^ (-1 : Int32))))) H := hP
    have hD : va_D A0 (wC cyI A u (va_up w 8 ((w 8) &&& (((1 : Int32) <<< (a1 &&& 31)) ^^^ (-1 : Int32))))) := hD
    have e9 : (pX0_setTruce u w a1 a2) = (u, (va_up w 8 ((w 8) &&& (((1 : Int32) <<< (a1 &&& 31)) ^^^ (-1 : Int32))))) := by simp only [pX0_setTruce, if_pos c_1]
    have e9_0 : (pX0_setTruce u w a1 a2).1 = u := by rw [e9]
    have e9_1 : (pX0_setTruce u w a1 a2).2 = (va_up w 8 ((w 8) &&& (((1 : Int32) <<< (a1 &&& 31)) ^^^ (-1 : Int32)))) := by rw [e9]
    exact W.vret hx hb hr (fun t ht hW => ⟨⟨rfl, by rw [e9_0, e9_1, ht]; exact hP⟩, hS.F ht⟩) hS.2.2 dX0_setTruce_29
  · refine lv_aload_n hx hb dX0_setTruce_5 rfl (lv_at hl 0 rfl) ?_
    refine va_get (D := D) (ci := 0) (v := .int (w 8)) (C := RX0) (T := TX0) (N := 19) hx hb hts inT_X0 hown hK.1 hP 0 rfl rfl 8 (by decide) (hts _ wfl_RX0_65) (fun _ h9 => h9) rfl dX0_setTruce_6 ?_
    refine lv_iconst (v := 1) hx hb dX0_setTruce_9 (by decide) ?_
    refine lv_iload_n hx hb dX0_setTruce_10 rfl (lv_at hl 1 rfl) ?_
    refine lv_ishl hx hb dX0_setTruce_11 ?_
    refine lv_ior hx hb dX0_setTruce_12 ?_
    refine lv_goto (tgt := 26) hx hb dX0_setTruce_13 (by decide) ?_
    refine va_put (D := D) (ci := 0) (v := .int ((w 8) ||| ((1 : Int32) <<< (a1 &&& 31)))) (ty := .int) (C := RX0) (T := TX0) (N := 19) hx hb hts inT_X0 tyX0 tyX0_ok nmX0 hown hK.1 hP hD hS 0 rfl rfl 8 (by decide) (hts _ wfl_RX0_65) (fun _ h9 => h9) rfl (by decide +kernel) (by rfl) rfl (Nat.le_of_ble_eq_true rfl) dX0_setTruce_26 (fun H locs hP hD hS => ?_)
    have hP : va_P D vwCl (wC cyI A u (va_up w 8 ((w 8) ||| ((1 : Int32) <<< (a1 &&& 31))))) H := hP
    have hD : va_D A0 (wC cyI A u (va_up w 8 ((w 8) ||| ((1 : Int32) <<< (a1 &&& 31))))) := hD
    have e9 : (pX0_setTruce u w a1 a2) = (u, (va_up w 8 ((w 8) ||| ((1 : Int32) <<< (a1 &&& 31))))) := by simp only [pX0_setTruce, if_neg c_1]
    have e9_0 : (pX0_setTruce u w a1 a2).1 = u := by rw [e9]
    have e9_1 : (pX0_setTruce u w a1 a2).2 = (va_up w 8 ((w 8) ||| ((1 : Int32) <<< (a1 &&& 31)))) := by rw [e9]
    exact W.vret hx hb hr (fun t ht hW => ⟨⟨rfl, by rw [e9_0, e9_1, ht]; exact hP⟩, hS.F ht⟩) hS.2.2 dX0_setTruce_29
theorem bV_X0_setTruce : BV RX0 yX0_setTruce cX0_setTruce 3 none 2 := ⟨wcd_X0_setTruce, wim_X0_setTruce, wse_X0_setTruce, win_RX0, by decide +kernel⟩
def pX0_hangLine (u : (Nat → Nat → Int32)) (w : (Nat → Int32)) (a1 : Int32) (a2 : Int32) : Int32 × (Nat → Nat → Int32) × (Nat → Int32) := (if (pX0_reasonNotToHang u w a1 a2) = 0 then (((10 : Int32) + (pJ6_bitCount_0f7a4 (pX0_allLines (va_up (va_up (va_up u 1 (upd (u 1) (a2).toNatClampNeg a1)) 2 (upd (u 2) (a2).toNatClampNeg (0 : Int32))) 3 (upd (u 3) (a2).toNatClampNeg (0 : Int32))) (va_up w 15 ((w 15) + (1 : Int32)))))), (va_up (va_up (va_up u 1 (upd (u 1) (a2).toNatClampNeg a1)) 2 (upd (u 2) (a2).toNatClampNeg (0 : Int32))) 3 (upd (u 3) (a2).toNatClampNeg (0 : Int32))), (va_up w 15 ((w 15) + (1 : Int32)))) else ((pX0_reasonNotToHang u w a1 a2), u, (va_up w 18 ((w 18) + (1 : Int32)))))
set_option maxHeartbeats 4000000 in
set_option maxRecDepth 100000 in
theorem kX0_hangLine (l : Launch) (D : va_G) (cyC cyI cyO : ClassId) (A : Nat → Nat) (u : (Nat → Nat → Int32)) (w : (Nat → Int32)) (a1 : Int32) (a2 : Int32) (ho : vp_in a1 4) (hg : vp_in a2 28) (hq : (w 12) < 4) : MU l yX0_hangLine (Ty yX0_hangLine cX0_hangLine 4 (some .int)) ({ frames := 4, cells := 0, slots := 0, locals := 92 } : Room) D cyC cyI cyO (wC cyI A u w) [.ref (A 0), .int a1, .int a2] (some (.int (pX0_hangLine u w a1 a2).1)) (wC cyI A (pX0_hangLine u w a1 a2).2.1 (pX0_hangLine u w a1 a2).2.2) := by
  intro sz
  refine Met.ofW (cc := cX0_hangLine) (maxL := 4) (ret := (some .int)) (by decide) rfl ?_
  intro p e s m args below meth cd s₁ B hml hv
  obtain ⟨rfl, hsz, hP, hK, hD0⟩ := hv
  have hx := B.exec
  have hb := B.bytes
  have hr := B.returns
  have hts : ∀ w ∈ TB, w.before ([.ref (A 0), .int a1, .int a2] : List Value).toArray s = true := fun w h => atoms_spec (ws := (Ty yX0_hangLine cX0_hangLine 4 (some .int))) B.pre w (List.mem_cons_of_mem _ h)
  have hown : s.vm.findClass RX0 = some m.cls := findClass_of_methodNamed B.named
  have hlocks := B.notSynchronized
  subst hsz
  have hD := hD0.self (sz := s.heap.size)
  have hA : ∀ q : Nat, s.heap.size ≤ q → (va_A (wC cyI A u w) s.heap.size) q := fun q h => Or.inr h
  generalize hAe : va_A (wC cyI A u w) s.heap.size = A0 at hD hA ⊢
  have hS : va_S A0 s.heap s.heap [] := va_S.rf
  have hl := lv_entry ([.ref (A 0), .int a1, .int a2]) (n := 4) (Nat.le_of_ble_eq_true rfl)
  rw [lg_entry_eq]
  generalize (lg_sl ([.ref (A 0), .int a1, .int a2]) ++ List.replicate (4 - (lg_sl ([.ref (A 0), .int a1, .int a2])).length) Slot.unset).toArray = ls at hl ⊢
  have hl : lv_has ls 4 [(0, .ref (A 0)), (1, .int a1), (2, .int a2)] := hl
  refine lv_aload_n hx hb dX0_hangLine_0 rfl (lv_at hl 0 rfl) ?_
  refine lv_iload_n hx hb dX0_hangLine_1 rfl (lv_at hl 1 rfl) ?_
  refine lv_iload_n hx hb dX0_hangLine_2 rfl (lv_at hl 2 rfl) ?_
  refine rV (As := [.int a1, .int a2]) (rest := []) hx hb hml hown hts hl.1 (kX0_reasonNotToHang l D cyC cyI cyO A u w a1 a2 ho hg hq) bV_X0_reasonNotToHang  wml_RX0_122 ⟨rfl, rfl⟩ ⟨Nat.le_of_ble_eq_true rfl, Nat.le_of_ble_eq_true rfl, Nat.zero_le _, Nat.zero_le _⟩ [0, 1, 2, 3, 4, 5, 6, 7, 8] rfl hP hK 0 rfl rfl rfl rfl rfl (Nat.le_of_ble_eq_true rfl) dX0_hangLine_3 ?_
  refine lv_istore_n (lv' := [(3, .int (pX0_reasonNotToHang u w a1 a2)), (0, .ref (A 0)), (1, .int a1), (2, .int a2)]) hx hb dX0_hangLine_6 rfl hl (by decide) rfl (fun ls hl => ?_)
  refine lv_iload_n hx hb dX0_hangLine_7 rfl (lv_at hl 0 rfl) ?_
  refine lv_if_eq (tgt := 23) hx hb dX0_hangLine_8 (by decide) (fun c_1 => ?_) (fun c_1 => ?_)
  · refine lv_aload_n hx hb dX0_hangLine_23 rfl (lv_at hl 1 rfl) ?_
    refine va_get (D := D) (ci := 0) (v := .ref (A 2)) (C := RX0) (T := TX0) (N := 19) hx hb hts inT_X0 hown hK.1 hP 0 rfl rfl 1 (by decide) (hts _ wfl_RX0_15) (fun _ h9 => h9) rfl dX0_hangLine_24 ?_
    refine lv_iload_n hx hb dX0_hangLine_27 rfl (lv_at hl 3 rfl) ?_
    refine lv_iload_n hx hb dX0_hangLine_28 rfl (lv_at hl 2 rfl) ?_
    obtain ⟨z_2, hz_2⟩ : ∃ q, q = (upd (u 1) (a2).toNatClampNeg a1) := ⟨_, rfl⟩
    refine va_iast (D := D) (f := (u 1)) hx hb hK.1 hP hD hS 2 1 rfl rfl hg dX0_hangLine_29 (fun H locs hP hD hS => ?_)
    have hP : va_P D vwCl (wC cyI A (va_up u 1 (upd (u 1) (a2).toNatClampNeg a1)) w) H := hP
    have hD : va_D A0 (wC cyI A (va_up u 1 (upd (u 1) (a2).toNatClampNeg a1)) w) := hD
    rw [← hz_2] at hP hD
    refine lv_aload_n hx hb dX0_hangLine_30 rfl (lv_at hl 1 rfl) ?_
    refine va_get (D := D) (ci := 0) (v := .ref (A 3)) (C := RX0) (T := TX0) (N := 19) hx hb hts inT_X0 hown hK.1 hP 0 rfl rfl 2 (by decide) (hts _ wfl_RX0_18) (fun _ h9 => h9) rfl dX0_hangLine_31 ?_
    refine lv_iload_n hx hb dX0_hangLine_34 rfl (lv_at hl 3 rfl) ?_
    refine lv_iconst (v := 0) hx hb dX0_hangLine_35 (by decide) ?_
    obtain ⟨z_3, hz_3⟩ : ∃ q, q = (upd (u 2) (a2).toNatClampNeg (0 : Int32)) := ⟨_, rfl⟩
    refine va_iast (D := D) (f := (u 2)) hx hb hK.1 hP hD hS 3 1 rfl rfl hg dX0_hangLine_36 (fun H locs hP hD hS => ?_)
    have hP : va_P D vwCl (wC cyI A (va_up (va_up u 1 z_2) 2 (upd (u 2) (a2).toNatClampNeg (0 : Int32))) w) H := hP
    have hD : va_D A0 (wC cyI A (va_up (va_up u 1 z_2) 2 (upd (u 2) (a2).toNatClampNeg (0 : Int32))) w) := hD
    rw [← hz_3] at hP hD
    refine lv_aload_n hx hb dX0_hangLine_37 rfl (lv_at hl 1 rfl) ?_
    refine va_get (D := D) (ci := 0) (v := .ref (A 4)) (C := RX0) (T := TX0) (N := 19) hx hb hts inT_X0 hown hK.1 hP 0 rfl rfl 3 (by decide) (hts _ wfl_RX0_21) (fun _ h9 => h9) rfl dX0_hangLine_38 ?_
    refine lv_iload_n hx hb dX0_hangLine_41 rfl (lv_at hl 3 rfl) ?_
    refine lv_iconst (v := 0) hx hb dX0_hangLine_42 (by decide) ?_
    obtain ⟨z_4, hz_4⟩ : ∃ q, q = (upd (u 3) (a2).toNatClampNeg (0 : Int32)) := ⟨_, rfl⟩
    refine va_iast (D := D) (f := (u 3)) hx hb hK.1 hP hD hS 4 1 rfl rfl hg dX0_hangLine_43 (fun H locs hP hD hS => ?_)
    have hP : va_P D vwCl (wC cyI A (va_up (va_up (va_up u 1 z_2) 2 z_3) 3 (upd (u 3) (a2).toNatClampNeg (0 : Int32))) w) H := hP
    have hD : va_D A0 (wC cyI A (va_up (va_up (va_up u 1 z_2) 2 z_3) 3 (upd (u 3) (a2).toNatClampNeg (0 : Int32))) w) := hD
    rw [← hz_4] at hP hD
    refine lv_aload_n hx hb dX0_hangLine_44 rfl (lv_at hl 1 rfl) ?_
    refine lv_dup hx hb dX0_hangLine_45 rfl ?_
    refine va_get (D := D) (ci := 0) (v := .int (w 15)) (C := RX0) (T := TX0) (N := 19) hx hb hts inT_X0 hown hK.1 hP 0 rfl rfl 15 (by decide) (hts _ wfl_RX0_77) (fun _ h9 => h9) rfl dX0_hangLine_46 ?_
    refine lv_iconst (v := 1) hx hb dX0_hangLine_49 (by decide) ?_
    refine lv_iadd hx hb dX0_hangLine_50 ?_
    refine va_put (D := D) (ci := 0) (v := .int ((w 15) + (1 : Int32))) (ty := .int) (C := RX0) (T := TX0) (N := 19) hx hb hts inT_X0 tyX0 tyX0_ok nmX0 hown hK.1 hP hD hS 0 rfl rfl 15 (by decide) (hts _ wfl_RX0_77) (fun _ h9 => h9) rfl (by decide +kernel) (by rfl) rfl (Nat.le_of_ble_eq_true rfl) dX0_hangLine_51 (fun H locs hP hD hS => ?_)
    have hP : va_P D vwCl (wC cyI A (va_up (va_up (va_up u 1 z_2) 2 z_3) 3 z_4) (va_up w 15 ((w 15) + (1 : Int32)))) H := hP
    have hD : va_D A0 (wC cyI A (va_up (va_up (va_up u 1 z_2) 2 z_3) 3 z_4) (va_up w 15 ((w 15) + (1 : Int32)))) := hD
    refine lv_bipush (v := 10) hx hb dX0_hangLine_54 (by decide) ?_
    refine lv_aload_n hx hb dX0_hangLine_56 rfl (lv_at hl 1 rfl) ?_
    refine rV (As := []) (rest := [.int 10]) hx hb hml hown hts hl.1 (kX0_allLines l D cyC cyI cyO A (va_up (va_up (va_up u 1 z_2) 2 z_3) 3 z_4) (va_up w 15 ((w 15) + (1 : Int32)))) bV_X0_allLines  wml_RX0_126 ⟨rfl, rfl⟩ ⟨Nat.le_of_ble_eq_true rfl, Nat.le_of_ble_eq_true rfl, Nat.zero_le _, Nat.zero_le _⟩ [0, 1, 2, 3, 4, 5, 6, 7, 8] rfl hP hK 0 rfl rfl rfl rfl rfl (Nat.le_of_ble_eq_true rfl) dX0_hangLine_57 ?_
    refine rS (As := [.int (pX0_allLines (va_up (va_up (va_up u 1 z_2) 2 z_3) 3 z_4) (va_up w 15 ((w 15) + (1 : Int32))))]) (rest := [.int 10]) hx hb hml hown hts hl.1 (kJ6_bitCount_0f7a4 l D cyC cyI cyO (pX0_allLines (va_up (va_up (va_up u 1 z_2) 2 z_3) 3 z_4) (va_up w 15 ((w 15) + (1 : Int32))))) bS_J6_bitCount_0f7a4  wml_RX0_130 ⟨rfl, rfl⟩ ⟨Nat.le_of_ble_eq_true rfl, Nat.le_of_ble_eq_true rfl, Nat.zero_le _, Nat.zero_le _⟩ [] rfl hP hK rfl rfl (Nat.le_of_ble_eq_true rfl) dX0_hangLine_60 ?_
    refine lv_iadd hx hb dX0_hangLine_63 ?_
    have e9 : (pX0_hangLine u w a1 a2) = (((10 : Int32) + (pJ6_bitCount_0f7a4 (pX0_allLines (va_up (va_up (va_up u 1 z_2) 2 z_3) 3 z_4) (va_up w 15 ((w 15) + (1 : Int32)))))), (va_up (va_up (va_up u 1 z_2) 2 z_3) 3 z_4), (va_up w 15 ((w 15) + (1 : Int32)))) := by simp only [pX0_hangLine, ← hz_2, ← hz_3, ← hz_4, if_pos c_1]
    have e9_0 : (pX0_hangLine u w a1 a2).1 = ((10 : Int32) + (pJ6_bitCount_0f7a4 (pX0_allLines (va_up (va_up (va_up u 1 z_2) 2 z_3) 3 z_4) (va_up w 15 ((w 15) + (1 : Int32)))))) := by rw [e9]
    have e9_1 : (pX0_hangLine u w a1 a2).2.1 = (va_up (va_up (va_up u 1 z_2) 2 z_3) 3 z_4) := by rw [e9]
    have e9_2 : (pX0_hangLine u w a1 a2).2.2 = (va_up w 15 ((w 15) + (1 : Int32))) := by rw [e9]
    exact W.iret (v := ((10 : Int32) + (pJ6_bitCount_0f7a4 (pX0_allLines (va_up (va_up (va_up u 1 z_2) 2 z_3) 3 z_4) (va_up w 15 ((w 15) + (1 : Int32))))))) hx hb hr (fun t ht hW => ⟨⟨by rw [e9_0], by rw [e9_1, e9_2, ht]; exact hP⟩, hS.F ht⟩) hS.2.2 dX0_hangLine_64
  · refine lv_aload_n hx hb dX0_hangLine_11 rfl (lv_at hl 1 rfl) ?_
    refine lv_dup hx hb dX0_hangLine_12 rfl ?_
    refine va_get (D := D) (ci := 0) (v := .int (w 18)) (C := RX0) (T := TX0) (N := 19) hx hb hts inT_X0 hown hK.1 hP 0 rfl rfl 18 (by decide) (hts _ wfl_RX0_86) (fun _ h9 => h9) rfl dX0_hangLine_13 ?_
    refine lv_iconst (v := 1) hx hb dX0_hangLine_16 (by decide) ?_
    refine lv_iadd hx hb dX0_hangLine_17 ?_
    refine va_put (D := D) (ci := 0) (v := .int ((w 18) + (1 : Int32))) (ty := .int) (C := RX0) (T := TX0) (N := 19) hx hb hts inT_X0 tyX0 tyX0_ok nmX0 hown hK.1 hP hD hS 0 rfl rfl 18 (by decide) (hts _ wfl_RX0_86) (fun _ h9 => h9) rfl (by decide +kernel) (by rfl) rfl (Nat.le_of_ble_eq_true rfl) dX0_hangLine_18 (fun H locs hP hD hS => ?_)
    have hP : va_P D vwCl (wC cyI A u (va_up w 18 ((w 18) + (1 : Int32)))) H := hP
    have hD : va_D A0 (wC cyI A u (va_up w 18 ((w 18) + (1 : Int32)))) := hD
    refine lv_iload_n hx hb dX0_hangLine_21 rfl (lv_at hl 0 rfl) ?_
    have e9 : (pX0_hangLine u w a1 a2) = ((pX0_reasonNotToHang u w a1 a2), u, (va_up w 18 ((w 18) + (1 : Int32)))) := by simp only [pX0_hangLine, if_neg c_1]
    have e9_0 : (pX0_hangLine u w a1 a2).1 = (pX0_reasonNotToHang u w a1 a2) := by rw [e9]
    have e9_1 : (pX0_hangLine u w a1 a2).2.1 = u := by rw [e9]
    have e9_2 : (pX0_hangLine u w a1 a2).2.2 = (va_up w 18 ((w 18) + (1 : Int32))) := by rw [e9]
    exact W.iret (v := (pX0_reasonNotToHang u w a1 a2)) hx hb hr (fun t ht hW => ⟨⟨by rw [e9_0], by rw [e9_1, e9_2, ht]; exact hP⟩, hS.F ht⟩) hS.2.2 dX0_hangLine_22
theorem bV_X0_hangLine : BV RX0 yX0_hangLine cX0_hangLine 4 (some .int) 2 := ⟨wcd_X0_hangLine, wim_X0_hangLine, wse_X0_hangLine, win_RX0, by decide +kernel⟩
def pX0_takeLine (u : (Nat → Nat → Int32)) (w : (Nat → Int32)) (a1 : Int32) (a2 : Int32) : Int32 × (Nat → Nat → Int32) × (Nat → Int32) := (if (pX0_hasLine u w a2) = 0 then (6, u, (va_up w 18 ((w 18) + (1 : Int32)))) else (if ((u 1) (a2).toNatClampNeg) = a1 then ((((10 : Int32) + ((u 2) (a2).toNatClampNeg)) + ((u 3) (a2).toNatClampNeg)), (va_up u 1 (upd (u 1) (a2).toNatClampNeg (-1 : Int32))), (va_up w 16 ((w 16) + (1 : Int32)))) else (7, u, (va_up w 18 ((w 18) + (1 : Int32))))))
set_option maxHeartbeats 4000000 in
set_option maxRecDepth 100000 in
theorem kX0_takeLine (l : Launch) (D : va_G) (cyC cyI cyO : ClassId) (A : Nat → Nat) (u : (Nat → Nat → Int32)) (w : (Nat → Int32)) (a1 : Int32) (a2 : Int32) (h1 : vp_in a2 28) : MU l yX0_takeLine (Ty yX0_takeLine cX0_takeLine 3 (some .int)) ({ frames := 1, cells := 0, slots := 0, locals := 21 } : Room) D cyC cyI cyO (wC cyI A u w) [.ref (A 0), .int a1, .int a2] (some (.int (pX0_takeLine u w a1 a2).1)) (wC cyI A (pX0_takeLine u w a1 a2).2.1 (pX0_takeLine u w a1 a2).2.2) := by
  intro sz
  refine Met.ofW (cc := cX0_takeLine) (maxL := 3) (ret := (some .int)) (by decide) rfl ?_
  intro p e s m args below meth cd s₁ B hml hv
  obtain ⟨rfl, hsz, hP, hK, hD0⟩ := hv
  have hx := B.exec
  have hb := B.bytes
  have hr := B.returns
  have hts : ∀ w ∈ TB, w.before ([.ref (A 0), .int a1, .int a2] : List Value).toArray s = true := fun w h => atoms_spec (ws := (Ty yX0_takeLine cX0_takeLine 3 (some .int))) B.pre w (List.mem_cons_of_mem _ h)
  have hown : s.vm.findClass RX0 = some m.cls := findClass_of_methodNamed B.named
  have hlocks := B.notSynchronized
  subst hsz
  have hD := hD0.self (sz := s.heap.size)
  have hA : ∀ q : Nat, s.heap.size ≤ q → (va_A (wC cyI A u w) s.heap.size) q := fun q h => Or.inr h
  generalize hAe : va_A (wC cyI A u w) s.heap.size = A0 at hD hA ⊢
  have hS : va_S A0 s.heap s.heap [] := va_S.rf
  have hl := lv_entry ([.ref (A 0), .int a1, .int a2]) (n := 3) (Nat.le_of_ble_eq_true rfl)
  rw [lg_entry_eq]
  generalize (lg_sl ([.ref (A 0), .int a1, .int a2]) ++ List.replicate (3 - (lg_sl ([.ref (A 0), .int a1, .int a2])).length) Slot.unset).toArray = ls at hl ⊢
  have hl : lv_has ls 3 [(0, .ref (A 0)), (1, .int a1), (2, .int a2)] := hl
  refine lv_aload_n hx hb dX0_takeLine_0 rfl (lv_at hl 0 rfl) ?_
  refine lv_iload_n hx hb dX0_takeLine_1 rfl (lv_at hl 2 rfl) ?_
  refine rV (As := [.int a2]) (rest := []) hx hb hml hown hts hl.1 (kX0_hasLine l D cyC cyI cyO A u w a2 h1) bV_X0_hasLine  wml_RX0_89 ⟨rfl, rfl⟩ ⟨Nat.le_of_ble_eq_true rfl, Nat.le_of_ble_eq_true rfl, Nat.zero_le _, Nat.zero_le _⟩ [0, 1, 2, 3, 4, 5, 6, 7, 8] rfl hP hK 0 rfl rfl rfl rfl rfl (Nat.le_of_ble_eq_true rfl) dX0_takeLine_2 ?_
  refine lv_if_ne (tgt := 21) hx hb dX0_takeLine_5 (by decide) (fun c_1 => ?_) (fun c_1 => ?_)
  · refine lv_aload_n hx hb dX0_takeLine_21 rfl (lv_at hl 0 rfl) ?_
    refine va_get (D := D) (ci := 0) (v := .ref (A 2)) (C := RX0) (T := TX0) (N := 19) hx hb hts inT_X0 hown hK.1 hP 0 rfl rfl 1 (by decide) (hts _ wfl_RX0_15) (fun _ h9 => h9) rfl dX0_takeLine_22 ?_
    refine lv_iload_n hx hb dX0_takeLine_25 rfl (lv_at hl 2 rfl) ?_
    refine va_iald (D := D) (f := (u 1)) hx hb hK.1 hP 2 1 rfl rfl h1 dX0_takeLine_26 ?_
    refine lv_iload_n hx hb dX0_takeLine_27 rfl (lv_at hl 1 rfl) ?_
    refine lv_icmp_eq (tgt := 44) hx hb dX0_takeLine_28 (by decide) (fun c_2 => ?_) (fun c_2 => ?_)
    · refine lv_aload_n hx hb dX0_takeLine_44 rfl (lv_at hl 0 rfl) ?_
      refine va_get (D := D) (ci := 0) (v := .ref (A 2)) (C := RX0) (T := TX0) (N := 19) hx hb hts inT_X0 hown hK.1 hP 0 rfl rfl 1 (by decide) (hts _ wfl_RX0_15) (fun _ h9 => h9) rfl dX0_takeLine_45 ?_
      refine lv_iload_n hx hb dX0_takeLine_48 rfl (lv_at hl 2 rfl) ?_
      refine lv_iconst (v := (-1)) hx hb dX0_takeLine_49 (by decide) ?_
      obtain ⟨z_3, hz_3⟩ : ∃ q, q = (upd (u 1) (a2).toNatClampNeg (-1 : Int32)) := ⟨_, rfl⟩
      refine va_iast (D := D) (f := (u 1)) hx hb hK.1 hP hD hS 2 1 rfl rfl h1 dX0_takeLine_50 (fun H locs hP hD hS => ?_)
      have hP : va_P D vwCl (wC cyI A (va_up u 1 (upd (u 1) (a2).toNatClampNeg (-1 : Int32))) w) H := hP
      have hD : va_D A0 (wC cyI A (va_up u 1 (upd (u 1) (a2).toNatClampNeg (-1 : Int32))) w) := hD
      rw [← hz_3] at hP hD
      refine lv_aload_n hx hb dX0_takeLine_51 rfl (lv_at hl 0 rfl) ?_
      refine lv_dup hx hb dX0_takeLine_52 rfl ?_
      refine va_get (D := D) (ci := 0) (v := .int (w 16)) (C := RX0) (T := TX0) (N := 19) hx hb hts inT_X0 hown hK.1 hP 0 rfl rfl 16 (by decide) (hts _ wfl_RX0_80) (fun _ h9 => h9) rfl dX0_takeLine_53 ?_
      refine lv_iconst (v := 1) hx hb dX0_takeLine_56 (by decide) ?_
      refine lv_iadd hx hb dX0_takeLine_57 ?_
      refine va_put (D := D) (ci := 0) (v := .int ((w 16) + (1 : Int32))) (ty := .int) (C := RX0) (T := TX0) (N := 19) hx hb hts inT_X0 tyX0 tyX0_ok nmX0 hown hK.1 hP hD hS 0 rfl rfl 16 (by decide) (hts _ wfl_RX0_80) (fun _ h9 => h9) rfl (by decide +kernel) (by rfl) rfl (Nat.le_of_ble_eq_true rfl) dX0_takeLine_58 (fun H locs hP hD hS => ?_)
      have hP : va_P D vwCl (wC cyI A (va_up u 1 z_3) (va_up w 16 ((w 16) + (1 : Int32)))) H := hP
      have hD : va_D A0 (wC cyI A (va_up u 1 z_3) (va_up w 16 ((w 16) + (1 : Int32)))) := hD
      refine lv_bipush (v := 10) hx hb dX0_takeLine_61 (by decide) ?_
      refine lv_aload_n hx hb dX0_takeLine_63 rfl (lv_at hl 0 rfl) ?_
      refine va_get (D := D) (ci := 0) (v := .ref (A 3)) (C := RX0) (T := TX0) (N := 19) hx hb hts inT_X0 hown hK.1 hP 0 rfl rfl 2 (by decide) (hts _ wfl_RX0_18) (fun _ h9 => h9) rfl dX0_takeLine_64 ?_
      refine lv_iload_n hx hb dX0_takeLine_67 rfl (lv_at hl 2 rfl) ?_
      refine va_iald (D := D) (f := (u 2)) hx hb hK.1 hP 3 1 rfl rfl h1 dX0_takeLine_68 ?_
      refine lv_iadd hx hb dX0_takeLine_69 ?_
      refine lv_aload_n hx hb dX0_takeLine_70 rfl (lv_at hl 0 rfl) ?_
      refine va_get (D := D) (ci := 0) (v := .ref (A 4)) (C := RX0) (T := TX0) (N := 19) hx hb hts inT_X0 hown hK.1 hP 0 rfl rfl 3 (by decide) (hts _ wfl_RX0_21) (fun _ h9 => h9) rfl dX0_takeLine_71 ?_
      refine lv_iload_n hx hb dX0_takeLine_74 rfl (lv_at hl 2 rfl) ?_
      refine va_iald (D := D) (f := (u 3)) hx hb hK.1 hP 4 1 rfl rfl h1 dX0_takeLine_75 ?_
      refine lv_iadd hx hb dX0_takeLine_76 ?_
      have e9 : (pX0_takeLine u w a1 a2) = ((((10 : Int32) + ((u 2) (a2).toNatClampNeg)) + ((u 3) (a2).toNatClampNeg)), (va_up u 1 z_3), (va_up w 16 ((w 16) + (1 : Int32)))) := by simp only [pX0_takeLine, ← hz_3, if_neg c_1, if_pos c_2]
      have e9_0 : (pX0_takeLine u w a1 a2).1 = (((10 : Int32) + ((u 2) (a2).toNatClampNeg)) + ((u 3) (a2).toNatClampNeg)) := by rw [e9]
      have e9_1 : (pX0_takeLine u w a1 a2).2.1 = (va_up u 1 z_3) := by rw [e9]
      have e9_2 : (pX0_takeLine u w a1 a2).2.2 = (va_up w 16 ((w 16) + (1 : Int32))) := by rw [e9]
      exact W.iret (v := (((10 : Int32) + ((u 2) (a2).toNatClampNeg)) + ((u 3) (a2).toNatClampNeg))) hx hb hr (fun t ht hW => ⟨⟨by rw [e9_0], by rw [e9_1, e9_2, ht]; exact hP⟩, hS.F ht⟩) hS.2.2 dX0_takeLine_77
    · refine lv_aload_n hx hb dX0_takeLine_31 rfl (lv_at hl 0 rfl) ?_
      refine lv_dup hx hb dX0_takeLine_32 rfl ?_
      refine va_get (D := D) (ci := 0) (v := .int (w 18)) (C := RX0) (T := TX0) (N := 19) hx hb hts inT_X0 hown hK.1 hP 0 rfl rfl 18 (by decide) (hts _ wfl_RX0_86) (fun _ h9 => h9) rfl dX0_takeLine_33 ?_
      refine lv_iconst (v := 1) hx hb dX0_takeLine_36 (by decide) ?_
      refine lv_iadd hx hb dX0_takeLine_37 ?_
      refine va_put (D := D) (ci := 0) (v := .int ((w 18) + (1 : Int32))) (ty := .int) (C := RX0) (T := TX0) (N := 19) hx hb hts inT_X0 tyX0 tyX0_ok nmX0 hown hK.1 hP hD hS 0 rfl rfl 18 (by decide) (hts _ wfl_RX0_86) (fun _ h9 => h9) rfl (by decide +kernel) (by rfl) rfl (Nat.le_of_ble_eq_true rfl) dX0_takeLine_38 (fun H locs hP hD hS => ?_)
      have hP : va_P D vwCl (wC cyI A u (va_up w 18 ((w 18) + (1 : Int32)))) H := hP
      have hD : va_D A0 (wC cyI A u (va_up w 18 ((w 18) + (1 : Int32)))) := hD
      refine lv_bipush (v := 7) hx hb dX0_takeLine_41 (by decide) ?_
      have e9 : (pX0_takeLine u w a1 a2) = (7, u, (va_up w 18 ((w 18) + (1 : Int32)))) := by simp only [pX0_takeLine, if_neg c_1, if_neg c_2]
      have e9_0 : (pX0_takeLine u w a1 a2).1 = 7 := by rw [e9]
      have e9_1 : (pX0_takeLine u w a1 a2).2.1 = u := by rw [e9]
      have e9_2 : (pX0_takeLine u w a1 a2).2.2 = (va_up w 18 ((w 18) + (1 : Int32))) := by rw [e9]
      exact W.iret (v := 7) hx hb hr (fun t ht hW => ⟨⟨by rw [e9_0], by rw [e9_1, e9_2, ht]; exact hP⟩, hS.F ht⟩) hS.2.2 dX0_takeLine_43
  · refine lv_aload_n hx hb dX0_takeLine_8 rfl (lv_at hl 0 rfl) ?_
    refine lv_dup hx hb dX0_takeLine_9 rfl ?_
    refine va_get (D := D) (ci := 0) (v := .int (w 18)) (C := RX0) (T := TX0) (N := 19) hx hb hts inT_X0 hown hK.1 hP 0 rfl rfl 18 (by decide) (hts _ wfl_RX0_86) (fun _ h9 => h9) rfl dX0_takeLine_10 ?_
    refine lv_iconst (v := 1) hx hb dX0_takeLine_13 (by decide) ?_
    refine lv_iadd hx hb dX0_takeLine_14 ?_
    refine va_put (D := D) (ci := 0) (v := .int ((w 18) + (1 : Int32))) (ty := .int) (C := RX0) (T := TX0) (N := 19) hx hb hts inT_X0 tyX0 tyX0_ok nmX0 hown hK.1 hP hD hS 0 rfl rfl 18 (by decide) (hts _ wfl_RX0_86) (fun _ h9 => h9) rfl (by decide +kernel) (by rfl) rfl (Nat.le_of_ble_eq_true rfl) dX0_takeLine_15 (fun H locs hP hD hS => ?_)
    have hP : va_P D vwCl (wC cyI A u (va_up w 18 ((w 18) + (1 : Int32)))) H := hP
    have hD : va_D A0 (wC cyI A u (va_up w 18 ((w 18) + (1 : Int32)))) := hD
    refine lv_bipush (v := 6) hx hb dX0_takeLine_18 (by decide) ?_
    have e9 : (pX0_takeLine u w a1 a2) = (6, u, (va_up w 18 ((w 18) + (1 : Int32)))) := by simp only [pX0_takeLine, if_pos c_1]
    have e9_0 : (pX0_takeLine u w a1 a2).1 = 6 := by rw [e9]
    have e9_1 : (pX0_takeLine u w a1 a2).2.1 = u := by rw [e9]
    have e9_2 : (pX0_takeLine u w a1 a2).2.2 = (va_up w 18 ((w 18) + (1 : Int32))) := by rw [e9]
    exact W.iret (v := 6) hx hb hr (fun t ht hW => ⟨⟨by rw [e9_0], by rw [e9_1, e9_2, ht]; exact hP⟩, hS.F ht⟩) hS.2.2 dX0_takeLine_20
theorem bV_X0_takeLine : BV RX0 yX0_takeLine cX0_takeLine 3 (some .int) 2 := ⟨wcd_X0_takeLine, wim_X0_takeLine, wse_X0_takeLine, win_RX0, by decide +kernel⟩
def pX0_walkOver (u : (Nat → Nat → Int32)) (w : (Nat → Int32)) (a1 : Int32) (a2 : Int32) : Int32 × (Nat → Nat → Int32) × (Nat → Int32) := (if (pX0_reasonNotToWalk u w a1 a2 (pX4_otherRoof a2 ((u 6) (a1).toNatClampNeg))) = 0 then (((10 : Int32) + (pX4_otherRoof a2 ((u 6) (a1).toNatClampNeg))), (va_up (va_up u 6 (upd (u 6) (a1).toNatClampNeg (pX4_otherRoof a2 ((u 6) (a1).toNatClampNeg)))) 7 (upd (u 7) (a1).toNatClampNeg (((u 7) (a1).toNatClampNeg) + (1 : Int32)))), w) else ((pX0_reasonNotToWalk u w a1 a2 (pX4_otherRoof a2 ((u 6) (a1).toNatClampNeg))), u, (va_up w 18 ((w 18) + (1 : Int32)))))
set_option maxHeartbeats 4000000 in
set_option maxRecDepth 100000 in
theorem kX0_walkOver (l : Launch) (D : va_G) (cyC cyI cyO : ClassId) (A : Nat → Nat) (u : (Nat → Nat → Int32)) (w : (Nat → Int32)) (a1 : Int32) (a2 : Int32) (ho : vp_in a1 4) (hg : vp_in a2 28) : MU l yX0_walkOver (Ty yX0_walkOver cX0_walkOver 5 (some .int)) ({ frames := 3, cells := 0, slots := 0, locals := 61 } : Room) D cyC cyI cyO (wC cyI A u w) [.ref (A 0), .int a1, .int a2] (some (.int (pX0_walkOver u w a1 a2).1)) (wC cyI A (pX0_walkOver u w a1 a2).2.1 (pX0_walkOver u w a1 a2).2.2) := by
  intro sz
  refine Met.ofW (cc := cX0_walkOver) (maxL := 5) (ret := (some .int)) (by decide) rfl ?_
  intro p e s m args below meth cd s₁ B hml hv
  obtain ⟨rfl, hsz, hP, hK, hD0⟩ := hv
  have hx := B.exec
  have hb := B.bytes
  have hr := B.returns
  have hts : ∀ w ∈ TB, w.before ([.ref (A 0), .int a1, .int a2] : List Value).toArray s = true := fun w h => atoms_spec (ws := (Ty yX0_walkOver cX0_walkOver 5 (some .int))) B.pre w (List.mem_cons_of_mem _ h)
  have hown : s.vm.findClass RX0 = some m.cls := findClass_of_methodNamed B.named
  have hlocks := B.notSynchronized
  subst hsz
  have hD := hD0.self (sz := s.heap.size)
  have hA : ∀ q : Nat, s.heap.size ≤ q → (va_A (wC cyI A u w) s.heap.size) q := fun q h => Or.inr h
  generalize hAe : va_A (wC cyI A u w) s.heap.size = A0 at hD hA ⊢
  have hS : va_S A0 s.heap s.heap [] := va_S.rf
  have hl := lv_entry ([.ref (A 0), .int a1, .int a2]) (n := 5) (Nat.le_of_ble_eq_true rfl)
  rw [lg_entry_eq]
  generalize (lg_sl ([.ref (A 0), .int a1, .int a2]) ++ List.replicate (5 - (lg_sl ([.ref (A 0), .int a1, .int a2])).length) Slot.unset).toArray = ls at hl ⊢
  have hl : lv_has ls 5 [(0, .ref (A 0)), (1, .int a1), (2, .int a2)] := hl
  refine lv_iload_n hx hb dX0_walkOver_0 rfl (lv_at hl 2 rfl) ?_
  refine lv_aload_n hx hb dX0_walkOver_1 rfl (lv_at hl 0 rfl) ?_
  refine va_get (D := D) (ci := 0) (v := .ref (A 7)) (C := RX0) (T := TX0) (N := 19) hx hb hts inT_X0 hown hK.1 hP 0 rfl rfl 6 (by decide) (hts _ wfl_RX0_30) (fun _ h9 => h9) rfl dX0_walkOver_2 ?_
  refine lv_iload_n hx hb dX0_walkOver_5 rfl (lv_at hl 1 rfl) ?_
  refine va_iald (D := D) (f := (u 6)) hx hb hK.1 hP 7 1 rfl rfl ho dX0_walkOver_6 ?_
  refine rS (As := [.int a2, .int ((u 6) (a1).toNatClampNeg)]) (rest := []) hx hb hml hown hts hl.1 (kX4_otherRoof l D cyC cyI cyO a2 ((u 6) (a1).toNatClampNeg)) bS_X4_otherRoof  wml_RX0_135 ⟨rfl, rfl⟩ ⟨Nat.le_of_ble_eq_true rfl, Nat.le_of_ble_eq_true rfl, Nat.zero_le _, Nat.zero_le _⟩ [] rfl hP hK rfl rfl (Nat.le_of_ble_eq_true rfl) dX0_walkOver_7 ?_
  refine lv_istore_n (lv' := [(3, .int (pX4_otherRoof a2 ((u 6) (a1).toNatClampNeg))), (0, .ref (A 0)), (1, .int a1), (2, .int a2)]) hx hb dX0_walkOver_10 rfl hl (by decide) rfl (fun ls hl => ?_)
  refine lv_aload_n hx hb dX0_walkOver_11 rfl (lv_at hl 1 rfl) ?_
  refine lv_iload_n hx hb dX0_walkOver_12 rfl (lv_at hl 2 rfl) ?_
  refine lv_iload_n hx hb dX0_walkOver_13 rfl (lv_at hl 3 rfl) ?_
  refine lv_iload_n hx hb dX0_walkOver_14 rfl (lv_at hl 0 rfl) ?_
  refine rV (As := [.int a1, .int a2, .int (pX4_otherRoof a2 ((u 6) (a1).toNatClampNeg))]) (rest := []) hx hb hml hown hts hl.1 (kX0_reasonNotToWalk l D cyC cyI cyO A u w a1 a2 (pX4_otherRoof a2 ((u 6) (a1).toNatClampNeg)) ho hg) bV_X0_reasonNotToWalk  wml_RX0_138 ⟨rfl, rfl⟩ ⟨Nat.le_of_ble_eq_true rfl, Nat.le_of_ble_eq_true rfl, Nat.zero_le _, Nat.zero_le _⟩ [0, 1, 2, 3, 4, 5, 6, 7, 8] rfl hP hK 0 rfl rfl rfl rfl rfl (Nat.le_of_ble_eq_true rfl) dX0_walkOver_15 ?_
  refine lv_istore (lv' := [(4, .int (pX0_reasonNotToWalk u w a1 a2 (pX4_otherRoof a2 ((u 6) (a1).toNatClampNeg)))), (3, .int (pX4_otherRoof a2 ((u 6) (a1).toNatClampNeg))), (0, .ref (A 0)), (1, .int a1), (2, .int a2)]) hx hb dX0_walkOver_18 hl (by decide) rfl (fun ls hl => ?_)
  refine lv_iload hx hb dX0_walkOver_20 (lv_at hl 0 rfl) ?_
  refine lv_if_eq (tgt := 38) hx hb dX0_walkOver_22 (by decide) (fun c_1 => ?_) (fun c_1 => ?_)
  · refine lv_aload_n hx hb dX0_walkOver_38 rfl (lv_at hl 2 rfl) ?_
    refine va_get (D := D) (ci := 0) (v := .ref (A 7)) (C := RX0) (T := TX0) (N := 19) hx hb hts inT_X0 hown hK.1 hP 0 rfl rfl 6 (by decide) (hts _ wfl_RX0_30) (fun _ h9 => h9) rfl dX0_walkOver_39 ?_
    refine lv_iload_n hx hb dX0_walkOver_42 rfl (lv_at hl 3 rfl) ?_
    refine lv_iload_n hx hb dX0_walkOver_43 rfl (lv_at hl 1 rfl) ?_
    obtain ⟨z_2, hz_2⟩ : ∃ q, q = (upd (u 6) (a1).toNatClampNeg (pX4_otherRoof a2 ((u 6) (a1).toNatClampNeg))) := ⟨_, rfl⟩
    refine va_iast (D := D) (f := (u 6)) hx hb hK.1 hP hD hS 7 1 rfl rfl ho dX0_walkOver_44 (fun H locs hP hD hS => ?_)
    have hP : va_P D vwCl (wC cyI A (va_up u 6 (upd (u 6) (a1).toNatClampNeg (pX4_otherRoof a2 ((u 6) (a1).toNatClampNeg)))) w) H := hP
    have hD : va_D A0 (wC cyI A (va_up u 6 (upd (u 6) (a1).toNatClampNeg (pX4_otherRoof a2 ((u 6) (a1).toNatClampNeg)))) w) := hD
    rw [← hz_2] at hP hD
    refine lv_aload_n hx hb dX0_walkOver_45 rfl (lv_at hl 2 rfl) ?_
    refine va_get (D := D) (ci := 0) (v := .ref (A 8)) (C := RX0) (T := TX0) (N := 19) hx hb hts inT_X0 hown hK.1 hP 0 rfl rfl 7 (by decide) (hts _ wfl_RX0_33) (fun _ h9 => h9) rfl dX0_walkOver_46 ?_
    refine lv_iload_n hx hb dX0_walkOver_49 rfl (lv_at hl 3 rfl) ?_
    refine lv_dup2_11 hx hb dX0_walkOver_50 rfl rfl ?_
    refine va_iald (D := D) (f := (u 7)) hx hb hK.1 hP 8 1 rfl rfl ho dX0_walkOver_51 ?_
    refine lv_iconst (v := 1) hx hb dX0_walkOver_52 (by decide) ?_
    refine lv_iadd hx hb dX0_walkOver_53 ?_
    obtain ⟨z_3, hz_3⟩ : ∃ q, q = (upd (u 7) (a1).toNatClampNeg (((u 7) (a1).toNatClampNeg) + (1 : Int32))) := ⟨_, rfl⟩
    refine va_iast (D := D) (f := (u 7)) hx hb hK.1 hP hD hS 8 1 rfl rfl ho dX0_walkOver_54 (fun H locs hP hD hS => ?_)
    have hP : va_P D vwCl (wC cyI A (va_up (va_up u 6 z_2) 7 (upd (u 7) (a1).toNatClampNeg (((u 7) (a1).toNatClampNeg) + (1 : Int32)))) w) H := hP
    have hD : va_D A0 (wC cyI A (va_up (va_up u 6 z_2) 7 (upd (u 7) (a1).toNatClampNeg (((u 7) (a1).toNatClampNeg) + (1 : Int32)))) w) := hD
    rw [← hz_3] at hP hD
    refine lv_bipush (v := 10) hx hb dX0_walkOver_55 (by decide) ?_
    refine lv_iload_n hx hb dX0_walkOver_57 rfl (lv_at hl 1 rfl) ?_
    refine lv_iadd hx hb dX0_walkOver_58 ?_
    have e9 : (pX0_walkOver u w a1 a2) = (((10 : Int32) + (pX4_otherRoof a2 ((u 6) (a1).toNatClampNeg))), (va_up (va_up u 6 z_2) 7 z_3), w) := by simp only [pX0_walkOver, ← hz_2, ← hz_3, if_pos c_1]
    have e9_0 : (pX0_walkOver u w a1 a2).1 = ((10 : Int32) + (pX4_otherRoof a2 ((u 6) (a1).toNatClampNeg))) := by rw [e9]
    have e9_1 : (pX0_walkOver u w a1 a2).2.1 = (va_up (va_up u 6 z_2) 7 z_3) := by rw [e9]
    have e9_2 : (pX0_walkOver u w a1 a2).2.2 = w := by rw [e9]
    exact W.iret (v := ((10 : Int32) + (pX4_otherRoof a2 ((u 6) (a1).toNatClampNeg)))) hx hb hr (fun t ht hW => ⟨⟨by rw [e9_0], by rw [e9_1, e9_2, ht]; exact hP⟩, hS.F ht⟩) hS.2.2 dX0_walkOver_59
  · refine lv_aload_n hx hb dX0_walkOver_25 rfl (lv_at hl 2 rfl) ?_
    refine lv_dup hx hb dX0_walkOver_26 rfl ?_
    refine va_get (D := D) (ci := 0) (v := .int (w 18)) (C := RX0) (T := TX0) (N := 19) hx hb hts inT_X0 hown hK.1 hP 0 rfl rfl 18 (by decide) (hts _ wfl_RX0_86) (fun _ h9 => h9) rfl dX0_walkOver_27 ?_
    refine lv_iconst (v := 1) hx hb dX0_walkOver_30 (by decide) ?_
    refine lv_iadd hx hb dX0_walkOver_31 ?_
    refine va_put (D := D) (ci := 0) (v := .int ((w 18) + (1 : Int32))) (ty := .int) (C := RX0) (T := TX0) (N := 19) hx hb hts inT_X0 tyX0 tyX0_ok nmX0 hown hK.1 hP hD hS 0 rfl rfl 18 (by decide) (hts _ wfl_RX0_86) (fun _ h9 => h9) rfl (by decide +kernel) (by rfl) rfl (Nat.le_of_ble_eq_true rfl) dX0_walkOver_32 (fun H locs hP hD hS => ?_)
    have hP : va_P D vwCl (wC cyI A u (va_up w 18 ((w 18) + (1 : Int32)))) H := hP
    have hD : va_D A0 (wC cyI A u (va_up w 18 ((w 18) + (1 : Int32)))) := hD
    refine lv_iload hx hb dX0_walkOver_35 (lv_at hl 0 rfl) ?_
    have e9 : (pX0_walkOver u w a1 a2) = ((pX0_reasonNotToWalk u w a1 a2 (pX4_otherRoof a2 ((u 6) (a1).toNatClampNeg))), u, (va_up w 18 ((w 18) + (1 : Int32)))) := by simp only [pX0_walkOver, if_neg c_1]
    have e9_0 : (pX0_walkOver u w a1 a2).1 = (pX0_reasonNotToWalk u w a1 a2 (pX4_otherRoof a2 ((u 6) (a1).toNatClampNeg))) := by rw [e9]
    have e9_1 : (pX0_walkOver u w a1 a2).2.1 = u := by rw [e9]
    have e9_2 : (pX0_walkOver u w a1 a2).2.2 = (va_up w 18 ((w 18) + (1 : Int32))) := by rw [e9]
    exact W.iret (v := (pX0_reasonNotToWalk u w a1 a2 (pX4_otherRoof a2 ((u 6) (a1).toNatClampNeg)))) hx hb hr (fun t ht hW => ⟨⟨by rw [e9_0], by rw [e9_1, e9_2, ht]; exact hP⟩, hS.F ht⟩) hS.2.2 dX0_walkOver_37
theorem bV_X0_walkOver : BV RX0 yX0_walkOver cX0_walkOver 5 (some .int) 2 := ⟨wcd_X0_walkOver, wim_X0_walkOver, wse_X0_walkOver, win_RX0, by decide +kernel⟩
def pX0_soilLine (u : (Nat → Nat → Int32)) (w : (Nat → Int32)) (a1 : Int32) (a2 : Int32) : (Nat → Nat → Int32) × (Nat → Int32) := (if (pX6_isIn (w 8) ((u 1) (a1).toNatClampNeg)) = 0 then ((va_up (va_up u 2 (upd (u 2) (a1).toNatClampNeg (((u 2) (a1).toNatClampNeg) + (pJ6_bitCount_0f7a4 (a2 &&& (pX4_roofsOf a1)))))) 3 (upd (u 3) (a1).toNatClampNeg (((u 3) (a1).toNatClampNeg) + (pJ6_bitCount_0f7a4 ((w 10) &&& (pX4_roofsOf a1)))))), w) else ((va_up u 2 (upd (u 2) (a1).toNatClampNeg (((u 2) (a1).toNatClampNeg) + (pJ6_bitCount_0f7a4 (a2 &&& (pX4_roofsOf a1)))))), w))
set_option maxHeartbeats 4000000 in
set_option maxRecDepth 100000 in
theorem kX0_soilLine (l : Launch) (D : va_G) (cyC cyI cyO : ClassId) (A : Nat → Nat) (u : (Nat → Nat → Int32)) (w : (Nat → Int32)) (a1 : Int32) (a2 : Int32) (h1 : vp_in a1 28) : MU l yX0_soilLine (Ty yX0_soilLine cX0_soilLine 4 none) ({ frames := 3, cells := 0, slots := 0, locals := 60 } : Room) D cyC cyI cyO (wC cyI A u w) [.ref (A 0), .int a1, .int a2] none (wC cyI A (pX0_soilLine u w a1 a2).1 (pX0_soilLine u w a1 a2).2) := by
  intro sz
  refine Met.ofW (cc := cX0_soilLine) (maxL := 4) (ret := none) (by decide) rfl ?_
  intro p e s m args below meth cd s₁ B hml hv
  obtain ⟨rfl, hsz, hP, hK, hD0⟩ := hv
  have hx := B.exec
  have hb := B.bytes
  have hr := B.returns
  have hts : ∀ w ∈ TB, w.before ([.ref (A 0), .int a1, .int a2] : List Value).toArray s = true := fun w h => atoms_spec (ws := (Ty yX0_soilLine cX0_soilLine 4 none)) B.pre w (List.mem_cons_of_mem _ h)
  have hown : s.vm.findClass RX0 = some m.cls := findClass_of_methodNamed B.named
  have hlocks := B.notSynchronized
  subst hsz
  have hD := hD0.self (sz := s.heap.size)
  have hA : ∀ q : Nat, s.heap.size ≤ q → (va_A (wC cyI A u w) s.heap.size) q := fun q h => Or.inr h
  generalize hAe : va_A (wC cyI A u w) s.heap.size = A0 at hD hA ⊢
  have hS : va_S A0 s.heap s.heap [] := va_S.rf
  have hl := lv_entry ([.ref (A 0), .int a1, .int a2]) (n := 4) (Nat.le_of_ble_eq_true rfl)
  rw [lg_entry_eq]
  generalize (lg_sl ([.ref (A 0), .int a1, .int a2]) ++ List.replicate (4 - (lg_sl ([.ref (A 0), .int a1, .int a2])).length) Slot.unset).toArray = ls at hl ⊢
  have hl : lv_has ls 4 [(0, .ref (A 0)), (1, .int a1), (2, .int a2)] := hl
  refine lv_iload_n hx hb dX0_soilLine_0 rfl (lv_at hl 1 rfl) ?_
  refine rS (As := [.int a1]) (rest := []) hx hb hml hown hts hl.1 (kX4_roofsOf l D cyC cyI cyO a1) bS_X4_roofsOf  wml_RX0_104 ⟨rfl, rfl⟩ ⟨Nat.le_of_ble_eq_true rfl, Nat.le_of_ble_eq_true rfl, Nat.zero_le _, Nat.zero_le _⟩ [] rfl hP hK rfl rfl (Nat.le_of_ble_eq_true rfl) dX0_soilLine_1 ?_
  refine lv_istore_n (lv' := [(3, .int (pX4_roofsOf a1)), (0, .ref (A 0)), (1, .int a1), (2, .int a2)]) hx hb dX0_soilLine_4 rfl hl (by decide) rfl (fun ls hl => ?_)
  refine lv_aload_n hx hb dX0_soilLine_5 rfl (lv_at hl 1 rfl) ?_
  refine va_get (D := D) (ci := 0) (v := .ref (A 3)) (C := RX0) (T := TX0) (N := 19) hx hb hts inT_X0 hown hK.1 hP 0 rfl rfl 2 (by decide) (hts _ wfl_RX0_18) (fun _ h9 => h9) rfl dX0_soilLine_6 ?_
  refine lv_iload_n hx hb dX0_soilLine_9 rfl (lv_at hl 2 rfl) ?_
  refine lv_dup2_11 hx hb dX0_soilLine_10 rfl rfl ?_
  refine va_iald (D := D) (f := (u 2)) hx hb hK.1 hP 3 1 rfl rfl h1 dX0_soilLine_11 ?_
  refine lv_iload_n hx hb dX0_soilLine_12 rfl (lv_at hl 3 rfl) ?_
  refine lv_iload_n hx hb dX0_soilLine_13 rfl (lv_at hl 0 rfl) ?_
  refine lv_iand hx hb dX0_soilLine_14 ?_
  refine rS (As := [.int (a2 &&& (pX4_roofsOf a1))]) (rest := [.int ((u 2) (a1).toNatClampNeg), .int a1, .ref (A 3)]) hx hb hml hown hts hl.1 (kJ6_bitCount_0f7a4 l D cyC cyI cyO (a2 &&& (pX4_roofsOf a1))) bS_J6_bitCount_0f7a4  wml_RX0_130 ⟨rfl, rfl⟩ ⟨Nat.le_of_ble_eq_true rfl, Nat.le_of_ble_eq_true rfl, Nat.zero_le _, Nat.zero_le _⟩ [] rfl hP hK rfl rfl (Nat.le_of_ble_eq_true rfl) dX0_soilLine_15 ?_
  refine lv_iadd hx hb dX0_soilLine_18 ?_
  obtain ⟨z_1, hz_1⟩ : ∃ q, q = (upd (u 2) (a1).toNatClampNeg (((u 2) (a1).toNatClampNeg) + (pJ6_bitCount_0f7a4 (a2 &&& (pX4_roofsOf a1))))) := ⟨_, rfl⟩
  refine va_iast (D := D) (f := (u 2)) hx hb hK.1 hP hD hS 3 1 rfl rfl h1 dX0_soilLine_19 (fun H locs hP hD hS => ?_)
  have hP : va_P D vwCl (wC cyI A (va_up u 2 (upd (u 2) (a1).toNatClampNeg (((u 2) (a1).toNatClampNeg) + (pJ6_bitCount_0f7a4 (a2 &&& (pX4_roofsOf a1)))))) w) H := hP
  have hD : va_D A0 (wC cyI A (va_up u 2 (upd (u 2) (a1).toNatClampNeg (((u 2) (a1).toNatClampNeg) + (pJ6_bitCount_0f7a4 (a2 &&& (pX4_roofsOf a1)))))) w) := hD
  rw [← hz_1] at hP hD
  refine lv_aload_n hx hb dX0_soilLine_20 rfl (lv_at hl 1 rfl) ?_
  refine va_get (D := D) (ci := 0) (v := .int (w 8)) (C := RX0) (T := TX0) (N := 19) hx hb hts inT_X0 hown hK.1 hP 0 rfl rfl 8 (by decide) (hts _ wfl_RX0_65) (fun _ h9 => h9) rfl dX0_soilLine_21 ?_
  refine lv_aload_n hx hb dX0_soilLine_24 rfl (lv_at hl 1 rfl) ?_
  refine va_get (D := D) (ci := 0) (v := .ref (A 2)) (C := RX0) (T := TX0) (N := 19) hx hb hts inT_X0 hown hK.1 hP 0 rfl rfl 1 (by decide) (hts _ wfl_RX0_15) (fun _ h9 => h9) rfl dX0_soilLine_25 ?_
  refine lv_iload_n hx hb dX0_soilLine_28 rfl (lv_at hl 2 rfl) ?_
  refine va_iald (D := D) (f := (u 1)) hx hb hK.1 hP 2 1 rfl rfl h1 dX0_soilLine_29 ?_
  refine rN (As := [.int (w 8), .int ((u 1) (a1).toNatClampNeg)]) (rest := []) hx hb hml hown hts hl.1 (kX6_isIn l D cyC cyI cyO (w 8) ((u 1) (a1).toNatClampNeg)) bS_X6_isIn  hK.2.1 ⟨rfl, rfl⟩ ⟨Nat.le_of_ble_eq_true rfl, Nat.le_of_ble_eq_true rfl, Nat.zero_le _, Nat.zero_le _⟩ [] rfl hP hK rfl rfl (Nat.le_of_ble_eq_true rfl) dX0_soilLine_30 ?_
  refine lv_if_ne (tgt := 54) hx hb dX0_soilLine_33 (by decide) (fun c_2 => ?_) (fun c_2 => ?_)
  · have e9 : (pX0_soilLine u w a1 a2) = ((va_up u 2 z_1), w) := by simp only [pX0_soilLine, ← hz_1, if_neg c_2]
    have e9_0 : (pX0_soilLine u w a1 a2).1 = (va_up u 2 z_1) := by rw [e9]
    have e9_1 : (pX0_soilLine u w a1 a2).2 = w := by rw [e9]
    exact W.vret hx hb hr (fun t ht hW => ⟨⟨rfl, by rw [e9_0, e9_1, ht]; exact hP⟩, hS.F ht⟩) hS.2.2 dX0_soilLine_54
  · refine lv_aload_n hx hb dX0_soilLine_36 rfl (lv_at hl 1 rfl) ?_
    refine va_get (D := D) (ci := 0) (v := .ref (A 4)) (C := RX0) (T := TX0) (N := 19) hx hb hts inT_X0 hown hK.1 hP 0 rfl rfl 3 (by decide) (hts _ wfl_RX0_21) (fun _ h9 => h9) rfl dX0_soilLine_37 ?_
    refine lv_iload_n hx hb dX0_soilLine_40 rfl (lv_at hl 2 rfl) ?_
    refine lv_dup2_11 hx hb dX0_soilLine_41 rfl rfl ?_
    refine va_iald (D := D) (f := (u 3)) hx hb hK.1 hP 4 1 rfl rfl h1 dX0_soilLine_42 ?_
    refine lv_aload_n hx hb dX0_soilLine_43 rfl (lv_at hl 1 rfl) ?_
    refine va_get (D := D) (ci := 0) (v := .int (w 10)) (C := RX0) (T := TX0) (N := 19) hx hb hts inT_X0 hown hK.1 hP 0 rfl rfl 10 (by decide) (hts _ wfl_RX0_71) (fun _ h9 => h9) rfl dX0_soilLine_44 ?_
    refine lv_iload_n hx hb dX0_soilLine_47 rfl (lv_at hl 0 rfl) ?_
    refine lv_iand hx hb dX0_soilLine_48 ?_
    refine rS (As := [.int ((w 10) &&& (pX4_roofsOf a1))]) (rest := [.int ((u 3) (a1).toNatClampNeg), .int a1, .ref (A 4)]) hx hb hml hown hts hl.1 (kJ6_bitCount_0f7a4 l D cyC cyI cyO ((w 10) &&& (pX4_roofsOf a1))) bS_J6_bitCount_0f7a4  wml_RX0_130 ⟨rfl, rfl⟩ ⟨Nat.le_of_ble_eq_true rfl, Nat.le_of_ble_eq_true rfl, Nat.zero_le _, Nat.zero_le _⟩ [] rfl hP hK rfl rfl (Nat.le_of_ble_eq_true rfl) dX0_soilLine_49 ?_
    refine lv_iadd hx hb dX0_soilLine_52 ?_
    obtain ⟨z_3, hz_3⟩ : ∃ q, q = (upd (u 3) (a1).toNatClampNeg (((u 3) (a1).toNatClampNeg) + (pJ6_bitCount_0f7a4 ((w 10) &&& (pX4_roofsOf a1))))) := ⟨_, rfl⟩
    refine va_iast (D := D) (f := (u 3)) hx hb hK.1 hP hD hS 4 1 rfl rfl h1 dX0_soilLine_53 (fun H locs hP hD hS => ?_)
    have hP : va_P D vwCl (wC cyI A (va_up (va_up u 2 z_1) 3 (upd (u 3) (a1).toNatClampNeg (((u 3) (a1).toNatClampNeg) + (pJ6_bitCount_0f7a4 ((w 10) &&& (pX4_roofsOf a1)))))) w) H := hP
    have hD : va_D A0 (wC cyI A (va_up (va_up u 2 z_1) 3 (upd (u 3) (a1).toNatClampNeg (((u 3) (a1).toNatClampNeg) + (pJ6_bitCount_0f7a4 ((w 10) &&& (pX4_roofsOf a1)))))) w) := hD
    rw [← hz_3] at hP hD
    have e9 : (pX0_soilLine u w a1 a2) = ((va_up (va_up u 2 z_1) 3 z_3), w) := by simp only [pX0_soilLine, ← hz_1, ← hz_3, if_pos c_2]
    have e9_0 : (pX0_soilLine u w a1 a2).1 = (va_up (va_up u 2 z_1) 3 z_3) := by rw [e9]
    have e9_1 : (pX0_soilLine u w a1 a2).2 = w := by rw [e9]
    exact W.vret hx hb hr (fun t ht hW => ⟨⟨rfl, by rw [e9_0, e9_1, ht]; exact hP⟩, hS.F ht⟩) hS.2.2 dX0_soilLine_54
theorem bV_X0_soilLine : BV RX0 yX0_soilLine cX0_soilLine 4 none 2 := ⟨wcd_X0_soilLine, wim_X0_soilLine, wse_X0_soilLine, win_RX0, by decide +kernel⟩
def pX0_passDay_L21 (u : (Nat → Nat → Int32)) (w : (Nat → Int32)) : Nat → (Nat → Nat → Int32) × (Nat → Int32) := fo (fun i x_i => (if (pX0_hasLine x_i.1 x_i.2 (nI i)) = 0 then (x_i.1, x_i.2) else ((pX0_soilLine x_i.1 x_i.2 (nI i) (pX0_smokeBlown u (va_up w 13 ((w 13) + (1 : Int32))) (w 11))).1, (pX0_soilLine x_i.1 x_i.2 (nI i) (pX0_smokeBlown u (va_up w 13 ((w 13) + (1 : Int32))) (w 11))).2))) (u, (va_up w 13 ((w 13) + (1 : Int32))))
theorem pX0_passDay_L21_s (u : (Nat → Nat → Int32)) (w : (Nat → Int32)) (i : Nat) : pX0_passDay_L21 u w (i + 1) = (if (pX0_hasLine (pX0_passDay_L21 u w i).1 (pX0_passDay_L21 u w i).2 (nI i)) = 0 then ((pX0_passDay_L21 u w i).1, (pX0_passDay_L21 u w i).2) else ((pX0_soilLine (pX0_passDay_L21 u w i).1 (pX0_passDay_L21 u w i).2 (nI i) (pX0_smokeBlown u (va_up w 13 ((w 13) + (1 : Int32))) (w 11))).1, (pX0_soilLine (pX0_passDay_L21 u w i).1 (pX0_passDay_L21 u w i).2 (nI i) (pX0_smokeBlown u (va_up w 13 ((w 13) + (1 : Int32))) (w 11))).2)) := rfl
theorem pX0_passDay_L21_0 (u : (Nat → Nat → Int32)) (w : (Nat → Int32)) : pX0_passDay_L21 u w 0 = (u, (va_up w 13 ((w 13) + (1 : Int32)))) := rfl
def pX0_passDay (u : (Nat → Nat → Int32)) (w : (Nat → Int32)) : (Nat → Nat → Int32) × (Nat → Int32) := (if (((((421 : Int32) * ((pX0_passDay_L21 u w 28).2 14)) + (1663 : Int32)) - (((421 : Int32) * ((pX0_passDay_L21 u w 28).2 14)) + (1663 : Int32)) / (10000 : Int32) * (10000 : Int32)) - ((((421 : Int32) * ((pX0_passDay_L21 u w 28).2 14)) + (1663 : Int32)) - (((421 : Int32) * ((pX0_passDay_L21 u w 28).2 14)) + (1663 : Int32)) / (10000 : Int32) * (10000 : Int32)) / (4 : Int32) * (4 : Int32)) = 0 then ((pX0_passDay_L21 u w 28).1, (va_up (va_up (pX0_passDay_L21 u w 28).2 14 ((((421 : Int32) * ((pX0_passDay_L21 u w 28).2 14)) + (1663 : Int32)) - (((421 : Int32) * ((pX0_passDay_L21 u w 28).2 14)) + (1663 : Int32)) / (10000 : Int32) * (10000 : Int32))) 11 ((((pX0_passDay_L21 u w 28).2 11) + (1 : Int32)) - (((pX0_passDay_L21 u w 28).2 11) + (1 : Int32)) / (4 : Int32) * (4 : Int32)))) else ((pX0_passDay_L21 u w 28).1, (va_up (pX0_passDay_L21 u w 28).2 14 ((((421 : Int32) * ((pX0_passDay_L21 u w 28).2 14)) + (1663 : Int32)) - (((421 : Int32) * ((pX0_passDay_L21 u w 28).2 14)) + (1663 : Int32)) / (10000 : Int32) * (10000 : Int32)))))
set_option maxHeartbeats 4000000 in
set_option maxRecDepth 100000 in
theorem kX0_passDay (l : Launch) (D : va_G) (cyC cyI cyO : ClassId) (A : Nat → Nat) (u : (Nat → Nat → Int32)) (w : (Nat → Int32)) (hq : (w 12) < 4) : MU l yX0_passDay (Ty yX0_passDay cX0_passDay 3 none) ({ frames := 4, cells := 0, slots := 0, locals := 83 } : Room) D cyC cyI cyO (wC cyI A u w) [.ref (A 0)] none (wC cyI A (pX0_passDay u w).1 (pX0_passDay u w).2) := by
  intro sz
  refine Met.ofW (cc := cX0_passDay) (maxL := 3) (ret := none) (by decide) rfl ?_
  intro p e s m args below meth cd s₁ B hml hv
  obtain ⟨rfl, hsz, hP, hK, hD0⟩ := hv
  have hx := B.exec
  have hb := B.bytes
  have hr := B.returns
  have hts : ∀ w ∈ TB, w.before ([.ref (A 0)] : List Value).toArray s = true := fun w h => atoms_spec (ws := (Ty yX0_passDay cX0_passDay 3 none)) B.pre w (List.mem_cons_of_mem _ h)
  have hown : s.vm.findClass RX0 = some m.cls := findClass_of_methodNamed B.named
  have hlocks := B.notSynchronized
  subst hsz
  have hD := hD0.self (sz := s.heap.size)
  have hA : ∀ q : Nat, s.heap.size ≤ q → (va_A (wC cyI A u w) s.heap.size) q := fun q h => Or.inr h
  generalize hAe : va_A (wC cyI A u w) s.heap.size = A0 at hD hA ⊢
  have hS : va_S A0 s.heap s.heap [] := va_S.rf
  have hl := lv_entry ([.ref (A 0)]) (n := 3) (Nat.le_of_ble_eq_true rfl)
  rw [lg_entry_eq]
  generalize (lg_sl ([.ref (A 0)]) ++ List.replicate (3 - (lg_sl ([.ref (A 0)])).length) Slot.unset).toArray = ls at hl ⊢
  have hl : lv_has ls 3 [(0, .ref (A 0))] := hl
  refine lv_aload_n hx hb dX0_passDay_0 rfl (lv_at hl 0 rfl) ?_
  refine lv_dup hx hb dX0_passDay_1 rfl ?_
  refine va_get (D := D) (ci := 0) (v := .int (w 13)) (C := RX0) (T := TX0) (N := 19) hx hb hts inT_X0 hown hK.1 hP 0 rfl rfl 13 (by decide) (hts _ wfl_RX0_74) (fun _ h9 => h9) rfl dX0_passDay_2 ?_
  refine lv_iconst (v := 1) hx hb dX0_passDay_5 (by decide) ?_
  refine lv_iadd hx hb dX0_passDay_6 ?_
  refine va_put (D := D) (ci := 0) (v := .int ((w 13) + (1 : Int32))) (ty := .int) (C := RX0) (T := TX0) (N := 19) hx hb hts inT_X0 tyX0 tyX0_ok nmX0 hown hK.1 hP hD hS 0 rfl rfl 13 (by decide) (hts _ wfl_RX0_74) (fun _ h9 => h9) rfl (by decide +kernel) (by rfl) rfl (Nat.le_of_ble_eq_true rfl) dX0_passDay_7 (fun H locs hP hD hS => ?_)
  have hP : va_P D vwCl (wC cyI A u (va_up w 13 ((w 13) + (1 : Int32)))) H := hP
  have hD : va_D A0 (wC cyI A u (va_up w 13 ((w 13) + (1 : Int32)))) := hD
  refine lv_aload_n hx hb dX0_passDay_10 rfl (lv_at hl 0 rfl) ?_
  refine lv_aload_n hx hb dX0_passDay_11 rfl (lv_at hl 0 rfl) ?_
  refine va_get (D := D) (ci := 0) (v := .int (w 11)) (C := RX0) (T := TX0) (N := 19) hx hb hts inT_X0 hown hK.1 hP 0 rfl rfl 11 (by decide) (hts _ wfl_RX0_36) (fun _ h9 => h9) rfl dX0_passDay_12 ?_
  refine rV (As := [.int (w 11)]) (rest := []) hx hb hml hown hts hl.1 (kX0_smokeBlown l D cyC cyI cyO A u (va_up w 13 ((w 13) + (1 : Int32))) (w 11) hq) bV_X0_smokeBlown  wml_RX0_100 ⟨rfl, rfl⟩ ⟨Nat.le_of_ble_eq_true rfl, Nat.le_of_ble_eq_true rfl, Nat.zero_le _, Nat.zero_le _⟩ [0, 1, 2, 3, 4, 5, 6, 7, 8] rfl hP hK 0 rfl rfl rfl rfl rfl (Nat.le_of_ble_eq_true rfl) dX0_passDay_15 ?_
  refine lv_istore_n (lv' := [(1, .int (pX0_smokeBlown u (va_up w 13 ((w 13) + (1 : Int32))) (w 11))), (0, .ref (A 0))]) hx hb dX0_passDay_18 rfl hl (by decide) rfl (fun ls hl => ?_)
  refine lv_iconst (v := 0) hx hb dX0_passDay_19 (by decide) ?_
  refine lv_istore_n (lv' := [(2, .int 0), (1, .int (pX0_smokeBlown u (va_up w 13 ((w 13) + (1 : Int32))) (w 11))), (0, .ref (A 0))]) hx hb dX0_passDay_20 rfl hl (by decide) rfl (fun ls hl => ?_)
  have key_21 : ∀ k i : Nat, i + k = 28 → ∀ (H : Heap) (locs : List Loc), va_P D vwCl (wC cyI A (pX0_passDay_L21 u w i).1 (pX0_passDay_L21 u w i).2) H → va_D A0 (wC cyI A (pX0_passDay_L21 u w i).1 (pX0_passDay_L21 u w i).2) → va_S A0 s.heap H locs → ∀ (ls : Array Slot), lv_has ls 3 [(0, .ref (A 0)), (1, .int (pX0_smokeBlown u (va_up w 13 ((w 13) + (1 : Int32))) (w 11))), (2, .int (nI i))] → W p l e (headSpec (Ty yX0_passDay cX0_passDay 3 none) ({ frames := 4, cells := 0, slots := 0, locals := 83 } : Room)).room s m ([.ref (A 0)] : List Value).toArray below meth cd H locs 0 0 (MQ below (MQQ none D (wC cyI A (pX0_passDay u w).1 (pX0_passDay u w).2) A0) ([.ref (A 0)] : List Value).toArray s 0 0 A0) (F0 m 21 ls []) := by
    intro k
    induction k with
    | zero =>
      intro i hi H locs hP hD hS ls hl
      obtain rfl : i = 28 := hi
      obtain ⟨z_1, hz_1⟩ : ∃ q, q = (pX0_passDay_L21 u w 28) := ⟨_, rfl⟩
      rw [← hz_1] at hP hD
      refine lv_iload_n hx hb dX0_passDay_21 rfl (lv_at hl 2 rfl) ?_
      refine lv_bipush (v := 28) hx hb dX0_passDay_22 (by decide) ?_
      refine lv_icmp_ge (tgt := 47) hx hb dX0_passDay_24 (by decide) (fun c_2 => ?_) (fun c_2 => absurd (le_of (C := 28) (N := 28) (by decide)) c_2)
      refine lv_aload_n hx hb dX0_passDay_47 rfl (lv_at hl 0 rfl) ?_
      refine lv_sipush (v := 421) hx hb dX0_passDay_48 (by decide) ?_
      refine lv_aload_n hx hb dX0_passDay_51 rfl (lv_at hl 0 rfl) ?_
      refine va_get (D := D) (ci := 0) (v := .int (z_1.2 14)) (C := RX0) (T := TX0) (N := 19) hx hb hts inT_X0 hown hK.1 hP 0 rfl rfl 14 (by decide) (hts _ wfl_RX0_43) (fun _ h9 => h9) rfl dX0_passDay_52 ?_
      refine lv_imul hx hb dX0_passDay_55 ?_
      refine lv_sipush (v := 1663) hx hb dX0_passDay_56 (by decide) ?_
      refine lv_iadd hx hb dX0_passDay_59 ?_
      refine lv_sipush (v := 10000) hx hb dX0_passDay_60 (by decide) ?_
      refine lv_irem hx hb dX0_passDay_63 (by decide) ?_
      refine va_put (D := D) (ci := 0) (v := .int ((((421 : Int32) * (z_1.2 14)) + (1663 : Int32)) - (((421 : Int32) * (z_1.2 14)) + (1663 : Int32)) / (10000 : Int32) * (10000 : Int32))) (ty := .int) (C := RX0) (T := TX0) (N := 19) hx hb hts inT_X0 tyX0 tyX0_ok nmX0 hown hK.1 hP hD hS 0 rfl rfl 14 (by decide) (hts _ wfl_RX0_43) (fun _ h9 => h9) rfl (by decide +kernel) (by rfl) rfl (Nat.le_of_ble_eq_true rfl) dX0_passDay_64 (fun H locs hP hD hS => ?_)
      have hP : va_P D vwCl (wC cyI A z_1.1 (va_up z_1.2 14 ((((421 : Int32) * (z_1.2 14)) + (1663 : Int32)) - (((421 : Int32) * (z_1.2 14)) + (1663 : Int32)) / (10000 : Int32) * (10000 : Int32)))) H := hP
      have hD : va_D A0 (wC cyI A z_1.1 (va_up z_1.2 14 ((((421 : Int32) * (z_1.2 14)) + (1663 : Int32)) - (((421 : Int32) * (z_1.2 14)) + (1663 : Int32)) / (10000 : Int32) * (10000 : Int32)))) := hD
      refine lv_aload_n hx hb dX0_passDay_67 rfl (lv_at hl 0 rfl) ?_
      refine va_get (D := D) (ci := 0) (v := .int ((((421 : Int32) * (z_1.2 14)) + (1663 : Int32)) - (((421 : Int32) * (z_1.2 14)) + (1663 : Int32)) / (10000 : Int32) * (10000 : Int32))) (C := RX0) (T := TX0) (N := 19) hx hb hts inT_X0 hown hK.1 hP 0 rfl rfl 14 (by decide) (hts _ wfl_RX0_43) (fun _ h9 => h9) rfl dX0_passDay_68 ?_
      refine lv_iconst (v := 4) hx hb dX0_passDay_71 (by decide) ?_
      refine lv_irem hx hb dX0_passDay_72 (by decide) ?_
      refine lv_if_ne (tgt := 88) hx hb dX0_passDay_73 (by decide) (fun c_3 => ?_) (fun c_3 => ?_)
      · have e9 : (pX0_passDay u w) = (z_1.1, (va_up z_1.2 14 ((((421 : Int32) * (z_1.2 14)) + (1663 : Int32)) - (((421 : Int32) * (z_1.2 14)) + (1663 : Int32)) / (10000 : Int32) * (10000 : Int32)))) := by simp only [pX0_passDay, ← hz_1, if_neg c_3]
        have e9_0 : (pX0_passDay u w).1 = z_1.1 := by rw [e9]
        have e9_1 : (pX0_passDay u w).2 = (va_up z_1.2 14 ((((421 : Int32) * (z_1.2 14)) + (1663 : Int32)) - (((421 : Int32) * (z_1.2 14)) + (1663 : Int32)) / (10000 : Int32) * (10000 : Int32))) := by rw [e9]
        exact W.vret hx hb hr (fun t ht hW => ⟨⟨rfl, by rw [e9_0, e9_1, ht]; exact hP⟩, hS.F ht⟩) hS.2.2 dX0_passDay_88
      · refine lv_aload_n hx hb dX0_passDay_76 rfl (lv_at hl 0 rfl) ?_
        refine lv_aload_n hx hb dX0_passDay_77 rfl (lv_at hl 0 rfl) ?_
        refine va_get (D := D) (ci := 0) (v := .int (z_1.2 11)) (C := RX0) (T := TX0) (N := 19) hx hb hts inT_X0 hown hK.1 hP 0 rfl rfl 11 (by decide) (hts _ wfl_RX0_36) (fun _ h9 => h9) rfl dX0_passDay_78 ?_
        refine lv_iconst (v := 1) hx hb dX0_passDay_81 (by decide) ?_
        refine lv_iadd hx hb dX0_passDay_82 ?_
        refine lv_iconst (v := 4) hx hb dX0_passDay_83 (by decide) ?_
        refine lv_irem hx hb dX0_passDay_84 (by decide) ?_
        refine va_put (D := D) (ci := 0) (v := .int (((z_1.2 11) + (1 : Int32)) - ((z_1.2 11) + (1 : Int32)) / (4 : Int32) * (4 : Int32))) (ty := .int) (C := RX0) (T := TX0) (N := 19) hx hb hts inT_X0 tyX0 tyX0_ok nmX0 hown hK.1 hP hD hS 0 rfl rfl 11 (by decide) (hts _ wfl_RX0_36) (fun _ h9 => h9) rfl (by decide +kernel) (by rfl) rfl (Nat.le_of_ble_eq_true rfl) dX0_passDay_85 (fun H locs hP hD hS => ?_)
        have hP : va_P D vwCl (wC cyI A z_1.1 (va_up (va_up z_1.2 14 ((((421 : Int32) * (z_1.2 14)) + (1663 : Int32)) - (((421 : Int32) * (z_1.2 14)) + (1663 : Int32)) / (10000 : Int32) * (10000 : Int32))) 11 (((z_1.2 11) + (1 : Int32)) - ((z_1.2 11) + (1 : Int32)) / (4 : Int32) * (4 : Int32)))) H := hP
        have hD : va_D A0 (wC cyI A z_1.1 (va_up (va_up z_1.2 14 ((((421 : Int32) * (z_1.2 14)) + (1663 : Int32)) - (((421 : Int32) * (z_1.2 14)) + (1663 : Int32)) / (10000 : Int32) * (10000 : Int32))) 11 (((z_1.2 11) + (1 : Int32)) - ((z_1.2 11) + (1 : Int32)) / (4 : Int32) * (4 : Int32)))) := hD
        have e9 : (pX0_passDay u w) = (z_1.1, (va_up (va_up z_1.2 14 ((((421 : Int32) * (z_1.2 14)) + (1663 : Int32)) - (((421 : Int32) * (z_1.2 14)) + (1663 : Int32)) / (10000 : Int32) * (10000 : Int32))) 11 (((z_1.2 11) + (1 : Int32)) - ((z_1.2 11) + (1 : Int32)) / (4 : Int32) * (4 : Int32)))) := by simp only [pX0_passDay, ← hz_1, if_pos c_3]
        have e9_0 : (pX0_passDay u w).1 = z_1.1 := by rw [e9]
        have e9_1 : (pX0_passDay u w).2 = (va_up (va_up z_1.2 14 ((((421 : Int32) * (z_1.2 14)) + (1663 : Int32)) - (((421 : Int32) * (z_1.2 14)) + (1663 : Int32)) / (10000 : Int32) * (10000 : Int32))) 11 (((z_1.2 11) + (1 : Int32)) - ((z_1.2 11) + (1 : Int32)) / (4 : Int32) * (4 : Int32))) := by rw [e9]
        exact W.vret hx hb hr (fun t ht hW => ⟨⟨rfl, by rw [e9_0, e9_1, ht]; exact hP⟩, hS.F ht⟩) hS.2.2 dX0_passDay_88
    | succ k ih_21 =>
      intro i hi H locs hP hD hS ls hl
      have hlt : i < 28 := by omega
      refine lv_iload_n hx hb dX0_passDay_21 rfl (lv_at hl 2 rfl) ?_
      refine lv_bipush (v := 28) hx hb dX0_passDay_22 (by decide) ?_
      refine lv_icmp_ge (tgt := 47) hx hb dX0_passDay_24 (by decide) (fun c_4 => absurd c_4 (nle_of (C := 28) (N := 28) (by decide) hlt (by decide))) (fun c_4 => ?_)
      refine lv_aload_n hx hb dX0_passDay_27 rfl (lv_at hl 0 rfl) ?_
      refine lv_iload_n hx hb dX0_passDay_28 rfl (lv_at hl 2 rfl) ?_
      refine rV (As := [.int (nI i)]) (rest := []) hx hb hml hown hts hl.1 (kX0_hasLine l D cyC cyI cyO A (pX0_passDay_L21 u w i).1 (pX0_passDay_L21 u w i).2 (nI i) (vp_in_nI (Nat.lt_of_lt_of_le hlt (by decide)) (by decide))) bV_X0_hasLine  wml_RX0_89 ⟨rfl, rfl⟩ ⟨Nat.le_of_ble_eq_true rfl, Nat.le_of_ble_eq_true rfl, Nat.zero_le _, Nat.zero_le _⟩ [0, 1, 2, 3, 4, 5, 6, 7, 8] rfl hP hK 0 rfl rfl rfl rfl rfl (Nat.le_of_ble_eq_true rfl) dX0_passDay_29 ?_
      refine lv_if_eq (tgt := 41) hx hb dX0_passDay_32 (by decide) (fun c_5 => ?_) (fun c_5 => ?_)
      · refine lv_iinc (v := (nI (i + 1))) (lv' := [(2, .int (nI (i + 1))), (0, .ref (A 0)), (1, .int (pX0_smokeBlown u (va_up w 13 ((w 13) + (1 : Int32))) (w 11)))]) hx hb dX0_passDay_41 hl (k := 2) rfl (nI_succ i).symm (by decide) rfl (fun ls hl => ?_)
        refine lv_goto (tgt := 21) hx hb dX0_passDay_44 (by decide) ?_
        have e8 : pX0_passDay_L21 u w (i + 1) = ((pX0_passDay_L21 u w i).1, (pX0_passDay_L21 u w i).2) := by rw [pX0_passDay_L21_s] <;> simp only [if_pos c_5]
        exact ih_21 (i + 1) (by omega) _ _ (by rw [e8]; exact hP) (by rw [e8]; exact hD) hS ls (lv_sub hl [1, 2, 0] rfl)
      · refine lv_aload_n hx hb dX0_passDay_35 rfl (lv_at hl 0 rfl) ?_
        refine lv_iload_n hx hb dX0_passDay_36 rfl (lv_at hl 2 rfl) ?_
        refine lv_iload_n hx hb dX0_passDay_37 rfl (lv_at hl 1 rfl) ?_
        obtain ⟨z_6, hz_6⟩ : ∃ q, q = (pX0_soilLine (pX0_passDay_L21 u w i).1 (pX0_passDay_L21 u w i).2 (nI i) (pX0_smokeBlown u (va_up w 13 ((w 13) + (1 : Int32))) (w 11))) := ⟨_, rfl⟩
        refine mV (ws := (wC cyI A (pX0_passDay_L21 u w i).1 (pX0_passDay_L21 u w i).2)) (ws' := (wC cyI A z_6.1 z_6.2)) (As := [.int (nI i), .int (pX0_smokeBlown u (va_up w 13 ((w 13) + (1 : Int32))) (w 11))]) (rest := []) hx hb hml hown hts hl.1 (WS := (wC cyI A (pX0_passDay_L21 u w i).1 (pX0_passDay_L21 u w i).2)) (WS' := (wC cyI A z_6.1 z_6.2)) (ro := none) (by rw [hz_6]; exact kX0_soilLine l D cyC cyI cyO A (pX0_passDay_L21 u w i).1 (pX0_passDay_L21 u w i).2 (nI i) (pX0_smokeBlown u (va_up w 13 ((w 13) + (1 : Int32))) (w 11)) (vp_in_nI (Nat.lt_of_lt_of_le hlt (by decide)) (by decide))) bV_X0_soilLine  wml_RX0_141 ⟨rfl, rfl⟩ ⟨Nat.le_of_ble_eq_true rfl, Nat.le_of_ble_eq_true rfl, Nat.zero_le _, Nat.zero_le _⟩ [0, 1, 2, 3, 4, 5, 6, 7, 8] rfl rfl rfl rfl rfl hP hD hS hA hK 0 rfl rfl rfl rfl rfl (Nat.le_of_ble_eq_true rfl) dX0_passDay_38 (fun H locs hP hD hS => ?_)
        refine lv_iinc (v := (nI (i + 1))) (lv' := [(2, .int (nI (i + 1))), (0, .ref (A 0)), (1, .int (pX0_smokeBlown u (va_up w 13 ((w 13) + (1 : Int32))) (w 11)))]) hx hb dX0_passDay_41 hl (k := 2) rfl (nI_succ i).symm (by decide) rfl (fun ls hl => ?_)
        refine lv_goto (tgt := 21) hx hb dX0_passDay_44 (by decide) ?_
        have e8 : pX0_passDay_L21 u w (i + 1) = (z_6.1, z_6.2) := by rw [pX0_passDay_L21_s] <;> simp only [← hz_6, if_neg c_5]
        exact ih_21 (i + 1) (by omega) _ _ (by rw [e8]; exact hP) (by rw [e8]; exact hD) hS ls (lv_sub hl [1, 2, 0] rfl)
  exact key_21 28 0 (Nat.zero_add 28) _ _ (hP) (hD) hS ls (lv_sub hl [2, 1, 0] rfl)
theorem bV_X0_passDay : BV RX0 yX0_passDay cX0_passDay 3 none 0 := ⟨wcd_X0_passDay, wim_X0_passDay, wse_X0_passDay, win_RX0, by decide +kernel⟩
