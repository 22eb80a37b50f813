def pX7_lays (u : (Nat → Nat → Int32)) (w : (Nat → Int32)) (a1 : Int32) (a2 : Int32) (a3 : Int32) : (Nat → Nat → Int32) × (Nat → Int32) := ((va_up u 0 (upd (u 0) ((((30 : Int32) + ((4 : Int32) * a1)) + a2)).toNatClampNeg a3)), w)
set_option maxHeartbeats 4000000 in
set_option maxRecDepth 100000 in
theorem kX7_lays (l : Launch) (D : va_G) (cyC cyI cyO : ClassId) (A : Nat → Nat) (u : (Nat → Nat → Int32)) (w : (Nat → Int32)) (a1 : Int32) (a2 : Int32) (a3 : Int32) (h1 : vp_in a1 28) (h2 : vp_in a2 4) : MU l yX7_lays (Ty yX7_lays cX7_lays 4 none) ({ frames := 0, cells := 0, slots := 0, locals := 0 } : Room) D cyC cyI cyO (wM cyI A u w) [.ref (A 0), .int a1, .int a2, .int a3] none (wM cyI A (pX7_lays u w a1 a2 a3).1 (pX7_lays u w a1 a2 a3).2) := by
  intro sz
  refine Met.ofW (cc := cX7_lays) (maxL := 4) (ret := none) (by decide) rfl ?_
  intro p e s m args below meth cd s₁ B hml hv
  obtain ⟨rfl, hsz, hP, hK, hD0⟩ := hv
  have hx := B.exec
  have hb := B.bytes
  have hr := B.returns
  have hts : ∀ w ∈ TB, w.before ([.ref (A 0), .int a1, .int a2, .int a3] : List Value).toArray s = true := fun w h => atoms_spec (ws := (Ty yX7_lays cX7_lays 4 none)) B.pre w (List.mem_cons_of_mem _ h)
  have hown : s.vm.findClass RX7 = some m.cls := findClass_of_methodNamed B.named
  have hlocks := B.notSynchronized
  subst hsz
  have hD := hD0.self (sz := s.heap.size)
  have hA : ∀ q : Nat, s.heap.size ≤ q → (va_A (wM cyI A u w) s.heap.size) q := fun q h => Or.inr h
  generalize hAe : va_A (wM cyI A u w) s.heap.size = A0 at hD hA ⊢
  have hS : va_S A0 s.heap s.heap [] := va_S.rf
  have hl := lv_entry ([.ref (A 0), .int a1, .int a2, .int a3]) (n := 4) (Nat.le_of_ble_eq_true rfl)
  rw [lg_entry_eq]
  generalize (lg_sl ([.ref (A 0), .int a1, .int a2, .int a3]) ++ List.replicate (4 - (lg_sl ([.ref (A 0), .int a1, .int a2, .int a3])).length) Slot.unset).toArray = ls at hl ⊢
  have hl : lv_has ls 4 [(0, .ref (A 0)), (1, .int a1), (2, .int a2), (3, .int a3)] := hl
  refine lv_aload_n hx hb dX7_lays_0 rfl (lv_at hl 0 rfl) ?_
  refine va_get (D := D) (ci := 6) (v := .ref (A 1)) (C := RX7) (T := TX7) (N := 15) hx hb hts inT_X7 hown hK.1 hP 0 rfl rfl 0 (by decide) (hts _ wfl_RX7_7) (fun _ h9 => h9) rfl dX7_lays_1 ?_
  refine lv_bipush (v := 30) hx hb dX7_lays_4 (by decide) ?_
  refine lv_iconst (v := 4) hx hb dX7_lays_6 (by decide) ?_
  refine lv_iload_n hx hb dX7_lays_7 rfl (lv_at hl 1 rfl) ?_
  refine lv_imul hx hb dX7_lays_8 ?_
  refine lv_iadd hx hb dX7_lays_9 ?_
  refine lv_iload_n hx hb dX7_lays_10 rfl (lv_at hl 2 rfl) ?_
  refine lv_iadd hx hb dX7_lays_11 ?_
  refine lv_iload_n hx hb dX7_lays_12 rfl (lv_at hl 3 rfl) ?_
  obtain ⟨z_1, hz_1⟩ : ∃ q, q = (upd (u 0) ((((30 : Int32) + ((4 : Int32) * a1)) + a2)).toNatClampNeg a3) := ⟨_, rfl⟩
  refine va_iast (D := D) (f := (u 0)) hx hb hK.1 hP hD hS 1 1 rfl rfl (vp_of h1 h2) dX7_lays_13 (fun H locs hP hD hS => ?_)
  have hP : va_P D vwCl (wM cyI A (va_up u 0 (upd (u 0) ((((30 : Int32) + ((4 : Int32) * a1)) + a2)).toNatClampNeg a3)) w) H := hP
  have hD : va_D A0 (wM cyI A (va_up u 0 (upd (u 0) ((((30 : Int32) + ((4 : Int32) * a1)) + a2)).toNatClampNeg a3)) w) := hD
  rw [← hz_1] at hP hD
  have e9 : (pX7_lays u w a1 a2 a3) = ((va_up u 0 z_1), w) := by simp only [pX7_lays, ← hz_1]
  have e9_0 : (pX7_lays u w a1 a2 a3).1 = (va_up u 0 z_1) := by rw [e9]
  have e9_1 : (pX7_lays u w a1 a2 a3).2 = w := by rw [e9]
  exact W.vret hx hb hr (fun t ht hW => ⟨⟨rfl, by rw [e9_0, e9_1, ht]; exact hP⟩, hS.F ht⟩) hS.2.2 dX7_lays_14
theorem bV_X7_lays : BV RX7 yX7_lays cX7_lays 4 none 3 := ⟨wcd_X7_lays, wim_X7_lays, wse_X7_lays, win_RX7, by decide +kernel⟩
def pX7_refuses (u : (Nat → Nat → Int32)) (w : (Nat → Int32)) (a1 : Int32) : Int32 × (Nat → Nat → Int32) × (Nat → Int32) := (a1, (va_up u 0 (upd (u 0) 7 (((u 0) 7) + (1 : Int32)))), w)
set_option maxHeartbeats 4000000 in
set_option maxRecDepth 100000 in
theorem kX7_refuses (l : Launch) (D : va_G) (cyC cyI cyO : ClassId) (A : Nat → Nat) (u : (Nat → Nat → Int32)) (w : (Nat → Int32)) (a1 : Int32) : MU l yX7_refuses (Ty yX7_refuses cX7_refuses 2 (some .int)) ({ frames := 0, cells := 0, slots := 0, locals := 0 } : Room) D cyC cyI cyO (wM cyI A u w) [.ref (A 0), .int a1] (some (.int (pX7_refuses u w a1).1)) (wM cyI A (pX7_refuses u w a1).2.1 (pX7_refuses u w a1).2.2) := by
  intro sz
  refine Met.ofW (cc := cX7_refuses) (maxL := 2) (ret := (some .int)) (by decide) rfl ?_
  intro p e s m args below meth cd s₁ B hml hv
  obtain ⟨rfl, hsz, hP, hK, hD0⟩ := hv
  have hx := B.exec
  have hb := B.bytes
  have hr := B.returns
  have hts : ∀ w ∈ TB, w.before ([.ref (A 0), .int a1] : List Value).toArray s = true := fun w h => atoms_spec (ws := (Ty yX7_refuses cX7_refuses 2 (some .int))) B.pre w (List.mem_cons_of_mem _ h)
  have hown : s.vm.findClass RX7 = some m.cls := findClass_of_methodNamed B.named
  have hlocks := B.notSynchronized
  subst hsz
  have hD := hD0.self (sz := s.heap.size)
  have hA : ∀ q : Nat, s.heap.size ≤ q → (va_A (wM cyI A u w) s.heap.size) q := fun q h => Or.inr h
  generalize hAe : va_A (wM cyI A u w) s.heap.size = A0 at hD hA ⊢
  have hS : va_S A0 s.heap s.heap [] := va_S.rf
  have hl := lv_entry ([.ref (A 0), .int a1]) (n := 2) (Nat.le_of_ble_eq_true rfl)
  rw [lg_entry_eq]
  generalize (lg_sl ([.ref (A 0), .int a1]) ++ List.replicate (2 - (lg_sl ([.ref (A 0), .int a1])).length) Slot.unset).toArray = ls at hl ⊢
  have hl : lv_has ls 2 [(0, .ref (A 0)), (1, .int a1)] := hl
  refine lv_aload_n hx hb dX7_refuses_0 rfl (lv_at hl 0 rfl) ?_
  refine va_get (D := D) (ci := 6) (v := .ref (A 1)) (C := RX7) (T := TX7) (N := 15) hx hb hts inT_X7 hown hK.1 hP 0 rfl rfl 0 (by decide) (hts _ wfl_RX7_7) (fun _ h9 => h9) rfl dX7_refuses_1 ?_
  refine lv_bipush (v := 7) hx hb dX7_refuses_4 (by decide) ?_
  refine lv_dup2_11 hx hb dX7_refuses_6 rfl rfl ?_
  refine va_iald (D := D) (f := (u 0)) hx hb hK.1 hP 1 1 rfl rfl (vp_lit (by decide)) dX7_refuses_7 ?_
  refine W.eq (g2 := F0 m _ ls [.int ((u 0) 7), .int 7, .ref (A 1)]) rfl ?_
  refine lv_iconst (v := 1) hx hb dX7_refuses_8 (by decide) ?_
  refine lv_iadd hx hb dX7_refuses_9 ?_
  obtain ⟨z_1, hz_1⟩ : ∃ q, q = (upd (u 0) 7 (((u 0) 7) + (1 : Int32))) := ⟨_, rfl⟩
  refine va_iast (D := D) (f := (u 0)) hx hb hK.1 hP hD hS 1 1 rfl rfl (vp_lit (by decide)) dX7_refuses_10 (fun H locs hP hD hS => ?_)
  have hP : va_P D vwCl (wM cyI A (va_up u 0 (upd (u 0) 7 (((u 0) 7) + (1 : Int32)))) w) H := hP
  have hD : va_D A0 (wM cyI A (va_up u 0 (upd (u 0) 7 (((u 0) 7) + (1 : Int32)))) w) := hD
  rw [← hz_1] at hP hD
  refine lv_iload_n hx hb dX7_refuses_11 rfl (lv_at hl 1 rfl) ?_
  have e9 : (pX7_refuses u w a1) = (a1, (va_up u 0 z_1), w) := by simp only [pX7_refuses, ← hz_1]
  have e9_0 : (pX7_refuses u w a1).1 = a1 := by rw [e9]
  have e9_1 : (pX7_refuses u w a1).2.1 = (va_up u 0 z_1) := by rw [e9]
  have e9_2 : (pX7_refuses u w a1).2.2 = w := by rw [e9]
  exact W.iret (v := a1) hx hb hr (fun t ht hW => ⟨⟨by rw [e9_0], by rw [e9_1, e9_2, ht]; exact hP⟩, hS.F ht⟩) hS.2.2 dX7_refuses_12
theorem bV_X7_refuses : BV RX7 yX7_refuses cX7_refuses 2 (some .int) 1 := ⟨wcd_X7_refuses, wim_X7_refuses, wse_X7_refuses, win_RX7, by decide +kernel⟩
def pX7_removes (u : (Nat → Nat → Int32)) (w : (Nat → Int32)) (a1 : Int32) : (Nat → Nat → Int32) × (Nat → Int32) := ((pX7_lays (pX7_lays (pX7_lays u w a1 1 0).1 (pX7_lays u w a1 1 0).2 a1 2 0).1 (pX7_lays (pX7_lays u w a1 1 0).1 (pX7_lays u w a1 1 0).2 a1 2 0).2 a1 3 0).1, (pX7_lays (pX7_lays (pX7_lays u w a1 1 0).1 (pX7_lays u w a1 1 0).2 a1 2 0).1 (pX7_lays (pX7_lays u w a1 1 0).1 (pX7_lays u w a1 1 0).2 a1 2 0).2 a1 3 0).2)
set_option maxHeartbeats 4000000 in
set_option maxRecDepth 100000 in
theorem kX7_removes (l : Launch) (D : va_G) (cyC cyI cyO : ClassId) (A : Nat → Nat) (u : (Nat → Nat → Int32)) (w : (Nat → Int32)) (a1 : Int32) (h1 : vp_in a1 28) : MU l yX7_removes (Ty yX7_removes cX7_removes 2 none) ({ frames := 1, cells := 0, slots := 0, locals := 23 } : Room) D cyC cyI cyO (wM cyI A u w) [.ref (A 0), .int a1] none (wM cyI A (pX7_removes u w a1).1 (pX7_removes u w a1).2) := by
  intro sz
  refine Met.ofW (cc := cX7_removes) (maxL := 2) (ret := none) (by decide) rfl ?_
  intro p e s m args below meth cd s₁ B hml hv
  obtain ⟨rfl, hsz, hP, hK, hD0⟩ := hv
  have hx := B.exec
  have hb := B.bytes
  have hr := B.returns
  have hts : ∀ w ∈ TB, w.before ([.ref (A 0), .int a1] : List Value).toArray s = true := fun w h => atoms_spec (ws := (Ty yX7_removes cX7_removes 2 none)) B.pre w (List.mem_cons_of_mem _ h)
  have hown : s.vm.findClass RX7 = some m.cls := findClass_of_methodNamed B.named
  have hlocks := B.notSynchronized
  subst hsz
  have hD := hD0.self (sz := s.heap.size)
  have hA : ∀ q : Nat, s.heap.size ≤ q → (va_A (wM cyI A u w) s.heap.size) q := fun q h => Or.inr h
  generalize hAe : va_A (wM cyI A u w) s.heap.size = A0 at hD hA ⊢
  have hS : va_S A0 s.heap s.heap [] := va_S.rf
  have hl := lv_entry ([.ref (A 0), .int a1]) (n := 2) (Nat.le_of_ble_eq_true rfl)
  rw [lg_entry_eq]
  generalize (lg_sl ([.ref (A 0), .int a1]) ++ List.replicate (2 - (lg_sl ([.ref (A 0), .int a1])).length) Slot.unset).toArray = ls at hl ⊢
  have hl : lv_has ls 2 [(0, .ref (A 0)), (1, .int a1)] := hl
  refine lv_aload_n hx hb dX7_removes_0 rfl (lv_at hl 0 rfl) ?_
  refine lv_iload_n hx hb dX7_removes_1 rfl (lv_at hl 1 rfl) ?_
  refine lv_iconst (v := 1) hx hb dX7_removes_2 (by decide) ?_
  refine lv_iconst (v := 0) hx hb dX7_removes_3 (by decide) ?_
  obtain ⟨z_1, hz_1⟩ : ∃ q, q = (pX7_lays u w a1 1 0) := ⟨_, rfl⟩
  refine mV (ws := (wM cyI A u w)) (ws' := (wM cyI A z_1.1 z_1.2)) (As := [.int a1, .int 1, .int 0]) (rest := []) hx hb hml hown hts hl.1 (WS := (wM cyI A u w)) (WS' := (wM cyI A z_1.1 z_1.2)) (ro := none) (by rw [hz_1]; exact kX7_lays l D cyC cyI cyO A u w a1 1 0 h1 (vp_lit (by decide))) bV_X7_lays  wml_RX7_91 ⟨rfl, rfl⟩ ⟨Nat.le_of_ble_eq_true rfl, Nat.le_of_ble_eq_true rfl, Nat.zero_le _, Nat.zero_le _⟩ [0, 1, 2, 3, 4, 5, 6] rfl rfl rfl rfl rfl hP hD hS hA hK 0 rfl rfl rfl rfl rfl (Nat.le_of_ble_eq_true rfl) dX7_removes_4 (fun H locs hP hD hS => ?_)
  refine lv_aload_n hx hb dX7_removes_7 rfl (lv_at hl 0 rfl) ?_
  refine lv_iload_n hx hb dX7_removes_8 rfl (lv_at hl 1 rfl) ?_
  refine lv_iconst (v := 2) hx hb dX7_removes_9 (by decide) ?_
  refine lv_iconst (v := 0) hx hb dX7_removes_10 (by decide) ?_
  obtain ⟨z_2, hz_2⟩ : ∃ q, q = (pX7_lays z_1.1 z_1.2 a1 2 0) := ⟨_, rfl⟩
  refine mV (ws := (wM cyI A z_1.1 z_1.2)) (ws' := (wM cyI A z_2.1 z_2.2)) (As := [.int a1, .int 2, .int 0]) (rest := []) hx hb hml hown hts hl.1 (WS := (wM cyI A z_1.1 z_1.2)) (WS' := (wM cyI A z_2.1 z_2.2)) (ro := none) (by rw [hz_2]; exact kX7_lays l D cyC cyI cyO A z_1.1 z_1.2 a1 2 0 h1 (vp_lit (by decide))) bV_X7_lays  wml_RX7_91 ⟨rfl, rfl⟩ ⟨Nat.le_of_ble_eq_true rfl, Nat.le_of_ble_eq_true rfl, Nat.zero_le _, Nat.zero_le _⟩ [0, 1, 2, 3, 4, 5, 6] rfl rfl rfl rfl rfl hP hD hS hA hK 0 rfl rfl rfl rfl rfl (Nat.le_of_ble_eq_true rfl) dX7_removes_11 (fun H locs hP hD hS => ?_)
  refine lv_aload_n hx hb dX7_removes_14 rfl (lv_at hl 0 rfl) ?_
  refine lv_iload_n hx hb dX7_removes_15 rfl (lv_at hl 1 rfl) ?_
  refine lv_iconst (v := 3) hx hb dX7_removes_16 (by decide) ?_
  refine lv_iconst (v := 0) hx hb dX7_removes_17 (by decide) ?_
  obtain ⟨z_3, hz_3⟩ : ∃ q, q = (pX7_lays z_2.1 z_2.2 a1 3 0) := ⟨_, rfl⟩
  refine mV (ws := (wM cyI A z_2.1 z_2.2)) (ws' := (wM cyI A z_3.1 z_3.2)) (As := [.int a1, .int 3, .int 0]) (rest := []) hx hb hml hown hts hl.1 (WS := (wM cyI A z_2.1 z_2.2)) (WS' := (wM cyI A z_3.1 z_3.2)) (ro := none) (by rw [hz_3]; exact kX7_lays l D cyC cyI cyO A z_2.1 z_2.2 a1 3 0 h1 (vp_lit (by decide))) bV_X7_lays  wml_RX7_91 ⟨rfl, rfl⟩ ⟨Nat.le_of_ble_eq_true rfl, Nat.le_of_ble_eq_true rfl, Nat.zero_le _, Nat.zero_le _⟩ [0, 1, 2, 3, 4, 5, 6] rfl rfl rfl rfl rfl hP hD hS hA hK 0 rfl rfl rfl rfl rfl (Nat.le_of_ble_eq_true rfl) dX7_removes_18 (fun H locs hP hD hS => ?_)
  have e9 : (pX7_removes u w a1) = (z_3.1, z_3.2) := by simp only [pX7_removes, ← hz_1, ← hz_2, ← hz_3]
  have e9_0 : (pX7_removes u w a1).1 = z_3.1 := by rw [e9]
  have e9_1 : (pX7_removes u w a1).2 = z_3.2 := by rw [e9]
  exact W.vret hx hb hr (fun t ht hW => ⟨⟨rfl, by rw [e9_0, e9_1, ht]; exact hP⟩, hS.F ht⟩) hS.2.2 dX7_removes_21
theorem bV_X7_removes : BV RX7 yX7_removes cX7_removes 2 none 1 := ⟨wcd_X7_removes, wim_X7_removes, wse_X7_removes, win_RX7, by decide +kernel⟩
def pX7_goHang (u : (Nat → Nat → Int32)) (w : (Nat → Int32)) (a1 : Int32) (a2 : Int32) : Int32 × (Nat → Nat → Int32) × (Nat → Int32) := (if (pX7_reasonToHang u w a1 a2) ≤ 0 then (((10 : Int32) + (pX7_linesNow (va_up (pX7_lays (pX7_removes u w a2).1 (pX7_removes u w a2).2 a2 1 (a1 + (1 : Int32))).1 0 (upd ((pX7_lays (pX7_removes u w a2).1 (pX7_removes u w a2).2 a2 1 (a1 + (1 : Int32))).1 0) 4 ((((pX7_lays (pX7_removes u w a2).1 (pX7_removes u w a2).2 a2 1 (a1 + (1 : Int32))).1 0) 4) + (1 : Int32)))) (pX7_lays (pX7_removes u w a2).1 (pX7_removes u w a2).2 a2 1 (a1 + (1 : Int32))).2)), (va_up (pX7_lays (pX7_removes u w a2).1 (pX7_removes u w a2).2 a2 1 (a1 + (1 : Int32))).1 0 (upd ((pX7_lays (pX7_removes u w a2).1 (pX7_removes u w a2).2 a2 1 (a1 + (1 : Int32))).1 0) 4 ((((pX7_lays (pX7_removes u w a2).1 (pX7_removes u w a2).2 a2 1 (a1 + (1 : Int32))).1 0) 4) + (1 : Int32)))), (pX7_lays (pX7_removes u w a2).1 (pX7_removes u w a2).2 a2 1 (a1 + (1 : Int32))).2) else ((pX7_refuses u w (pX7_reasonToHang u w a1 a2)).1, (pX7_refuses u w (pX7_reasonToHang u w a1 a2)).2.1, (pX7_refuses u w (pX7_reasonToHang u w a1 a2)).2.2))
set_option maxHeartbeats 4000000 in
set_option maxRecDepth 100000 in
theorem kX7_goHang (l : Launch) (D : va_G) (cyC cyI cyO : ClassId) (A : Nat → Nat) (u : (Nat → Nat → Int32)) (w : (Nat → Int32)) (a1 : Int32) (a2 : Int32) (ho : vp_in a1 4) (hg : vp_in a2 28) (hm3 : ((u 0) 2) ≤ 3) : MU l yX7_goHang (Ty yX7_goHang cX7_goHang 4 (some .int)) ({ frames := 5, cells := 0, slots := 0, locals := 113 } : Room) D cyC cyI cyO (wM cyI A u w) [.ref (A 0), .int a1, .int a2] (some (.int (pX7_goHang u w a1 a2).1)) (wM cyI A (pX7_goHang u w a1 a2).2.1 (pX7_goHang u w a1 a2).2.2) := by
  intro sz
  refine Met.ofW (cc := cX7_goHang) (maxL := 4) (ret := (some .int)) (by decide) rfl ?_
  intro p e s m args below meth cd s₁ B hml hv
  obtain ⟨rfl, hsz, hP, hK, hD0⟩ := hv
  have hx := B.exec
  have hb := B.bytes
  have hr := B.returns
  have hts : ∀ w ∈ TB, w.before ([.ref (A 0), .int a1, .int a2] : List Value).toArray s = true := fun w h => atoms_spec (ws := (Ty yX7_goHang cX7_goHang 4 (some .int))) B.pre w (List.mem_cons_of_mem _ h)
  have hown : s.vm.findClass RX7 = some m.cls := findClass_of_methodNamed B.named
  have hlocks := B.notSynchronized
  subst hsz
  have hD := hD0.self (sz := s.heap.size)
  have hA : ∀ q : Nat, s.heap.size ≤ q → (va_A (wM cyI A u w) s.heap.size) q := fun q h => Or.inr h
  generalize hAe : va_A (wM cyI A u w) s.heap.size = A0 at hD hA ⊢
  have hS : va_S A0 s.heap s.heap [] := va_S.rf
  have hl := lv_entry ([.ref (A 0), .int a1, .int a2]) (n := 4) (Nat.le_of_ble_eq_true rfl)
  rw [lg_entry_eq]
  generalize (lg_sl ([.ref (A 0), .int a1, .int a2]) ++ List.replicate (4 - (lg_sl ([.ref (A 0), .int a1, .int a2])).length) Slot.unset).toArray = ls at hl ⊢
  have hl : lv_has ls 4 [(0, .ref (A 0)), (1, .int a1), (2, .int a2)] := hl
  refine lv_aload_n hx hb dX7_goHang_0 rfl (lv_at hl 0 rfl) ?_
  refine lv_iload_n hx hb dX7_goHang_1 rfl (lv_at hl 1 rfl) ?_
  refine lv_iload_n hx hb dX7_goHang_2 rfl (lv_at hl 2 rfl) ?_
  refine rV (As := [.int a1, .int a2]) (rest := []) hx hb hml hown hts hl.1 (kX7_reasonToHang l D cyC cyI cyO A u w a1 a2 ho hg hm3) bV_X7_reasonToHang  wml_RX7_95 ⟨rfl, rfl⟩ ⟨Nat.le_of_ble_eq_true rfl, Nat.le_of_ble_eq_true rfl, Nat.zero_le _, Nat.zero_le _⟩ [0, 1, 2, 3, 4, 5, 6] rfl hP hK 0 rfl rfl rfl rfl rfl (Nat.le_of_ble_eq_true rfl) dX7_goHang_3 ?_
  refine lv_istore_n (lv' := [(3, .int (pX7_reasonToHang u w a1 a2)), (0, .ref (A 0)), (1, .int a1), (2, .int a2)]) hx hb dX7_goHang_6 rfl hl (by decide) rfl (fun ls hl => ?_)
  refine lv_iload_n hx hb dX7_goHang_7 rfl (lv_at hl 0 rfl) ?_
  refine lv_if_le (tgt := 17) hx hb dX7_goHang_8 (by decide) (fun c_1 => ?_) (fun c_1 => ?_)
  · refine lv_aload_n hx hb dX7_goHang_17 rfl (lv_at hl 1 rfl) ?_
    refine lv_iload_n hx hb dX7_goHang_18 rfl (lv_at hl 3 rfl) ?_
    obtain ⟨z_2, hz_2⟩ : ∃ q, q = (pX7_removes u w a2) := ⟨_, rfl⟩
    refine mV (ws := (wM cyI A u w)) (ws' := (wM cyI A z_2.1 z_2.2)) (As := [.int a2]) (rest := []) hx hb hml hown hts hl.1 (WS := (wM cyI A u w)) (WS' := (wM cyI A z_2.1 z_2.2)) (ro := none) (by rw [hz_2]; exact kX7_removes l D cyC cyI cyO A u w a2 hg) bV_X7_removes  wml_RX7_101 ⟨rfl, rfl⟩ ⟨Nat.le_of_ble_eq_true rfl, Nat.le_of_ble_eq_true rfl, Nat.zero_le _, Nat.zero_le _⟩ [0, 1, 2, 3, 4, 5, 6] rfl rfl rfl rfl rfl hP hD hS hA hK 0 rfl rfl rfl rfl rfl (Nat.le_of_ble_eq_true rfl) dX7_goHang_19 (fun H locs hP hD hS => ?_)
    refine lv_aload_n hx hb dX7_goHang_22 rfl (lv_at hl 1 rfl) ?_
    refine lv_iload_n hx hb dX7_goHang_23 rfl (lv_at hl 3 rfl) ?_
    refine lv_iconst (v := 1) hx hb dX7_goHang_24 (by decide) ?_
    refine lv_iload_n hx hb dX7_goHang_25 rfl (lv_at hl 2 rfl) ?_
    refine lv_iconst (v := 1) hx hb dX7_goHang_26 (by decide) ?_
    refine lv_iadd hx hb dX7_goHang_27 ?_
    obtain ⟨z_3, hz_3⟩ : ∃ q, q = (pX7_lays z_2.1 z_2.2 a2 1 (a1 + (1 : Int32))) := ⟨_, rfl⟩
    refine mV (ws := (wM cyI A z_2.1 z_2.2)) (ws' := (wM cyI A z_3.1 z_3.2)) (As := [.int a2, .int 1, .int (a1 + (1 : Int32))]) (rest := []) hx hb hml hown hts hl.1 (WS := (wM cyI A z_2.1 z_2.2)) (WS' := (wM cyI A z_3.1 z_3.2)) (ro := none) (by rw [hz_3]; exact kX7_lays l D cyC cyI cyO A z_2.1 z_2.2 a2 1 (a1 + (1 : Int32)) hg (vp_lit (by decide))) bV_X7_lays  wml_RX7_91 ⟨rfl, rfl⟩ ⟨Nat.le_of_ble_eq_true rfl, Nat.le_of_ble_eq_true rfl, Nat.zero_le _, Nat.zero_le _⟩ [0, 1, 2, 3, 4, 5, 6] rfl rfl rfl rfl rfl hP hD hS hA hK 0 rfl rfl rfl rfl rfl (Nat.le_of_ble_eq_true rfl) dX7_goHang_28 (fun H locs hP hD hS => ?_)
    refine lv_aload_n hx hb dX7_goHang_31 rfl (lv_at hl 1 rfl) ?_
    refine va_get (D := D) (ci := 6) (v := .ref (A 1)) (C := RX7) (T := TX7) (N := 15) hx hb hts inT_X7 hown hK.1 hP 0 rfl rfl 0 (by decide) (hts _ wfl_RX7_7) (fun _ h9 => h9) rfl dX7_goHang_32 ?_
    refine lv_iconst (v := 4) hx hb dX7_goHang_35 (by decide) ?_
    refine lv_dup2_11 hx hb dX7_goHang_36 rfl rfl ?_
    refine va_iald (D := D) (f := (z_3.1 0)) hx hb hK.1 hP 1 1 rfl rfl (vp_lit (by decide)) dX7_goHang_37 ?_
    refine W.eq (g2 := F0 m _ ls [.int ((z_3.1 0) 4), .int 4, .ref (A 1)]) rfl ?_
    refine lv_iconst (v := 1) hx hb dX7_goHang_38 (by decide) ?_
    refine lv_iadd hx hb dX7_goHang_39 ?_
    obtain ⟨z_4, hz_4⟩ : ∃ q, q = (upd (z_3.1 0) 4 (((z_3.1 0) 4) + (1 : Int32))) := ⟨_, rfl⟩
    refine va_iast (D := D) (f := (z_3.1 0)) hx hb hK.1 hP hD hS 1 1 rfl rfl (vp_lit (by decide)) dX7_goHang_40 (fun H locs hP hD hS => ?_)
    have hP : va_P D vwCl (wM cyI A (va_up z_3.1 0 (upd (z_3.1 0) 4 (((z_3.1 0) 4) + (1 : Int32)))) z_3.2) H := hP
    have hD : va_D A0 (wM cyI A (va_up z_3.1 0 (upd (z_3.1 0) 4 (((z_3.1 0) 4) + (1 : Int32)))) z_3.2) := hD
    rw [← hz_4] at hP hD
    refine lv_bipush (v := 10) hx hb dX7_goHang_41 (by decide) ?_
    refine lv_aload_n hx hb dX7_goHang_43 rfl (lv_at hl 1 rfl) ?_
    refine rV (As := []) (rest := [.int 10]) hx hb hml hown hts hl.1 (kX7_linesNow l D cyC cyI cyO A (va_up z_3.1 0 z_4) z_3.2) bV_X7_linesNow  wml_RX7_105 ⟨rfl, rfl⟩ ⟨Nat.le_of_ble_eq_true rfl, Nat.le_of_ble_eq_true rfl, Nat.zero_le _, Nat.zero_le _⟩ [0, 1, 2, 3, 4, 5, 6] rfl hP hK 0 rfl rfl rfl rfl rfl (Nat.le_of_ble_eq_true rfl) dX7_goHang_44 ?_
    refine lv_iadd hx hb dX7_goHang_47 ?_
    have e9 : (pX7_goHang u w a1 a2) = (((10 : Int32) + (pX7_linesNow (va_up z_3.1 0 z_4) z_3.2)), (va_up z_3.1 0 z_4), z_3.2) := by simp only [pX7_goHang, ← hz_2, ← hz_3, ← hz_4, if_pos c_1]
    have e9_0 : (pX7_goHang u w a1 a2).1 = ((10 : Int32) + (pX7_linesNow (va_up z_3.1 0 z_4) z_3.2)) := by rw [e9]
    have e9_1 : (pX7_goHang u w a1 a2).2.1 = (va_up z_3.1 0 z_4) := by rw [e9]
    have e9_2 : (pX7_goHang u w a1 a2).2.2 = z_3.2 := by rw [e9]
    exact W.iret (v := ((10 : Int32) + (pX7_linesNow (va_up z_3.1 0 z_4) z_3.2))) hx hb hr (fun t ht hW => ⟨⟨by rw [e9_0], by rw [e9_1, e9_2, ht]; exact hP⟩, hS.F ht⟩) hS.2.2 dX7_goHang_48
  · refine lv_aload_n hx hb dX7_goHang_11 rfl (lv_at hl 1 rfl) ?_
    refine lv_iload_n hx hb dX7_goHang_12 rfl (lv_at hl 0 rfl) ?_
    obtain ⟨z_5, hz_5⟩ : ∃ q, q = (pX7_refuses u w (pX7_reasonToHang u w a1 a2)) := ⟨_, rfl⟩
    refine mV (ws := (wM cyI A u w)) (ws' := (wM cyI A z_5.2.1 z_5.2.2)) (As := [.int (pX7_reasonToHang u w a1 a2)]) (rest := []) hx hb hml hown hts hl.1 (WS := (wM cyI A u w)) (WS' := (wM cyI A z_5.2.1 z_5.2.2)) (ro := (some (.int z_5.1))) (by rw [hz_5]; exact kX7_refuses l D cyC cyI cyO A u w (pX7_reasonToHang u w a1 a2)) bV_X7_refuses  wml_RX7_98 ⟨rfl, rfl⟩ ⟨Nat.le_of_ble_eq_true rfl, Nat.le_of_ble_eq_true rfl, Nat.zero_le _, Nat.zero_le _⟩ [0, 1, 2, 3, 4, 5, 6] rfl rfl rfl rfl rfl hP hD hS hA hK 0 rfl rfl rfl rfl rfl (Nat.le_of_ble_eq_true rfl) dX7_goHang_13 (fun H locs hP hD hS => ?_)
    have e9 : (pX7_goHang u w a1 a2) = (z_5.1, z_5.2.1, z_5.2.2) := by simp only [pX7_goHang, ← hz_5, if_neg c_1]
    have e9_0 : (pX7_goHang u w a1 a2).1 = z_5.1 := by rw [e9]
    have e9_1 : (pX7_goHang u w a1 a2).2.1 = z_5.2.1 := by rw [e9]
    have e9_2 : (pX7_goHang u w a1 a2).2.2 = z_5.2.2 := by rw [e9]
    exact W.iret (v := z_5.1) hx hb hr (fun t ht hW => ⟨⟨by rw [e9_0], by rw [e9_1, e9_2, ht]; exact hP⟩, hS.F ht⟩) hS.2.2 dX7_goHang_16
theorem bV_X7_goHang : BV RX7 yX7_goHang cX7_goHang 4 (some .int) 2 := ⟨wcd_X7_goHang, wim_X7_goHang, wse_X7_goHang, win_RX7, by decide +kernel⟩
def pX7_goTake (u : (Nat → Nat → Int32)) (w : (Nat → Int32)) (a1 : Int32) (a2 : Int32) : Int32 × (Nat → Nat → Int32) × (Nat → Int32) := (if (pX7_of u w a2 1) = (a1 + (1 : Int32)) then ((((10 : Int32) + (pX7_of u w a2 2)) + (pX7_of u w a2 3)), (va_up (pX7_removes u w a2).1 0 (upd ((pX7_removes u w a2).1 0) 5 ((((pX7_removes u w a2).1 0) 5) + (1 : Int32)))), (pX7_removes u w a2).2) else (if (pX7_hasLine u w a2) = 0 then ((pX7_refuses u w 6).1, (pX7_refuses u w 6).2.1, (pX7_refuses u w 6).2.2) else ((pX7_refuses u w 7).1, (pX7_refuses u w 7).2.1, (pX7_refuses u w 7).2.2)))
set_option maxHeartbeats 4000000 in
set_option maxRecDepth 100000 in
theorem kX7_goTake (l : Launch) (D : va_G) (cyC cyI cyO : ClassId) (A : Nat → Nat) (u : (Nat → Nat → Int32)) (w : (Nat → Int32)) (a1 : Int32) (a2 : Int32) (hg : vp_in a2 28) : MU l yX7_goTake (Ty yX7_goTake cX7_goTake 4 (some .int)) ({ frames := 2, cells := 0, slots := 0, locals := 44 } : Room) D cyC cyI cyO (wM cyI A u w) [.ref (A 0), .int a1, .int a2] (some (.int (pX7_goTake u w a1 a2).1)) (wM cyI A (pX7_goTake u w a1 a2).2.1 (pX7_goTake u w a1 a2).2.2) := by
  intro sz
  refine Met.ofW (cc := cX7_goTake) (maxL := 4) (ret := (some .int)) (by decide) rfl ?_
  intro p e s m args below meth cd s₁ B hml hv
  obtain ⟨rfl, hsz, hP, hK, hD0⟩ := hv
  have hx := B.exec
  have hb := B.bytes
  have hr := B.returns
  have hts : ∀ w ∈ TB, w.before ([.ref (A 0), .int a1, .int a2] : List Value).toArray s = true := fun w h => atoms_spec (ws := (Ty yX7_goTake cX7_goTake 4 (some .int))) B.pre w (List.mem_cons_of_mem _ h)
  have hown : s.vm.findClass RX7 = some m.cls := findClass_of_methodNamed B.named
  have hlocks := B.notSynchronized
  subst hsz
  have hD := hD0.self (sz := s.heap.size)
  have hA : ∀ q : Nat, s.heap.size ≤ q → (va_A (wM cyI A u w) s.heap.size) q := fun q h => Or.inr h
  generalize hAe : va_A (wM cyI A u w) s.heap.size = A0 at hD hA ⊢
  have hS : va_S A0 s.heap s.heap [] := va_S.rf
  have hl := lv_entry ([.ref (A 0), .int a1, .int a2]) (n := 4) (Nat.le_of_ble_eq_true rfl)
  rw [lg_entry_eq]
  generalize (lg_sl ([.ref (A 0), .int a1, .int a2]) ++ List.replicate (4 - (lg_sl ([.ref (A 0), .int a1, .int a2])).length) Slot.unset).toArray = ls at hl ⊢
  have hl : lv_has ls 4 [(0, .ref (A 0)), (1, .int a1), (2, .int a2)] := hl
  refine lv_aload_n hx hb dX7_goTake_0 rfl (lv_at hl 0 rfl) ?_
  refine lv_iload_n hx hb dX7_goTake_1 rfl (lv_at hl 2 rfl) ?_
  refine lv_iconst (v := 1) hx hb dX7_goTake_2 (by decide) ?_
  refine rV (As := [.int a2, .int 1]) (rest := []) hx hb hml hown hts hl.1 (kX7_of l D cyC cyI cyO A u w a2 1 hg (vp_lit (by decide))) bV_X7_of  wml_RX7_52 ⟨rfl, rfl⟩ ⟨Nat.le_of_ble_eq_true rfl, Nat.le_of_ble_eq_true rfl, Nat.zero_le _, Nat.zero_le _⟩ [0, 1, 2, 3, 4, 5, 6] rfl hP hK 0 rfl rfl rfl rfl rfl (Nat.le_of_ble_eq_true rfl) dX7_goTake_3 ?_
  refine lv_iload_n hx hb dX7_goTake_6 rfl (lv_at hl 1 rfl) ?_
  refine lv_iconst (v := 1) hx hb dX7_goTake_7 (by decide) ?_
  refine lv_iadd hx hb dX7_goTake_8 ?_
  refine lv_icmp_eq (tgt := 32) hx hb dX7_goTake_9 (by decide) (fun c_1 => ?_) (fun c_1 => ?_)
  · refine lv_bipush (v := 10) hx hb dX7_goTake_32 (by decide) ?_
    refine lv_aload_n hx hb dX7_goTake_34 rfl (lv_at hl 0 rfl) ?_
    refine lv_iload_n hx hb dX7_goTake_35 rfl (lv_at hl 2 rfl) ?_
    refine lv_iconst (v := 2) hx hb dX7_goTake_36 (by decide) ?_
    refine rV (As := [.int a2, .int 2]) (rest := [.int 10]) hx hb hml hown hts hl.1 (kX7_of l D cyC cyI cyO A u w a2 2 hg (vp_lit (by decide))) bV_X7_of  wml_RX7_52 ⟨rfl, rfl⟩ ⟨Nat.le_of_ble_eq_true rfl, Nat.le_of_ble_eq_true rfl, Nat.zero_le _, Nat.zero_le _⟩ [0, 1, 2, 3, 4, 5, 6] rfl hP hK 0 rfl rfl rfl rfl rfl (Nat.le_of_ble_eq_true rfl) dX7_goTake_37 ?_
    refine lv_iadd hx hb dX7_goTake_40 ?_
    refine lv_aload_n hx hb dX7_goTake_41 rfl (lv_at hl 0 rfl) ?_
    refine lv_iload_n hx hb dX7_goTake_42 rfl (lv_at hl 2 rfl) ?_
    refine lv_iconst (v := 3) hx hb dX7_goTake_43 (by decide) ?_
    refine rV (As := [.int a2, .int 3]) (rest := [.int ((10 : Int32) + (pX7_of u w a2 2))]) hx hb hml hown hts hl.1 (kX7_of l D cyC cyI cyO A u w a2 3 hg (vp_lit (by decide))) bV_X7_of  wml_RX7_52 ⟨rfl, rfl⟩ ⟨Nat.le_of_ble_eq_true rfl, Nat.le_of_ble_eq_true rfl, Nat.zero_le _, Nat.zero_le _⟩ [0, 1, 2, 3, 4, 5, 6] rfl hP hK 0 rfl rfl rfl rfl rfl (Nat.le_of_ble_eq_true rfl) dX7_goTake_44 ?_
    refine lv_iadd hx hb dX7_goTake_47 ?_
    refine lv_istore_n (lv' := [(3, .int (((10 : Int32) + (pX7_of u w a2 2)) + (pX7_of u w a2 3))), (0, .ref (A 0)), (1, .int a1), (2, .int a2)]) hx hb dX7_goTake_48 rfl hl (by decide) rfl (fun ls hl => ?_)
    refine lv_aload_n hx hb dX7_goTake_49 rfl (lv_at hl 1 rfl) ?_
    refine lv_iload_n hx hb dX7_goTake_50 rfl (lv_at hl 3 rfl) ?_
    obtain ⟨z_2, hz_2⟩ : ∃ q, q = (pX7_removes u w a2) := ⟨_, rfl⟩
    refine mV (ws := (wM cyI A u w)) (ws' := (wM cyI A z_2.1 z_2.2)) (As := [.int a2]) (rest := []) hx hb hml hown hts hl.1 (WS := (wM cyI A u w)) (WS' := (wM cyI A z_2.1 z_2.2)) (ro := none) (by rw [hz_2]; exact kX7_removes l D cyC cyI cyO A u w a2 hg) bV_X7_removes  wml_RX7_101 ⟨rfl, rfl⟩ ⟨Nat.le_of_ble_eq_true rfl, Nat.le_of_ble_eq_true rfl, Nat.zero_le _, Nat.zero_le _⟩ [0, 1, 2, 3, 4, 5, 6] rfl rfl rfl rfl rfl hP hD hS hA hK 0 rfl rfl rfl rfl rfl (Nat.le_of_ble_eq_true rfl) dX7_goTake_51 (fun H locs hP hD hS => ?_)
    refine lv_aload_n hx hb dX7_goTake_54 rfl (lv_at hl 1 rfl) ?_
    refine va_get (D := D) (ci := 6) (v := .ref (A 1)) (C := RX7) (T := TX7) (N := 15) hx hb hts inT_X7 hown hK.1 hP 0 rfl rfl 0 (by decide) (hts _ wfl_RX7_7) (fun _ h9 => h9) rfl dX7_goTake_55 ?_
    refine lv_iconst (v := 5) hx hb dX7_goTake_58 (by decide) ?_
    refine lv_dup2_11 hx hb dX7_goTake_59 rfl rfl ?_
    refine va_iald (D := D) (f := (z_2.1 0)) hx hb hK.1 hP 1 1 rfl rfl (vp_lit (by decide)) dX7_goTake_60 ?_
    refine W.eq (g2 := F0 m _ ls [.int ((z_2.1 0) 5), .int 5, .ref (A 1)]) rfl ?_
    refine lv_iconst (v := 1) hx hb dX7_goTake_61 (by decide) ?_
    refine lv_iadd hx hb dX7_goTake_62 ?_
    obtain ⟨z_3, hz_3⟩ : ∃ q, q = (upd (z_2.1 0) 5 (((z_2.1 0) 5) + (1 : Int32))) := ⟨_, rfl⟩
    refine va_iast (D := D) (f := (z_2.1 0)) hx hb hK.1 hP hD hS 1 1 rfl rfl (vp_lit (by decide)) dX7_goTake_63 (fun H locs hP hD hS => ?_)
    have hP : va_P D vwCl (wM cyI A (va_up z_2.1 0 (upd (z_2.1 0) 5 (((z_2.1 0) 5) + (1 : Int32)))) z_2.2) H := hP
    have hD : va_D A0 (wM cyI A (va_up z_2.1 0 (upd (z_2.1 0) 5 (((z_2.1 0) 5) + (1 : Int32)))) z_2.2) := hD
    rw [← hz_3] at hP hD
    refine lv_iload_n hx hb dX7_goTake_64 rfl (lv_at hl 0 rfl) ?_
    have e9 : (pX7_goTake u w a1 a2) = ((((10 : Int32) + (pX7_of u w a2 2)) + (pX7_of u w a2 3)), (va_up z_2.1 0 z_3), z_2.2) := by simp only [pX7_goTake, ← hz_2, ← hz_3, if_pos c_1]
    have e9_0 : (pX7_goTake u w a1 a2).1 = (((10 : Int32) + (pX7_of u w a2 2)) + (pX7_of u w a2 3)) := by rw [e9]
    have e9_1 : (pX7_goTake u w a1 a2).2.1 = (va_up z_2.1 0 z_3) := by rw [e9]
    have e9_2 : (pX7_goTake u w a1 a2).2.2 = z_2.2 := by rw [e9]
    exact W.iret (v := (((10 : Int32) + (pX7_of u w a2 2)) + (pX7_of u w a2 3))) hx hb hr (fun t ht hW => ⟨⟨by rw [e9_0], by rw [e9_1, e9_2, ht]; exact hP⟩, hS.F ht⟩) hS.2.2 dX7_goTake_65
  · refine lv_aload_n hx hb dX7_goTake_12 rfl (lv_at hl 0 rfl) ?_
    refine lv_aload_n hx hb dX7_goTake_13 rfl (lv_at hl 0 rfl) ?_
    refine lv_iload_n hx hb dX7_goTake_14 rfl (lv_at hl 2 rfl) ?_
    refine rV (As := [.int a2]) (rest := [.ref (A 0)]) hx hb hml hown hts hl.1 (kX7_hasLine l D cyC cyI cyO A u w a2 hg) bV_X7_hasLine  wml_RX7_56 ⟨rfl, rfl⟩ ⟨Nat.le_of_ble_eq_true rfl, Nat.le_of_ble_eq_true rfl, Nat.zero_le _, Nat.zero_le _⟩ [0, 1, 2, 3, 4, 5, 6] rfl hP hK 0 rfl rfl rfl rfl rfl (Nat.le_of_ble_eq_true rfl) dX7_goTake_15 ?_
    refine lv_if_eq (tgt := 26) hx hb dX7_goTake_18 (by decide) (fun c_4 => ?_) (fun c_4 => ?_)
    · refine lv_bipush (v := 6) hx hb dX7_goTake_26 (by decide) ?_
      obtain ⟨z_5, hz_5⟩ : ∃ q, q = (pX7_refuses u w 6) := ⟨_, rfl⟩
      refine mV (ws := (wM cyI A u w)) (ws' := (wM cyI A z_5.2.1 z_5.2.2)) (As := [.int 6]) (rest := []) hx hb hml hown hts hl.1 (WS := (wM cyI A u w)) (WS' := (wM cyI A z_5.2.1 z_5.2.2)) (ro := (some (.int z_5.1))) (by rw [hz_5]; exact kX7_refuses l D cyC cyI cyO A u w 6) bV_X7_refuses  wml_RX7_98 ⟨rfl, rfl⟩ ⟨Nat.le_of_ble_eq_true rfl, Nat.le_of_ble_eq_true rfl, Nat.zero_le _, Nat.zero_le _⟩ [0, 1, 2, 3, 4, 5, 6] rfl rfl rfl rfl rfl hP hD hS hA hK 0 rfl rfl rfl rfl rfl (Nat.le_of_ble_eq_true rfl) dX7_goTake_28 (fun H locs hP hD hS => ?_)
      have e9 : (pX7_goTake u w a1 a2) = (z_5.1, z_5.2.1, z_5.2.2) := by simp only [pX7_goTake, ← hz_5, if_neg c_1, if_pos c_4]
      have e9_0 : (pX7_goTake u w a1 a2).1 = z_5.1 := by rw [e9]
      have e9_1 : (pX7_goTake u w a1 a2).2.1 = z_5.2.1 := by rw [e9]
      have e9_2 : (pX7_goTake u w a1 a2).2.2 = z_5.2.2 := by rw [e9]
      exact W.iret (v := z_5.1) hx hb hr (fun t ht hW => ⟨⟨by rw [e9_0], by rw [e9_1, e9_2, ht]; exact hP⟩, hS.F ht⟩) hS.2.2 dX7_goTake_31
    · refine lv_bipush (v := 7) hx hb dX7_goTake_21 (by decide) ?_
      refine lv_goto (tgt := 28) hx hb dX7_goTake_23 (by decide) ?_
      obtain ⟨z_6, hz_6⟩ : ∃ q, q = (pX7_refuses u w 7) := ⟨_, rfl⟩
      refine mV (ws := (wM cyI A u w)) (ws' := (wM cyI A z_6.2.1 z_6.2.2)) (As := [.int 7]) (rest := []) hx hb hml hown hts hl.1 (WS := (wM cyI A u w)) (WS' := (wM cyI A z_6.2.1 z_6.2.2)) (ro := (some (.int z_6.1))) (by rw [hz_6]; exact kX7_refuses l D cyC cyI cyO A u w 7) bV_X7_refuses  wml_RX7_98 ⟨rfl, rfl⟩ ⟨Nat.le_of_ble_eq_true rfl, Nat.le_of_ble_eq_true rfl, Nat.zero_le _, Nat.zero_le _⟩ [0, 1, 2, 3, 4, 5, 6] rfl rfl rfl rfl rfl hP hD hS hA hK 0 rfl rfl rfl rfl rfl (Nat.le_of_ble_eq_true rfl) dX7_goTake_28 (fun H locs hP hD hS => ?_)
      have e9 : (pX7_goTake u w a1 a2) = (z_6.1, z_6.2.1, z_6.2.2) := by simp only [pX7_goTake, ← hz_6, if_neg c_1, if_neg c_4]
      have e9_0 : (pX7_goTake u w a1 a2).1 = z_6.1 := by rw [e9]
      have e9_1 : (pX7_goTake u w a1 a2).2.1 = z_6.2.1 := by rw [e9]
      have e9_2 : (pX7_goTake u w a1 a2).2.2 = z_6.2.2 := by rw [e9]
      exact W.iret (v := z_6.1) hx hb hr (fun t ht hW => ⟨⟨by rw [e9_0], by rw [e9_1, e9_2, ht]; exact hP⟩, hS.F ht⟩) hS.2.2 dX7_goTake_31
theorem bV_X7_goTake : BV RX7 yX7_goTake cX7_goTake 4 (some .int) 2 := ⟨wcd_X7_goTake, wim_X7_goTake, wse_X7_goTake, win_RX7, by decide +kernel⟩
def pX7_goWalk (u : (Nat → Nat → Int32)) (w : (Nat → Int32)) (a1 : Int32) (a2 : Int32) : Int32 × (Nat → Nat → Int32) × (Nat → Int32) := (if (pX7_reasonToWalk u w a1 a2 (pX7_ofOwner u w a1 3)) ≤ 0 then (((10 : Int32) + (pX7_ofOwner (va_up u 0 (upd (upd (u 0) ((((10 : Int32) + ((5 : Int32) * a1)) + (3 : Int32))).toNatClampNeg (pX7_otherOf a2 (pX7_ofOwner u w a1 3))) ((((10 : Int32) + ((5 : Int32) * a1)) + (4 : Int32))).toNatClampNeg (((upd (u 0) ((((10 : Int32) + ((5 : Int32) * a1)) + (3 : Int32))).toNatClampNeg (pX7_otherOf a2 (pX7_ofOwner u w a1 3))) ((((10 : Int32) + ((5 : Int32) * a1)) + (4 : Int32))).toNatClampNeg) + (1 : Int32)))) w a1 3)), (va_up u 0 (upd (upd (u 0) ((((10 : Int32) + ((5 : Int32) * a1)) + (3 : Int32))).toNatClampNeg (pX7_otherOf a2 (pX7_ofOwner u w a1 3))) ((((10 : Int32) + ((5 : Int32) * a1)) + (4 : Int32))).toNatClampNeg (((upd (u 0) ((((10 : Int32) + ((5 : Int32) * a1)) + (3 : Int32))).toNatClampNeg (pX7_otherOf a2 (pX7_ofOwner u w a1 3))) ((((10 : Int32) + ((5 : Int32) * a1)) + (4 : Int32))).toNatClampNeg) + (1 : Int32)))), w) else ((pX7_refuses u w (pX7_reasonToWalk u w a1 a2 (pX7_ofOwner u w a1 3))).1, (pX7_refuses u w (pX7_reasonToWalk u w a1 a2 (pX7_ofOwner u w a1 3))).2.1, (pX7_refuses u w (pX7_reasonToWalk u w a1 a2 (pX7_ofOwner u w a1 3))).2.2))
set_option maxHeartbeats 4000000 in
set_option maxRecDepth 100000 in
theorem kX7_goWalk (l : Launch) (D : va_G) (cyC cyI cyO : ClassId) (A : Nat → Nat) (u : (Nat → Nat → Int32)) (w : (Nat → Int32)) (a1 : Int32) (a2 : Int32) (ho : vp_in a1 4) (hg : vp_in a2 28) : MU l yX7_goWalk (Ty yX7_goWalk cX7_goWalk 5 (some .int)) ({ frames := 3, cells := 0, slots := 0, locals := 66 } : Room) D cyC cyI cyO (wM cyI A u w) [.ref (A 0), .int a1, .int a2] (some (.int (pX7_goWalk u w a1 a2).1)) (wM cyI A (pX7_goWalk u w a1 a2).2.1 (pX7_goWalk u w a1 a2).2.2) := by
  intro sz
  refine Met.ofW (cc := cX7_goWalk) (maxL := 5) (ret := (some .int)) (by decide) rfl ?_
  intro p e s m args below meth cd s₁ B hml hv
  obtain ⟨rfl, hsz, hP, hK, hD0⟩ := hv
  have hx := B.exec
  have hb := B.bytes
  have hr := B.returns
  have hts : ∀ w ∈ TB, w.before ([.ref (A 0), .int a1, .int a2] : List Value).toArray s = true := fun w h => atoms_spec (ws := (Ty yX7_goWalk cX7_goWalk 5 (some .int))) B.pre w (List.mem_cons_of_mem _ h)
  have hown : s.vm.findClass RX7 = some m.cls := findClass_of_methodNamed B.named
  have hlocks := B.notSynchronized
  subst hsz
  have hD := hD0.self (sz := s.heap.size)
  have hA : ∀ q : Nat, s.heap.size ≤ q → (va_A (wM cyI A u w) s.heap.size) q := fun q h => Or.inr h
  generalize hAe : va_A (wM cyI A u w) s.heap.size = A0 at hD hA ⊢
  have hS : va_S A0 s.heap s.heap [] := va_S.rf
  have hl := lv_entry ([.ref (A 0), .int a1, .int a2]) (n := 5) (Nat.le_of_ble_eq_true rfl)
  rw [lg_entry_eq]
  generalize (lg_sl ([.ref (A 0), .int a1, .int a2]) ++ List.replicate (5 - (lg_sl ([.ref (A 0), .int a1, .int a2])).length) Slot.unset).toArray = ls at hl ⊢
  have hl : lv_has ls 5 [(0, .ref (A 0)), (1, .int a1), (2, .int a2)] := hl
  refine lv_aload_n hx hb dX7_goWalk_0 rfl (lv_at hl 0 rfl) ?_
  refine lv_iload_n hx hb dX7_goWalk_1 rfl (lv_at hl 1 rfl) ?_
  refine lv_iconst (v := 3) hx hb dX7_goWalk_2 (by decide) ?_
  refine rV (As := [.int a1, .int 3]) (rest := []) hx hb hml hown hts hl.1 (kX7_ofOwner l D cyC cyI cyO A u w a1 3 ho (vp_lit (by decide))) bV_X7_ofOwner  wml_RX7_72 ⟨rfl, rfl⟩ ⟨Nat.le_of_ble_eq_true rfl, Nat.le_of_ble_eq_true rfl, Nat.zero_le _, Nat.zero_le _⟩ [0, 1, 2, 3, 4, 5, 6] rfl hP hK 0 rfl rfl rfl rfl rfl (Nat.le_of_ble_eq_true rfl) dX7_goWalk_3 ?_
  refine lv_istore_n (lv' := [(3, .int (pX7_ofOwner u w a1 3)), (0, .ref (A 0)), (1, .int a1), (2, .int a2)]) hx hb dX7_goWalk_6 rfl hl (by decide) rfl (fun ls hl => ?_)
  refine lv_aload_n hx hb dX7_goWalk_7 rfl (lv_at hl 1 rfl) ?_
  refine lv_iload_n hx hb dX7_goWalk_8 rfl (lv_at hl 2 rfl) ?_
  refine lv_iload_n hx hb dX7_goWalk_9 rfl (lv_at hl 3 rfl) ?_
  refine lv_iload_n hx hb dX7_goWalk_10 rfl (lv_at hl 0 rfl) ?_
  refine rV (As := [.int a1, .int a2, .int (pX7_ofOwner u w a1 3)]) (rest := []) hx hb hml hown hts hl.1 (kX7_reasonToWalk l D cyC cyI cyO A u w a1 a2 (pX7_ofOwner u w a1 3) ho hg) bV_X7_reasonToWalk  wml_RX7_108 ⟨rfl, rfl⟩ ⟨Nat.le_of_ble_eq_true rfl, Nat.le_of_ble_eq_true rfl, Nat.zero_le _, Nat.zero_le _⟩ [0, 1, 2, 3, 4, 5, 6] rfl hP hK 0 rfl rfl rfl rfl rfl (Nat.le_of_ble_eq_true rfl) dX7_goWalk_11 ?_
  refine lv_istore (lv' := [(4, .int (pX7_reasonToWalk u w a1 a2 (pX7_ofOwner u w a1 3))), (3, .int (pX7_ofOwner u w a1 3)), (0, .ref (A 0)), (1, .int a1), (2, .int a2)]) hx hb dX7_goWalk_14 hl (by decide) rfl (fun ls hl => ?_)
  refine lv_iload hx hb dX7_goWalk_16 (lv_at hl 0 rfl) ?_
  refine lv_if_le (tgt := 28) hx hb dX7_goWalk_18 (by decide) (fun c_1 => ?_) (fun c_1 => ?_)
  · refine lv_aload_n hx hb dX7_goWalk_28 rfl (lv_at hl 2 rfl) ?_
    refine va_get (D := D) (ci := 6) (v := .ref (A 1)) (C := RX7) (T := TX7) (N := 15) hx hb hts inT_X7 hown hK.1 hP 0 rfl rfl 0 (by decide) (hts _ wfl_RX7_7) (fun _ h9 => h9) rfl dX7_goWalk_29 ?_
    refine lv_bipush (v := 10) hx hb dX7_goWalk_32 (by decide) ?_
    refine lv_iconst (v := 5) hx hb dX7_goWalk_34 (by decide) ?_
    refine lv_iload_n hx hb dX7_goWalk_35 rfl (lv_at hl 3 rfl) ?_
    refine lv_imul hx hb dX7_goWalk_36 ?_
    refine lv_iadd hx hb dX7_goWalk_37 ?_
    refine lv_iconst (v := 3) hx hb dX7_goWalk_38 (by decide) ?_
    refine lv_iadd hx hb dX7_goWalk_39 ?_
    refine lv_iload_n hx hb dX7_goWalk_40 rfl (lv_at hl 4 rfl) ?_
    refine lv_iload_n hx hb dX7_goWalk_41 rfl (lv_at hl 1 rfl) ?_
    refine rS (As := [.int a2, .int (pX7_ofOwner u w a1 3)]) (rest := [.int (((10 : Int32) + ((5 : Int32) * a1)) + (3 : Int32)), .ref (A 1)]) hx hb hml hown hts hl.1 (kX7_otherOf l D cyC cyI cyO a2 (pX7_ofOwner u w a1 3)) bS_X7_otherOf  wml_RX7_85 ⟨rfl, rfl⟩ ⟨Nat.le_of_ble_eq_true rfl, Nat.le_of_ble_eq_true rfl, Nat.zero_le _, Nat.zero_le _⟩ [] rfl hP hK rfl rfl (Nat.le_of_ble_eq_true rfl) dX7_goWalk_42 ?_
    obtain ⟨z_2, hz_2⟩ : ∃ q, q = (upd (u 0) ((((10 : Int32) + ((5 : Int32) * a1)) + (3 : Int32))).toNatClampNeg (pX7_otherOf a2 (pX7_ofOwner u w a1 3))) := ⟨_, rfl⟩
    refine va_iast (D := D) (f := (u 0)) hx hb hK.1 hP hD hS 1 1 rfl rfl (vp_ow ho (vp_lit (by decide))) dX7_goWalk_45 (fun H locs hP hD hS => ?_)
    have hP : va_P D vwCl (wM cyI A (va_up u 0 (upd (u 0) ((((10 : Int32) + ((5 : Int32) * a1)) + (3 : Int32))).toNatClampNeg (pX7_otherOf a2 (pX7_ofOwner u w a1 3)))) w) H := hP
    have hD : va_D A0 (wM cyI A (va_up u 0 (upd (u 0) ((((10 : Int32) + ((5 : Int32) * a1)) + (3 : Int32))).toNatClampNeg (pX7_otherOf a2 (pX7_ofOwner u w a1 3)))) w) := hD
    rw [← hz_2] at hP hD
    refine lv_aload_n hx hb dX7_goWalk_46 rfl (lv_at hl 2 rfl) ?_
    refine va_get (D := D) (ci := 6) (v := .ref (A 1)) (C := RX7) (T := TX7) (N := 15) hx hb hts inT_X7 hown hK.1 hP 0 rfl rfl 0 (by decide) (hts _ wfl_RX7_7) (fun _ h9 => h9) rfl dX7_goWalk_47 ?_
    refine lv_bipush (v := 10) hx hb dX7_goWalk_50 (by decide) ?_
    refine lv_iconst (v := 5) hx hb dX7_goWalk_52 (by decide) ?_
    refine lv_iload_n hx hb dX7_goWalk_53 rfl (lv_at hl 3 rfl) ?_
    refine lv_imul hx hb dX7_goWalk_54 ?_
    refine lv_iadd hx hb dX7_goWalk_55 ?_
    refine lv_iconst (v := 4) hx hb dX7_goWalk_56 (by decide) ?_
    refine lv_iadd hx hb dX7_goWalk_57 ?_
    refine lv_dup2_11 hx hb dX7_goWalk_58 rfl rfl ?_
    refine va_iald (D := D) (f := z_2) hx hb hK.1 hP 1 1 rfl rfl (vp_ow ho (vp_lit (by decide))) dX7_goWalk_59 ?_
    refine lv_iconst (v := 1) hx hb dX7_goWalk_60 (by decide) ?_
    refine lv_iadd hx hb dX7_goWalk_61 ?_
    obtain ⟨z_3, hz_3⟩ : ∃ q, q = (upd z_2 ((((10 : Int32) + ((5 : Int32) * a1)) + (4 : Int32))).toNatClampNeg ((z_2 ((((10 : Int32) + ((5 : Int32) * a1)) + (4 : Int32))).toNatClampNeg) + (1 : Int32))) := ⟨_, rfl⟩
    refine va_iast (D := D) (f := z_2) hx hb hK.1 hP hD hS 1 1 rfl rfl (vp_ow ho (vp_lit (by decide))) dX7_goWalk_62 (fun H locs hP hD hS => ?_)
    have hP : va_P D vwCl (wM cyI A (va_up u 0 (upd z_2 ((((10 : Int32) + ((5 : Int32) * a1)) + (4 : Int32))).toNatClampNeg ((z_2 ((((10 : Int32) + ((5 : Int32) * a1)) + (4 : Int32))).toNatClampNeg) + (1 : Int32)))) w) H := hP
    have hD : va_D A0 (wM cyI A (va_up u 0 (upd z_2 ((((10 : Int32) + ((5 : Int32) * a1)) + (4 : Int32))).toNatClampNeg ((z_2 ((((10 : Int32) + ((5 : Int32) * a1)) + (4 : Int32))).toNatClampNeg) + (1 : Int32)))) w) := hD
    rw [← hz_3] at hP hD
    refine lv_bipush (v := 10) hx hb dX7_goWalk_63 (by decide) ?_
    refine lv_aload_n hx hb dX7_goWalk_65 rfl (lv_at hl 2 rfl) ?_
    refine lv_iload_n hx hb dX7_goWalk_66 rfl (lv_at hl 3 rfl) ?_
    refine lv_iconst (v := 3) hx hb dX7_goWalk_67 (by decide) ?_
    refine rV (As := [.int a1, .int 3]) (rest := [.int 10]) hx hb hml hown hts hl.1 (kX7_ofOwner l D cyC cyI cyO A (va_up u 0 z_3) w a1 3 ho (vp_lit (by decide))) bV_X7_ofOwner  wml_RX7_72 ⟨rfl, rfl⟩ ⟨Nat.le_of_ble_eq_true rfl, Nat.le_of_ble_eq_true rfl, Nat.zero_le _, Nat.zero_le _⟩ [0, 1, 2, 3, 4, 5, 6] rfl hP hK 0 rfl rfl rfl rfl rfl (Nat.le_of_ble_eq_true rfl) dX7_goWalk_68 ?_
    refine lv_iadd hx hb dX7_goWalk_71 ?_
    have e9 : (pX7_goWalk u w a1 a2) = (((10 : Int32) + (pX7_ofOwner (va_up u 0 z_3) w a1 3)), (va_up u 0 z_3), w) := by simp only [pX7_goWalk, ← hz_2, ← hz_3, if_pos c_1]
    have e9_0 : (pX7_goWalk u w a1 a2).1 = ((10 : Int32) + (pX7_ofOwner (va_up u 0 z_3) w a1 3)) := by rw [e9]
    have e9_1 : (pX7_goWalk u w a1 a2).2.1 = (va_up u 0 z_3) := by rw [e9]
    have e9_2 : (pX7_goWalk u w a1 a2).2.2 = w := by rw [e9]
    exact W.iret (v := ((10 : Int32) + (pX7_ofOwner (va_up u 0 z_3) w a1 3))) hx hb hr (fun t ht hW => ⟨⟨by rw [e9_0], by rw [e9_1, e9_2, ht]; exact hP⟩, hS.F ht⟩) hS.2.2 dX7_goWalk_72
  · refine lv_aload_n hx hb dX7_goWalk_21 rfl (lv_at hl 2 rfl) ?_
    refine lv_iload hx hb dX7_goWalk_22 (lv_at hl 0 rfl) ?_
    obtain ⟨z_4, hz_4⟩ : ∃ q, q = (pX7_refuses u w (pX7_reasonToWalk u w a1 a2 (pX7_ofOwner u w a1 3))) := ⟨_, rfl⟩
    refine mV (ws := (wM cyI A u w)) (ws' := (wM cyI A z_4.2.1 z_4.2.2)) (As := [.int (pX7_reasonToWalk u w a1 a2 (pX7_ofOwner u w a1 3))]) (rest := []) hx hb hml hown hts hl.1 (WS := (wM cyI A u w)) (WS' := (wM cyI A z_4.2.1 z_4.2.2)) (ro := (some (.int z_4.1))) (by rw [hz_4]; exact kX7_refuses l D cyC cyI cyO A u w (pX7_reasonToWalk u w a1 a2 (pX7_ofOwner u w a1 3))) bV_X7_refuses  wml_RX7_98 ⟨rfl, rfl⟩ ⟨Nat.le_of_ble_eq_true rfl, Nat.le_of_ble_eq_true rfl, Nat.zero_le _, Nat.zero_le _⟩ [0, 1, 2, 3, 4, 5, 6] rfl rfl rfl rfl rfl hP hD hS hA hK 0 rfl rfl rfl rfl rfl (Nat.le_of_ble_eq_true rfl) dX7_goWalk_24 (fun H locs hP hD hS => ?_)
    have e9 : (pX7_goWalk u w a1 a2) = (z_4.1, z_4.2.1, z_4.2.2) := by simp only [pX7_goWalk, ← hz_4, if_neg c_1]
    have e9_0 : (pX7_goWalk u w a1 a2).1 = z_4.1 := by rw [e9]
    have e9_1 : (pX7_goWalk u w a1 a2).2.1 = z_4.2.1 := by rw [e9]
    have e9_2 : (pX7_goWalk u w a1 a2).2.2 = z_4.2.2 := by rw [e9]
    exact W.iret (v := z_4.1) hx hb hr (fun t ht hW => ⟨⟨by rw [e9_0], by rw [e9_1, e9_2, ht]; exact hP⟩, hS.F ht⟩) hS.2.2 dX7_goWalk_27
theorem bV_X7_goWalk : BV RX7 yX7_goWalk cX7_goWalk 5 (some .int) 2 := ⟨wcd_X7_goWalk, wim_X7_goWalk, wse_X7_goWalk, win_RX7, by decide +kernel⟩
def pX7_goChimney (u : (Nat → Nat → Int32)) (w : (Nat → Int32)) (a1 : Int32) : Int32 × (Nat → Nat → Int32) × (Nat → Int32) := ((pX7_ones (pX7_smoke (va_up u 0 (upd (u 0) 8 (((u 0) 8) ^^^ ((1 : Int32) <<< (a1 &&& 31))))) w)), (va_up u 0 (upd (u 0) 8 (((u 0) 8) ^^^ ((1 : Int32) <<< (a1 &&& 31))))), w)
set_option maxHeartbeats 4000000 in
set_option maxRecDepth 100000 in
theorem kX7_goChimney (l : Launch) (D : va_G) (cyC cyI cyO : ClassId) (A : Nat → Nat) (u : (Nat → Nat → Int32)) (w : (Nat → Int32)) (a1 : Int32) (hm3 : ((u 0) 2) ≤ 3) : MU l yX7_goChimney (Ty yX7_goChimney cX7_goChimney 2 (some .int)) ({ frames := 4, cells := 0, slots := 0, locals := 91 } : Room) D cyC cyI cyO (wM cyI A u w) [.ref (A 0), .int a1] (some (.int (pX7_goChimney u w a1).1)) (wM cyI A (pX7_goChimney u w a1).2.1 (pX7_goChimney u w a1).2.2) := by
  intro sz
  refine Met.ofW (cc := cX7_goChimney) (maxL := 2) (ret := (some .int)) (by decide) rfl ?_
  intro p e s m args below meth cd s₁ B hml hv
  obtain ⟨rfl, hsz, hP, hK, hD0⟩ := hv
  have hx := B.exec
  have hb := B.bytes
  have hr := B.returns
  have hts : ∀ w ∈ TB, w.before ([.ref (A 0), .int a1] : List Value).toArray s = true := fun w h => atoms_spec (ws := (Ty yX7_goChimney cX7_goChimney 2 (some .int))) B.pre w (List.mem_cons_of_mem _ h)
  have hown : s.vm.findClass RX7 = some m.cls := findClass_of_methodNamed B.named
  have hlocks := B.notSynchronized
  subst hsz
  have hD := hD0.self (sz := s.heap.size)
  have hA : ∀ q : Nat, s.heap.size ≤ q → (va_A (wM cyI A u w) s.heap.size) q := fun q h => Or.inr h
  generalize hAe : va_A (wM cyI A u w) s.heap.size = A0 at hD hA ⊢
  have hS : va_S A0 s.heap s.heap [] := va_S.rf
  have hl := lv_entry ([.ref (A 0), .int a1]) (n := 2) (Nat.le_of_ble_eq_true rfl)
  rw [lg_entry_eq]
  generalize (lg_sl ([.ref (A 0), .int a1]) ++ List.replicate (2 - (lg_sl ([.ref (A 0), .int a1])).length) Slot.unset).toArray = ls at hl ⊢
  have hl : lv_has ls 2 [(0, .ref (A 0)), (1, .int a1)] := hl
  refine lv_aload_n hx hb dX7_goChimney_0 rfl (lv_at hl 0 rfl) ?_
  refine va_get (D := D) (ci := 6) (v := .ref (A 1)) (C := RX7) (T := TX7) (N := 15) hx hb hts inT_X7 hown hK.1 hP 0 rfl rfl 0 (by decide) (hts _ wfl_RX7_7) (fun _ h9 => h9) rfl dX7_goChimney_1 ?_
  refine lv_bipush (v := 8) hx hb dX7_goChimney_4 (by decide) ?_
  refine lv_dup2_11 hx hb dX7_goChimney_6 rfl rfl ?_
  refine va_iald (D := D) (f := (u 0)) hx hb hK.1 hP 1 1 rfl rfl (vp_lit (by decide)) dX7_goChimney_7 ?_
  refine W.eq (g2 := F0 m _ ls [.int ((u 0) 8), .int 8, .ref (A 1)]) rfl ?_
  refine lv_iconst (v := 1) hx hb dX7_goChimney_8 (by decide) ?_
  refine lv_iload_n hx hb dX7_goChimney_9 rfl (lv_at hl 1 rfl) ?_
  refine lv_ishl hx hb dX7_goChimney_10 ?_
  refine lv_ixor hx hb dX7_goChimney_11 ?_
  obtain ⟨z_1, hz_1⟩ : ∃ q, q = (upd (u 0) 8 (((u 0) 8) ^^^ ((1 : Int32) <<< (a1 &&& 31)))) := ⟨_, rfl⟩
  refine va_iast (D := D) (f := (u 0)) hx hb hK.1 hP hD hS 1 1 rfl rfl (vp_lit (by decide)) dX7_goChimney_12 (fun H locs hP hD hS => ?_)
  have hP : va_P D vwCl (wM cyI A (va_up u 0 (upd (u 0) 8 (((u 0) 8) ^^^ ((1 : Int32) <<< (a1 &&& 31))))) w) H := hP
  have hD : va_D A0 (wM cyI A (va_up u 0 (upd (u 0) 8 (((u 0) 8) ^^^ ((1 : Int32) <<< (a1 &&& 31))))) w) := hD
  rw [← hz_1] at hP hD
  refine lv_aload_n hx hb dX7_goChimney_13 rfl (lv_at hl 0 rfl) ?_
  refine rV (As := []) (rest := []) hx hb hml hown hts hl.1 (kX7_smoke l D cyC cyI cyO A (va_up u 0 z_1) w (by show z_1 2 ≤ 3; rw [hz_1]; exact hm3)) bV_X7_smoke  wml_RX7_78 ⟨rfl, rfl⟩ ⟨Nat.le_of_ble_eq_true rfl, Nat.le_of_ble_eq_true rfl, Nat.zero_le _, Nat.zero_le _⟩ [0, 1, 2, 3, 4, 5, 6] rfl hP hK 0 rfl rfl rfl rfl rfl (Nat.le_of_ble_eq_true rfl) dX7_goChimney_14 ?_
  refine rS (As := [.int (pX7_smoke (va_up u 0 z_1) w)]) (rest := []) hx hb hml hown hts hl.1 (kX7_ones l D cyC cyI cyO (pX7_smoke (va_up u 0 z_1) w)) bS_X7_ones  wml_RX7_112 ⟨rfl, rfl⟩ ⟨Nat.le_of_ble_eq_true rfl, Nat.le_of_ble_eq_true rfl, Nat.zero_le _, Nat.zero_le _⟩ [] rfl hP hK rfl rfl (Nat.le_of_ble_eq_true rfl) dX7_goChimney_17 ?_
  have e9 : (pX7_goChimney u w a1) = ((pX7_ones (pX7_smoke (va_up u 0 z_1) w)), (va_up u 0 z_1), w) := by simp only [pX7_goChimney, ← hz_1]
  have e9_0 : (pX7_goChimney u w a1).1 = (pX7_ones (pX7_smoke (va_up u 0 z_1) w)) := by rw [e9]
  have e9_1 : (pX7_goChimney u w a1).2.1 = (va_up u 0 z_1) := by rw [e9]
  have e9_2 : (pX7_goChimney u w a1).2.2 = w := by rw [e9]
  exact W.iret (v := (pX7_ones (pX7_smoke (va_up u 0 z_1) w))) hx hb hr (fun t ht hW => ⟨⟨by rw [e9_0], by rw [e9_1, e9_2, ht]; exact hP⟩, hS.F ht⟩) hS.2.2 dX7_goChimney_20
theorem bV_X7_goChimney : BV RX7 yX7_goChimney cX7_goChimney 2 (some .int) 1 := ⟨wcd_X7_goChimney, wim_X7_goChimney, wse_X7_goChimney, win_RX7, by decide +kernel⟩
def LN (u : Nat → Nat → Int32) : Prop := ∀ j : Nat, j < 28 → 0 ≤ u 0 (30 + 4 * j + 1) ∧ u 0 (30 + 4 * j + 1) ≤ 4
theorem ix_of (j k : Nat) : ((30 : Int32) + ((4 : Int32) * nI j)) + nI k = nI (30 + 4 * j + k) := by
  rw [show (30 : Int32) = nI 30 from rfl, show (4 : Int32) = nI 4 from rfl, pk_mul, nI_add, nI_add]
theorem ix_ow (j k : Nat) : ((10 : Int32) + ((5 : Int32) * nI j)) + nI k = nI (10 + 5 * j + k) := by
  rw [show (10 : Int32) = nI 10 from rfl, show (5 : Int32) = nI 5 from rfl, pk_mul, nI_add, nI_add]
theorem of_nI {u : Nat → Nat → Int32} {w : Nat → Int32} {j k : Nat} (hj : j < 28) (hk : k < 4) : pX7_of u w (nI j) (nI k) = u 0 (30 + 4 * j + k) := by
  unfold pX7_of
  rw [ix_of, nI_clamp (by omega)]
theorem ow_nI {u : Nat → Nat → Int32} {w : Nat → Int32} {j k : Nat} (hj : j < 4) (hk : k < 5) : pX7_ofOwner u w (nI j) (nI k) = u 0 (10 + 5 * j + k) := by
  unfold pX7_ofOwner
  rw [ix_ow, nI_clamp (by omega)]
theorem lays_nI {u : Nat → Nat → Int32} {w : Nat → Int32} {j k : Nat} {x : Int32} (hj : j < 28) (hk : k < 4) : pX7_lays u w (nI j) (nI k) x = (va_up u 0 (upd (u 0) (30 + 4 * j + k) x), w) := by
  unfold pX7_lays
  rw [ix_of, nI_clamp (by omega)]
theorem LN_up {u : Nat → Nat → Int32} {k : Nat} {x : Int32} (h : LN u) (hk : ∀ j : Nat, j < 28 → 30 + 4 * j + 1 ≠ k) : LN (va_up u 0 (upd (u 0) k x)) := fun j hj => by
  have e : (va_up u 0 (upd (u 0) k x)) 0 (30 + 4 * j + 1) = u 0 (30 + 4 * j + 1) := by
    show upd (u 0) k x (30 + 4 * j + 1) = _
    exact if_neg (hk j hj)
  rw [e]
  exact h j hj
theorem LN_lays {u : Nat → Nat → Int32} {w : Nat → Int32} {j : Nat} {k : Nat} {x : Int32} (hj : j < 28) (hk : k < 4) (hk2 : k ≠ 1) (h : LN u) : LN (pX7_lays u w (nI j) (nI k) x).1 := by
  rw [lays_nI hj hk]
  exact LN_up h (fun j2 hj2 => by omega)
theorem LN_l2 {u : Nat → Nat → Int32} {w : Nat → Int32} {j : Nat} {x : Int32} (hj : j < 28) (h : LN u) : LN (pX7_lays u w (nI j) 2 x).1 := LN_lays (k := 2) hj (by decide) (by decide) h
theorem LN_l3 {u : Nat → Nat → Int32} {w : Nat → Int32} {j : Nat} {x : Int32} (hj : j < 28) (h : LN u) : LN (pX7_lays u w (nI j) 3 x).1 := LN_lays (k := 3) hj (by decide) (by decide) h
theorem ln_in {u : Nat → Nat → Int32} {w : Nat → Int32} {j : Nat} (hj : j < 28) (h : LN u) (hl : ¬ pX7_hasLine u w (nI j) = 0) : vp_in ((pX7_of u w (nI j) 1) - (1 : Int32)) 4 := by
  have h2 := h j hj
  unfold pX7_hasLine at hl
  rw [show (1 : Int32) = nI 1 from rfl, of_nI hj (by decide)] at hl ⊢
  generalize u 0 (30 + 4 * j + 1) = x at h2 hl ⊢
  have h3 : ¬ x ≤ 0 := fun q => hl (if_pos q)
  rw [vp_in_iff]
  have a1 := Int32.le_iff_toInt_le.mp h2.1
  have a2 := Int32.le_iff_toInt_le.mp h2.2
  have a3 : ¬ x.toInt ≤ (0 : Int32).toInt := fun q => h3 (Int32.le_iff_toInt_le.mpr q)
  rw [show (0 : Int32).toInt = 0 from rfl] at a1 a3
  rw [show (4 : Int32).toInt = 4 from rfl] at a2
  obtain ⟨n, hn, rfl⟩ := nI_of (x := x) (fun q => by
    have := Int32.lt_iff_toInt_lt.mp q
    rw [show (0 : Int32).toInt = 0 from rfl] at this
    omega)
  rw [nI_toInt hn] at a1 a2 a3
  rw [pk_sub (by omega), nI_toInt (by omega)]
  omega
def pX7_goDay_L17 (u : (Nat → Nat → Int32)) (w : (Nat → Int32)) : Nat → (Nat → Nat → Int32) × (Nat → Int32) := fo (fun i x_i => (if (pX7_hasLine x_i.1 x_i.2 (nI i)) = 0 then (x_i.1, x_i.2) else (if (pX7_ofOwner x_i.1 x_i.2 ((pX7_of x_i.1 x_i.2 (nI i) 1) - (1 : Int32)) 2) = 0 then ((pX7_lays (pX7_lays x_i.1 x_i.2 (nI i) 2 ((pX7_of x_i.1 x_i.2 (nI i) 2) + (pX7_ones ((pX7_smoke (va_up u 0 (upd (u 0) 0 (((u 0) 0) + (1 : Int32)))) w) &&& (pX7_bothOf x_i.1 x_i.2 (nI i)))))).1 (pX7_lays x_i.1 x_i.2 (nI i) 2 ((pX7_of x_i.1 x_i.2 (nI i) 2) + (pX7_ones ((pX7_smoke (va_up u 0 (upd (u 0) 0 (((u 0) 0) + (1 : Int32)))) w) &&& (pX7_bothOf x_i.1 x_i.2 (nI i)))))).2 (nI i) 3 ((pX7_of (pX7_lays x_i.1 x_i.2 (nI i) 2 ((pX7_of x_i.1 x_i.2 (nI i) 2) + (pX7_ones ((pX7_smoke (va_up u 0 (upd (u 0) 0 (((u 0) 0) + (1 : Int32)))) w) &&& (pX7_bothOf x_i.1 x_i.2 (nI i)))))).1 (pX7_lays x_i.1 x_i.2 (nI i) 2 ((pX7_of x_i.1 x_i.2 (nI i) 2) + (pX7_ones ((pX7_smoke (va_up u 0 (upd (u 0) 0 (((u 0) 0) + (1 : Int32)))) w) &&& (pX7_bothOf x_i.1 x_i.2 (nI i)))))).2 (nI i) 3) + (pX7_ones ((((pX7_lays x_i.1 x_i.2 (nI i) 2 ((pX7_of x_i.1 x_i.2 (nI i) 2) + (pX7_ones ((pX7_smoke (va_up u 0 (upd (u 0) 0 (((u 0) 0) + (1 : Int32)))) w) &&& (pX7_bothOf x_i.1 x_i.2 (nI i)))))).1 0) 9) &&& (pX7_bothOf (pX7_lays x_i.1 x_i.2 (nI i) 2 ((pX7_of x_i.1 x_i.2 (nI i) 2) + (pX7_ones ((pX7_smoke (va_up u 0 (upd (u 0) 0 (((u 0) 0) + (1 : Int32)))) w) &&& (pX7_bothOf x_i.1 x_i.2 (nI i)))))).1 (pX7_lays x_i.1 x_i.2 (nI i) 2 ((pX7_of x_i.1 x_i.2 (nI i) 2) + (pX7_ones ((pX7_smoke (va_up u 0 (upd (u 0) 0 (((u 0) 0) + (1 : Int32)))) w) &&& (pX7_bothOf x_i.1 x_i.2 (nI i)))))).2 (nI i)))))).1, (pX7_lays (pX7_lays x_i.1 x_i.2 (nI i) 2 ((pX7_of x_i.1 x_i.2 (nI i) 2) + (pX7_ones ((pX7_smoke (va_up u 0 (upd (u 0) 0 (((u 0) 0) + (1 : Int32)))) w) &&& (pX7_bothOf x_i.1 x_i.2 (nI i)))))).1 (pX7_lays x_i.1 x_i.2 (nI i) 2 ((pX7_of x_i.1 x_i.2 (nI i) 2) + (pX7_ones ((pX7_smoke (va_up u 0 (upd (u 0) 0 (((u 0) 0) + (1 : Int32)))) w) &&& (pX7_bothOf x_i.1 x_i.2 (nI i)))))).2 (nI i) 3 ((pX7_of (pX7_lays x_i.1 x_i.2 (nI i) 2 ((pX7_of x_i.1 x_i.2 (nI i) 2) + (pX7_ones ((pX7_smoke (va_up u 0 (upd (u 0) 0 (((u 0) 0) + (1 : Int32)))) w) &&& (pX7_bothOf x_i.1 x_i.2 (nI i)))))).1 (pX7_lays x_i.1 x_i.2 (nI i) 2 ((pX7_of x_i.1 x_i.2 (nI i) 2) + (pX7_ones ((pX7_smoke (va_up u 0 (upd (u 0) 0 (((u 0) 0) + (1 : Int32)))) w) &&& (pX7_bothOf x_i.1 x_i.2 (nI i)))))).2 (nI i) 3) + (pX7_ones ((((pX7_lays x_i.1 x_i.2 (nI i) 2 ((pX7_of x_i.1 x_i.2 (nI i) 2) + (pX7_ones ((pX7_smoke (va_up u 0 (upd (u 0) 0 (((u 0) 0) + (1 : Int32)))) w) &&& (pX7_bothOf x_i.1 x_i.2 (nI i)))))).1 0) 9) &&& (pX7_bothOf (pX7_lays x_i.1 x_i.2 (nI i) 2 ((pX7_of x_i.1 x_i.2 (nI i) 2) + (pX7_ones ((pX7_smoke (va_up u 0 (upd (u 0) 0 (((u 0) 0) + (1 : Int32)))) w) &&& (pX7_bothOf x_i.1 x_i.2 (nI i)))))).1 (pX7_lays x_i.1 x_i.2 (nI i) 2 ((pX7_of x_i.1 x_i.2 (nI i) 2) + (pX7_ones ((pX7_smoke (va_up u 0 (upd (u 0) 0 (((u 0) 0) + (1 : Int32)))) w) &&& (pX7_bothOf x_i.1 x_i.2 (nI i)))))).2 (nI i)))))).2) else ((pX7_lays (pX7_lays x_i.1 x_i.2 (nI i) 2 ((pX7_of x_i.1 x_i.2 (nI i) 2) + (pX7_ones ((pX7_smoke (va_up u 0 (upd (u 0) 0 (((u 0) 0) + (1 : Int32)))) w) &&& (pX7_bothOf x_i.1 x_i.2 (nI i)))))).1 (pX7_lays x_i.1 x_i.2 (nI i) 2 ((pX7_of x_i.1 x_i.2 (nI i) 2) + (pX7_ones ((pX7_smoke (va_up u 0 (upd (u 0) 0 (((u 0) 0) + (1 : Int32)))) w) &&& (pX7_bothOf x_i.1 x_i.2 (nI i)))))).2 (nI i) 3 ((pX7_of (pX7_lays x_i.1 x_i.2 (nI i) 2 ((pX7_of x_i.1 x_i.2 (nI i) 2) + (pX7_ones ((pX7_smoke (va_up u 0 (upd (u 0) 0 (((u 0) 0) + (1 : Int32)))) w) &&& (pX7_bothOf x_i.1 x_i.2 (nI i)))))).1 (pX7_lays x_i.1 x_i.2 (nI i) 2 ((pX7_of x_i.1 x_i.2 (nI i) 2) + (pX7_ones ((pX7_smoke (va_up u 0 (upd (u 0) 0 (((u 0) 0) + (1 : Int32)))) w) &&& (pX7_bothOf x_i.1 x_i.2 (nI i)))))).2 (nI i) 3) + (0 : Int32))).1, (pX7_lays (pX7_lays x_i.1 x_i.2 (nI i) 2 ((pX7_of x_i.1 x_i.2 (nI i) 2) + (pX7_ones ((pX7_smoke (va_up u 0 (upd (u 0) 0 (((u 0) 0) + (1 : Int32)))) w) &&& (pX7_bothOf x_i.1 x_i.2 (nI i)))))).1 (pX7_lays x_i.1 x_i.2 (nI i) 2 ((pX7_of x_i.1 x_i.2 (nI i) 2) + (pX7_ones ((pX7_smoke (va_up u 0 (upd (u 0) 0 (((u 0) 0) + (1 : Int32)))) w) &&& (pX7_bothOf x_i.1 x_i.2 (nI i)))))).2 (nI i) 3 ((pX7_of (pX7_lays x_i.1 x_i.2 (nI i) 2 ((pX7_of x_i.1 x_i.2 (nI i) 2) + (pX7_ones ((pX7_smoke (va_up u 0 (upd (u 0) 0 (((u 0) 0) + (1 : Int32)))) w) &&& (pX7_bothOf x_i.1 x_i.2 (nI i)))))).1 (pX7_lays x_i.1 x_i.2 (nI i) 2 ((pX7_of x_i.1 x_i.2 (nI i) 2) + (pX7_ones ((pX7_smoke (va_up u 0 (upd (u 0) 0 (((u 0) 0) + (1 : Int32)))) w) &&& (pX7_bothOf x_i.1 x_i.2 (nI i)))))).2 (nI i) 3) + (0 : Int32))).2)))) ((va_up u 0 (upd (u 0) 0 (((u 0) 0) + (1 : Int32)))), w)
theorem pX7_goDay_L17_s (u : (Nat → Nat → Int32)) (w : (Nat → Int32)) (i : Nat) : pX7_goDay_L17 u w (i + 1) = (if (pX7_hasLine (pX7_goDay_L17 u w i).1 (pX7_goDay_L17 u w i).2 (nI i)) = 0 then ((pX7_goDay_L17 u w i).1, (pX7_goDay_L17 u w i).2) else (if (pX7_ofOwner (pX7_goDay_L17 u w i).1 (pX7_goDay_L17 u w i).2 ((pX7_of (pX7_goDay_L17 u w i).1 (pX7_goDay_L17 u w i).2 (nI i) 1) - (1 : Int32)) 2) = 0 then ((pX7_lays (pX7_lays (pX7_goDay_L17 u w i).1 (pX7_goDay_L17 u w i).2 (nI i) 2 ((pX7_of (pX7_goDay_L17 u w i).1 (pX7_goDay_L17 u w i).2 (nI i) 2) + (pX7_ones ((pX7_smoke (va_up u 0 (upd (u 0) 0 (((u 0) 0) + (1 : Int32)))) w) &&& (pX7_bothOf (pX7_goDay_L17 u w i).1 (pX7_goDay_L17 u w i).2 (nI i)))))).1 (pX7_lays (pX7_goDay_L17 u w i).1 (pX7_goDay_L17 u w i).2 (nI i) 2 ((pX7_of (pX7_goDay_L17 u w i).1 (pX7_goDay_L17 u w i).2 (nI i) 2) + (pX7_ones ((pX7_smoke (va_up u 0 (upd (u 0) 0 (((u 0) 0) + (1 : Int32)))) w) &&& (pX7_bothOf (pX7_goDay_L17 u w i).1 (pX7_goDay_L17 u w i).2 (nI i)))))).2 (nI i) 3 ((pX7_of (pX7_lays (pX7_goDay_L17 u w i).1 (pX7_goDay_L17 u w i).2 (nI i) 2 ((pX7_of (pX7_goDay_L17 u w i).1 (pX7_goDay_L17 u w i).2 (nI i) 2) + (pX7_ones ((pX7_smoke (va_up u 0 (upd (u 0) 0 (((u 0) 0) + (1 : Int32)))) w) &&& (pX7_bothOf (pX7_goDay_L17 u w i).1 (pX7_goDay_L17 u w i).2 (nI i)))))).1 (pX7_lays (pX7_goDay_L17 u w i).1 (pX7_goDay_L17 u w i).2 (nI i) 2 ((pX7_of (pX7_goDay_L17 u w i).1 (pX7_goDay_L17 u w i).2 (nI i) 2) + (pX7_ones ((pX7_smoke (va_up u 0 (upd (u 0) 0 (((u 0) 0) + (1 : Int32)))) w) &&& (pX7_bothOf (pX7_goDay_L17 u w i).1 (pX7_goDay_L17 u w i).2 (nI i)))))).2 (nI i) 3) + (pX7_ones ((((pX7_lays (pX7_goDay_L17 u w i).1 (pX7_goDay_L17 u w i).2 (nI i) 2 ((pX7_of (pX7_goDay_L17 u w i).1 (pX7_goDay_L17 u w i).2 (nI i) 2) + (pX7_ones ((pX7_smoke (va_up u 0 (upd (u 0) 0 (((u 0) 0) + (1 : Int32)))) w) &&& (pX7_bothOf (pX7_goDay_L17 u w i).1 (pX7_goDay_L17 u w i).2 (nI i)))))).1 0) 9) &&& (pX7_bothOf (pX7_lays (pX7_goDay_L17 u w i).1 (pX7_goDay_L17 u w i).2 (nI i) 2 ((pX7_of (pX7_goDay_L17 u w i).1 (pX7_goDay_L17 u w i).2 (nI i) 2) + (pX7_ones ((pX7_smoke (va_up u 0 (upd (u 0) 0 (((u 0) 0) + (1 : Int32)))) w) &&& (pX7_bothOf (pX7_goDay_L17 u w i).1 (pX7_goDay_L17 u w i).2 (nI i)))))).1 (pX7_lays (pX7_goDay_L17 u w i).1 (pX7_goDay_L17 u w i).2 (nI i) 2 ((pX7_of (pX7_goDay_L17 u w i).1 (pX7_goDay_L17 u w i).2 (nI i) 2) + (pX7_ones ((pX7_smoke (va_up u 0 (upd (u 0) 0 (((u 0) 0) + (1 : Int32)))) w) &&& (pX7_bothOf (pX7_goDay_L17 u w i).1 (pX7_goDay_L17 u w i).2 (nI i)))))).2 (nI i)))))).1, (pX7_lays (pX7_lays (pX7_goDay_L17 u w i).1 (pX7_goDay_L17 u w i).2 (nI i) 2 ((pX7_of (pX7_goDay_L17 u w i).1 (pX7_goDay_L17 u w i).2 (nI i) 2) + (pX7_ones ((pX7_smoke (va_up u 0 (upd (u 0) 0 (((u 0) 0) + (1 : Int32)))) w) &&& (pX7_bothOf (pX7_goDay_L17 u w i).1 (pX7_goDay_L17 u w i).2 (nI i)))))).1 (pX7_lays (pX7_goDay_L17 u w i).1 (pX7_goDay_L17 u w i).2 (nI i) 2 ((pX7_of (pX7_goDay_L17 u w i).1 (pX7_goDay_L17 u w i).2 (nI i) 2) + (pX7_ones ((pX7_smoke (va_up u 0 (upd (u 0) 0 (((u 0) 0) + (1 : Int32)))) w) &&& (pX7_bothOf (pX7_goDay_L17 u w i).1 (pX7_goDay_L17 u w i).2 (nI i)))))).2 (nI i) 3 ((pX7_of (pX7_lays (pX7_goDay_L17 u w i).1 (pX7_goDay_L17 u w i).2 (nI i) 2 ((pX7_of (pX7_goDay_L17 u w i).1 (pX7_goDay_L17 u w i).2 (nI i) 2) + (pX7_ones ((pX7_smoke (va_up u 0 (upd (u 0) 0 (((u 0) 0) + (1 : Int32)))) w) &&& (pX7_bothOf (pX7_goDay_L17 u w i).1 (pX7_goDay_L17 u w i).2 (nI i)))))).1 (pX7_lays (pX7_goDay_L17 u w i).1 (pX7_goDay_L17 u w i).2 (nI i) 2 ((pX7_of (pX7_goDay_L17 u w i).1 (pX7_goDay_L17 u w i).2 (nI i) 2) + (pX7_ones ((pX7_smoke (va_up u 0 (upd (u 0) 0 (((u 0) 0) + (1 : Int32)))) w) &&& (pX7_bothOf (pX7_goDay_L17 u w i).1 (pX7_goDay_L17 u w i).2 (nI i)))))).2 (nI i) 3) + (pX7_ones ((((pX7_lays (pX7_goDay_L17 u w i).1 (pX7_goDay_L17 u w i).2 (nI i) 2 ((pX7_of (pX7_goDay_L17 u w i).1 (pX7_goDay_L17 u w i).2 (nI i) 2) + (pX7_ones ((pX7_smoke (va_up u 0 (upd (u 0) 0 (((u 0) 0) + (1 : Int32)))) w) &&& (pX7_bothOf (pX7_goDay_L17 u w i).1 (pX7_goDay_L17 u w i).2 (nI i)))))).1 0) 9) &&& (pX7_bothOf (pX7_lays (pX7_goDay_L17 u w i).1 (pX7_goDay_L17 u w i).2 (nI i) 2 ((pX7_of (pX7_goDay_L17 u w i).1 (pX7_goDay_L17 u w i).2 (nI i) 2) + (pX7_ones ((pX7_smoke (va_up u 0 (upd (u 0) 0 (((u 0) 0) + (1 : Int32)))) w) &&& (pX7_bothOf (pX7_goDay_L17 u w i).1 (pX7_goDay_L17 u w i).2 (nI i)))))).1 (pX7_lays (pX7_goDay_L17 u w i).1 (pX7_goDay_L17 u w i).2 (nI i) 2 ((pX7_of (pX7_goDay_L17 u w i).1 (pX7_goDay_L17 u w i).2 (nI i) 2) + (pX7_ones ((pX7_smoke (va_up u 0 (upd (u 0) 0 (((u 0) 0) + (1 : Int32)))) w) &&& (pX7_bothOf (pX7_goDay_L17 u w i).1 (pX7_goDay_L17 u w i).2 (nI i)))))).2 (nI i)))))).2) else ((pX7_lays (pX7_lays (pX7_goDay_L17 u w i).1 (pX7_goDay_L17 u w i).2 (nI i) 2 ((pX7_of (pX7_goDay_L17 u w i).1 (pX7_goDay_L17 u w i).2 (nI i) 2) + (pX7_ones ((pX7_smoke (va_up u 0 (upd (u 0) 0 (((u 0) 0) + (1 : Int32)))) w) &&& (pX7_bothOf (pX7_goDay_L17 u w i).1 (pX7_goDay_L17 u w i).2 (nI i)))))).1 (pX7_lays (pX7_goDay_L17 u w i).1 (pX7_goDay_L17 u w i).2 (nI i) 2 ((pX7_of (pX7_goDay_L17 u w i).1 (pX7_goDay_L17 u w i).2 (nI i) 2) + (pX7_ones ((pX7_smoke (va_up u 0 (upd (u 0) 0 (((u 0) 0) + (1 : Int32)))) w) &&& (pX7_bothOf (pX7_goDay_L17 u w i).1 (pX7_goDay_L17 u w i).2 (nI i)))))).2 (nI i) 3 ((pX7_of (pX7_lays (pX7_goDay_L17 u w i).1 (pX7_goDay_L17 u w i).2 (nI i) 2 ((pX7_of (pX7_goDay_L17 u w i).1 (pX7_goDay_L17 u w i).2 (nI i) 2) + (pX7_ones ((pX7_smoke (va_up u 0 (upd (u 0) 0 (((u 0) 0) + (1 : Int32)))) w) &&& (pX7_bothOf (pX7_goDay_L17 u w i).1 (pX7_goDay_L17 u w i).2 (nI i)))))).1 (pX7_lays (pX7_goDay_L17 u w i).1 (pX7_goDay_L17 u w i).2 (nI i) 2 ((pX7_of (pX7_goDay_L17 u w i).1 (pX7_goDay_L17 u w i).2 (nI i) 2) + (pX7_ones ((pX7_smoke (va_up u 0 (upd (u 0) 0 (((u 0) 0) + (1 : Int32)))) w) &&& (pX7_bothOf (pX7_goDay_L17 u w i).1 (pX7_goDay_L17 u w i).2 (nI i)))))).2 (nI i) 3) + (0 : Int32))).1, (pX7_lays (pX7_lays (pX7_goDay_L17 u w i).1 (pX7_goDay_L17 u w i).2 (nI i) 2 ((pX7_of (pX7_goDay_L17 u w i).1 (pX7_goDay_L17 u w i).2 (nI i) 2) + (pX7_ones ((pX7_smoke (va_up u 0 (upd (u 0) 0 (((u 0) 0) + (1 : Int32)))) w) &&& (pX7_bothOf (pX7_goDay_L17 u w i).1 (pX7_goDay_L17 u w i).2 (nI i)))))).1 (pX7_lays (pX7_goDay_L17 u w i).1 (pX7_goDay_L17 u w i).2 (nI i) 2 ((pX7_of (pX7_goDay_L17 u w i).1 (pX7_goDay_L17 u w i).2 (nI i) 2) + (pX7_ones ((pX7_smoke (va_up u 0 (upd (u 0) 0 (((u 0) 0) + (1 : Int32)))) w) &&& (pX7_bothOf (pX7_goDay_L17 u w i).1 (pX7_goDay_L17 u w i).2 (nI i)))))).2 (nI i) 3 ((pX7_of (pX7_lays (pX7_goDay_L17 u w i).1 (pX7_goDay_L17 u w i).2 (nI i) 2 ((pX7_of (pX7_goDay_L17 u w i).1 (pX7_goDay_L17 u w i).2 (nI i) 2) + (pX7_ones ((pX7_smoke (va_up u 0 (upd (u 0) 0 (((u 0) 0) + (1 : Int32)))) w) &&& (pX7_bothOf (pX7_goDay_L17 u w i).1 (pX7_goDay_L17 u w i).2 (nI i)))))).1 (pX7_lays (pX7_goDay_L17 u w i).1 (pX7_goDay_L17 u w i).2 (nI i) 2 ((pX7_of (pX7_goDay_L17 u w i).1 (pX7_goDay_L17 u w i).2 (nI i) 2) + (pX7_ones ((pX7_smoke (va_up u 0 (upd (u 0) 0 (((u 0) 0) + (1 : Int32)))) w) &&& (pX7_bothOf (pX7_goDay_L17 u w i).1 (pX7_goDay_L17 u w i).2 (nI i)))))).2 (nI i) 3) + (0 : Int32))).2))) := rfl
theorem pX7_goDay_L17_0 (u : (Nat → Nat → Int32)) (w : (Nat → Int32)) : pX7_goDay_L17 u w 0 = ((va_up u 0 (upd (u 0) 0 (((u 0) 0) + (1 : Int32)))), w) := rfl
def pX7_goDay (u : (Nat → Nat → Int32)) (w : (Nat → Int32)) : Int32 × (Nat → Nat → Int32) × (Nat → Int32) := (if (((upd ((pX7_goDay_L17 u w 28).1 0) 3 ((((421 : Int32) * (((pX7_goDay_L17 u w 28).1 0) 3)) + (1663 : Int32)) - (((421 : Int32) * (((pX7_goDay_L17 u w 28).1 0) 3)) + (1663 : Int32)) / (10000 : Int32) * (10000 : Int32))) 3) - ((upd ((pX7_goDay_L17 u w 28).1 0) 3 ((((421 : Int32) * (((pX7_goDay_L17 u w 28).1 0) 3)) + (1663 : Int32)) - (((421 : Int32) * (((pX7_goDay_L17 u w 28).1 0) 3)) + (1663 : Int32)) / (10000 : Int32) * (10000 : Int32))) 3) / (4 : Int32) * (4 : Int32)) = 0 then ((pX7_cleanNow (va_up (pX7_goDay_L17 u w 28).1 0 (upd (upd ((pX7_goDay_L17 u w 28).1 0) 3 ((((421 : Int32) * (((pX7_goDay_L17 u w 28).1 0) 3)) + (1663 : Int32)) - (((421 : Int32) * (((pX7_goDay_L17 u w 28).1 0) 3)) + (1663 : Int32)) / (10000 : Int32) * (10000 : Int32))) 1 ((((upd ((pX7_goDay_L17 u w 28).1 0) 3 ((((421 : Int32) * (((pX7_goDay_L17 u w 28).1 0) 3)) + (1663 : Int32)) - (((421 : Int32) * (((pX7_goDay_L17 u w 28).1 0) 3)) + (1663 : Int32)) / (10000 : Int32) * (10000 : Int32))) 1) + (1 : Int32)) - (((upd ((pX7_goDay_L17 u w 28).1 0) 3 ((((421 : Int32) * (((pX7_goDay_L17 u w 28).1 0) 3)) + (1663 : Int32)) - (((421 : Int32) * (((pX7_goDay_L17 u w 28).1 0) 3)) + (1663 : Int32)) / (10000 : Int32) * (10000 : Int32))) 1) + (1 : Int32)) / (4 : Int32) * (4 : Int32)))) (pX7_goDay_L17 u w 28).2), (va_up (pX7_goDay_L17 u w 28).1 0 (upd (upd ((pX7_goDay_L17 u w 28).1 0) 3 ((((421 : Int32) * (((pX7_goDay_L17 u w 28).1 0) 3)) + (1663 : Int32)) - (((421 : Int32) * (((pX7_goDay_L17 u w 28).1 0) 3)) + (1663 : Int32)) / (10000 : Int32) * (10000 : Int32))) 1 ((((upd ((pX7_goDay_L17 u w 28).1 0) 3 ((((421 : Int32) * (((pX7_goDay_L17 u w 28).1 0) 3)) + (1663 : Int32)) - (((421 : Int32) * (((pX7_goDay_L17 u w 28).1 0) 3)) + (1663 : Int32)) / (10000 : Int32) * (10000 : Int32))) 1) + (1 : Int32)) - (((upd ((pX7_goDay_L17 u w 28).1 0) 3 ((((421 : Int32) * (((pX7_goDay_L17 u w 28).1 0) 3)) + (1663 : Int32)) - (((421 : Int32) * (((pX7_goDay_L17 u w 28).1 0) 3)) + (1663 : Int32)) / (10000 : Int32) * (10000 : Int32))) 1) + (1 : Int32)) / (4 : Int32) * (4 : Int32)))), (pX7_goDay_L17 u w 28).2) else ((pX7_cleanNow (va_up (pX7_goDay_L17 u w 28).1 0 (upd (upd ((pX7_goDay_L17 u w 28).1 0) 3 ((((421 : Int32) * (((pX7_goDay_L17 u w 28).1 0) 3)) + (1663 : Int32)) - (((421 : Int32) * (((pX7_goDay_L17 u w 28).1 0) 3)) + (1663 : Int32)) / (10000 : Int32) * (10000 : Int32))) 1 ((upd ((pX7_goDay_L17 u w 28).1 0) 3 ((((421 : Int32) * (((pX7_goDay_L17 u w 28).1 0) 3)) + (1663 : Int32)) - (((421 : Int32) * (((pX7_goDay_L17 u w 28).1 0) 3)) + (1663 : Int32)) / (10000 : Int32) * (10000 : Int32))) 1))) (pX7_goDay_L17 u w 28).2), (va_up (pX7_goDay_L17 u w 28).1 0 (upd (upd ((pX7_goDay_L17 u w 28).1 0) 3 ((((421 : Int32) * (((pX7_goDay_L17 u w 28).1 0) 3)) + (1663 : Int32)) - (((421 : Int32) * (((pX7_goDay_L17 u w 28).1 0) 3)) + (1663 : Int32)) / (10000 : Int32) * (10000 : Int32))) 1 ((upd ((pX7_goDay_L17 u w 28).1 0) 3 ((((421 : Int32) * (((pX7_goDay_L17 u w 28).1 0) 3)) + (1663 : Int32)) - (((421 : Int32) * (((pX7_goDay_L17 u w 28).1 0) 3)) + (1663 : Int32)) / (10000 : Int32) * (10000 : Int32))) 1))), (pX7_goDay_L17 u w 28).2))
set_option maxHeartbeats 4000000 in
set_option maxRecDepth 100000 in
theorem kX7_goDay (l : Launch) (D : va_G) (cyC cyI cyO : ClassId) (A : Nat → Nat) (u : (Nat → Nat → Int32)) (w : (Nat → Int32)) (hm3 : ((u 0) 2) ≤ 3) (hln : LN u) : MU l yX7_goDay (Ty yX7_goDay cX7_goDay 4 (some .int)) ({ frames := 4, cells := 0, slots := 0, locals := 91 } : Room) D cyC cyI cyO (wM cyI A u w) [.ref (A 0)] (some (.int (pX7_goDay u w).1)) (wM cyI A (pX7_goDay u w).2.1 (pX7_goDay u w).2.2) := by
  intro sz
  refine Met.ofW (cc := cX7_goDay) (maxL := 4) (ret := (some .int)) (by decide) rfl ?_
  intro p e s m args below meth cd s₁ B hml hv
  obtain ⟨rfl, hsz, hP, hK, hD0⟩ := hv
  have hx := B.exec
  have hb := B.bytes
  have hr := B.returns
  have hts : ∀ w ∈ TB, w.before ([.ref (A 0)] : List Value).toArray s = true := fun w h => atoms_spec (ws := (Ty yX7_goDay cX7_goDay 4 (some .int))) B.pre w (List.mem_cons_of_mem _ h)
  have hown : s.vm.findClass RX7 = some m.cls := findClass_of_methodNamed B.named
  have hlocks := B.notSynchronized
  subst hsz
  have hD := hD0.self (sz := s.heap.size)
  have hA : ∀ q : Nat, s.heap.size ≤ q → (va_A (wM cyI A u w) s.heap.size) q := fun q h => Or.inr h
  generalize hAe : va_A (wM cyI A u w) s.heap.size = A0 at hD hA ⊢
  have hS : va_S A0 s.heap s.heap [] := va_S.rf
  have hl := lv_entry ([.ref (A 0)]) (n := 4) (Nat.le_of_ble_eq_true rfl)
  rw [lg_entry_eq]
  generalize (lg_sl ([.ref (A 0)]) ++ List.replicate (4 - (lg_sl ([.ref (A 0)])).length) Slot.unset).toArray = ls at hl ⊢
  have hl : lv_has ls 4 [(0, .ref (A 0))] := hl
  refine lv_aload_n hx hb dX7_goDay_0 rfl (lv_at hl 0 rfl) ?_
  refine va_get (D := D) (ci := 6) (v := .ref (A 1)) (C := RX7) (T := TX7) (N := 15) hx hb hts inT_X7 hown hK.1 hP 0 rfl rfl 0 (by decide) (hts _ wfl_RX7_7) (fun _ h9 => h9) rfl dX7_goDay_1 ?_
  refine lv_iconst (v := 0) hx hb dX7_goDay_4 (by decide) ?_
  refine lv_dup2_11 hx hb dX7_goDay_5 rfl rfl ?_
  refine va_iald (D := D) (f := (u 0)) hx hb hK.1 hP 1 1 rfl rfl (vp_lit (by decide)) dX7_goDay_6 ?_
  refine W.eq (g2 := F0 m _ ls [.int ((u 0) 0), .int 0, .ref (A 1)]) rfl ?_
  refine lv_iconst (v := 1) hx hb dX7_goDay_7 (by decide) ?_
  refine lv_iadd hx hb dX7_goDay_8 ?_
  obtain ⟨z_1, hz_1⟩ : ∃ q, q = (upd (u 0) 0 (((u 0) 0) + (1 : Int32))) := ⟨_, rfl⟩
  refine va_iast (D := D) (f := (u 0)) hx hb hK.1 hP hD hS 1 1 rfl rfl (vp_lit (by decide)) dX7_goDay_9 (fun H locs hP hD hS => ?_)
  have hP : va_P D vwCl (wM cyI A (va_up u 0 (upd (u 0) 0 (((u 0) 0) + (1 : Int32)))) w) H := hP
  have hD : va_D A0 (wM cyI A (va_up u 0 (upd (u 0) 0 (((u 0) 0) + (1 : Int32)))) w) := hD
  rw [← hz_1] at hP hD
  refine lv_aload_n hx hb dX7_goDay_10 rfl (lv_at hl 0 rfl) ?_
  refine rV (As := []) (rest := []) hx hb hml hown hts hl.1 (kX7_smoke l D cyC cyI cyO A (va_up u 0 z_1) w (by show z_1 2 ≤ 3; rw [hz_1]; exact hm3)) bV_X7_smoke  wml_RX7_78 ⟨rfl, rfl⟩ ⟨Nat.le_of_ble_eq_true rfl, Nat.le_of_ble_eq_true rfl, Nat.zero_le _, Nat.zero_le _⟩ [0, 1, 2, 3, 4, 5, 6] rfl hP hK 0 rfl rfl rfl rfl rfl (Nat.le_of_ble_eq_true rfl) dX7_goDay_11 ?_
  refine lv_istore_n (lv' := [(1, .int (pX7_smoke (va_up u 0 z_1) w)), (0, .ref (A 0))]) hx hb dX7_goDay_14 rfl hl (by decide) rfl (fun ls hl => ?_)
  refine lv_iconst (v := 0) hx hb dX7_goDay_15 (by decide) ?_
  refine lv_istore_n (lv' := [(2, .int 0), (1, .int (pX7_smoke (va_up u 0 z_1) w)), (0, .ref (A 0))]) hx hb dX7_goDay_16 rfl hl (by decide) rfl (fun ls hl => ?_)
  have key_17 : ∀ k i : Nat, i + k = 28 → LN (pX7_goDay_L17 u w i).1 → ∀ (H : Heap) (locs : List Loc), va_P D vwCl (wM cyI A (pX7_goDay_L17 u w i).1 (pX7_goDay_L17 u w i).2) H → va_D A0 (wM cyI A (pX7_goDay_L17 u w i).1 (pX7_goDay_L17 u w i).2) → va_S A0 s.heap H locs → ∀ (ls : Array Slot), lv_has ls 4 [(0, .ref (A 0)), (1, .int (pX7_smoke (va_up u 0 z_1) w)), (2, .int (nI i))] → W p l e (headSpec (Ty yX7_goDay cX7_goDay 4 (some .int)) ({ frames := 4, cells := 0, slots := 0, locals := 91 } : Room)).room s m ([.ref (A 0)] : List Value).toArray below meth cd H locs 0 0 (MQ below (MQQ (some (.int (pX7_goDay u w).1)) D (wM cyI A (pX7_goDay u w).2.1 (pX7_goDay u w).2.2) A0) ([.ref (A 0)] : List Value).toArray s 0 0 A0) (F0 m 17 ls []) := by
    intro k
    induction k with
    | zero =>
      intro i hi hln H locs hP hD hS ls hl
      obtain rfl : i = 28 := hi
      obtain ⟨z_2, hz_2⟩ : ∃ q, q = (pX7_goDay_L17 u w 28) := ⟨_, rfl⟩
      rw [← hz_2] at hP hD hln
      refine lv_iload_n hx hb dX7_goDay_17 rfl (lv_at hl 2 rfl) ?_
      refine lv_bipush (v := 28) hx hb dX7_goDay_18 (by decide) ?_
      refine lv_icmp_ge (tgt := 119) hx hb dX7_goDay_20 (by decide) (fun c_3 => ?_) (fun c_3 => absurd (le_of (C := 28) (N := 28) (by decide)) c_3)
      refine lv_aload_n hx hb dX7_goDay_119 rfl (lv_at hl 0 rfl) ?_
      refine va_get (D := D) (ci := 6) (v := .ref (A 1)) (C := RX7) (T := TX7) (N := 15) hx hb hts inT_X7 hown hK.1 hP 0 rfl rfl 0 (by decide) (hts _ wfl_RX7_7) (fun _ h9 => h9) rfl dX7_goDay_120 ?_
      refine lv_iconst (v := 3) hx hb dX7_goDay_123 (by decide) ?_
      refine lv_sipush (v := 421) hx hb dX7_goDay_124 (by decide) ?_
      refine lv_aload_n hx hb dX7_goDay_127 rfl (lv_at hl 0 rfl) ?_
      refine va_get (D := D) (ci := 6) (v := .ref (A 1)) (C := RX7) (T := TX7) (N := 15) hx hb hts inT_X7 hown hK.1 hP 0 rfl rfl 0 (by decide) (hts _ wfl_RX7_7) (fun _ h9 => h9) rfl dX7_goDay_128 ?_
      refine lv_iconst (v := 3) hx hb dX7_goDay_131 (by decide) ?_
      refine va_iald (D := D) (f := (z_2.1 0)) hx hb hK.1 hP 1 1 rfl rfl (vp_lit (by decide)) dX7_goDay_132 ?_
      refine W.eq (g2 := F0 m _ ls [.int ((z_2.1 0) 3), .int 421, .int 3, .ref (A 1)]) rfl ?_
      refine lv_imul hx hb dX7_goDay_133 ?_
      refine lv_sipush (v := 1663) hx hb dX7_goDay_134 (by decide) ?_
      refine lv_iadd hx hb dX7_goDay_137 ?_
      refine lv_sipush (v := 10000) hx hb dX7_goDay_138 (by decide) ?_
      refine lv_irem hx hb dX7_goDay_141 (by decide) ?_
      obtain ⟨z_4, hz_4⟩ : ∃ q, q = (upd (z_2.1 0) 3 ((((421 : Int32) * ((z_2.1 0) 3)) + (1663 : Int32)) - (((421 : Int32) * ((z_2.1 0) 3)) + (1663 : Int32)) / (10000 : Int32) * (10000 : Int32))) := ⟨_, rfl⟩
      refine va_iast (D := D) (f := (z_2.1 0)) hx hb hK.1 hP hD hS 1 1 rfl rfl (vp_lit (by decide)) dX7_goDay_142 (fun H locs hP hD hS => ?_)
      have hP : va_P D vwCl (wM cyI A (va_up z_2.1 0 (upd (z_2.1 0) 3 ((((421 : Int32) * ((z_2.1 0) 3)) + (1663 : Int32)) - (((421 : Int32) * ((z_2.1 0) 3)) + (1663 : Int32)) / (10000 : Int32) * (10000 : Int32)))) z_2.2) H := hP
      have hD : va_D A0 (wM cyI A (va_up z_2.1 0 (upd (z_2.1 0) 3 ((((421 : Int32) * ((z_2.1 0) 3)) + (1663 : Int32)) - (((421 : Int32) * ((z_2.1 0) 3)) + (1663 : Int32)) / (10000 : Int32) * (10000 : Int32)))) z_2.2) := hD
      rw [← hz_4] at hP hD
      refine lv_aload_n hx hb dX7_goDay_143 rfl (lv_at hl 0 rfl) ?_
      refine va_get (D := D) (ci := 6) (v := .ref (A 1)) (C := RX7) (T := TX7) (N := 15) hx hb hts inT_X7 hown hK.1 hP 0 rfl rfl 0 (by decide) (hts _ wfl_RX7_7) (fun _ h9 => h9) rfl dX7_goDay_144 ?_
      refine lv_iconst (v := 1) hx hb dX7_goDay_147 (by decide) ?_
      refine lv_aload_n hx hb dX7_goDay_148 rfl (lv_at hl 0 rfl) ?_
      refine va_get (D := D) (ci := 6) (v := .ref (A 1)) (C := RX7) (T := TX7) (N := 15) hx hb hts inT_X7 hown hK.1 hP 0 rfl rfl 0 (by decide) (hts _ wfl_RX7_7) (fun _ h9 => h9) rfl dX7_goDay_149 ?_
      refine lv_iconst (v := 3) hx hb dX7_goDay_152 (by decide) ?_
      refine va_iald (D := D) (f := z_4) hx hb hK.1 hP 1 1 rfl rfl (vp_lit (by decide)) dX7_goDay_153 ?_
      refine W.eq (g2 := F0 m _ ls [.int (z_4 3), .int 1, .ref (A 1)]) rfl ?_
      refine lv_iconst (v := 4) hx hb dX7_goDay_154 (by decide) ?_
      refine lv_irem hx hb dX7_goDay_155 (by decide) ?_
      refine lv_if_ne (tgt := 172) hx hb dX7_goDay_156 (by decide) (fun c_5 => ?_) (fun c_5 => ?_)
      · refine lv_aload_n hx hb dX7_goDay_172 rfl (lv_at hl 0 rfl) ?_
        refine va_get (D := D) (ci := 6) (v := .ref (A 1)) (C := RX7) (T := TX7) (N := 15) hx hb hts inT_X7 hown hK.1 hP 0 rfl rfl 0 (by decide) (hts _ wfl_RX7_7) (fun _ h9 => h9) rfl dX7_goDay_173 ?_
        refine lv_iconst (v := 1) hx hb dX7_goDay_176 (by decide) ?_
        refine va_iald (D := D) (f := z_4) hx hb hK.1 hP 1 1 rfl rfl (vp_lit (by decide)) dX7_goDay_177 ?_
        refine W.eq (g2 := F0 m _ ls [.int (z_4 1), .int 1, .ref (A 1)]) rfl ?_
        obtain ⟨z_6, hz_6⟩ : ∃ q, q = (upd z_4 1 (z_4 1)) := ⟨_, rfl⟩
        refine va_iast (D := D) (f := z_4) hx hb hK.1 hP hD hS 1 1 rfl rfl (vp_lit (by decide)) dX7_goDay_178 (fun H locs hP hD hS => ?_)
        have hP : va_P D vwCl (wM cyI A (va_up z_2.1 0 (upd z_4 1 (z_4 1))) z_2.2) H := hP
        have hD : va_D A0 (wM cyI A (va_up z_2.1 0 (upd z_4 1 (z_4 1))) z_2.2) := hD
        rw [← hz_6] at hP hD
        refine lv_aload_n hx hb dX7_goDay_179 rfl (lv_at hl 0 rfl) ?_
        refine rV (As := []) (rest := []) hx hb hml hown hts hl.1 (kX7_cleanNow l D cyC cyI cyO A (va_up z_2.1 0 z_6) z_2.2) bV_X7_cleanNow  wml_RX7_115 ⟨rfl, rfl⟩ ⟨Nat.le_of_ble_eq_true rfl, Nat.le_of_ble_eq_true rfl, Nat.zero_le _, Nat.zero_le _⟩ [0, 1, 2, 3, 4, 5, 6] rfl hP hK 0 rfl rfl rfl rfl rfl (Nat.le_of_ble_eq_true rfl) dX7_goDay_180 ?_
        have e9 : (pX7_goDay u w) = ((pX7_cleanNow (va_up z_2.1 0 z_6) z_2.2), (va_up z_2.1 0 z_6), z_2.2) := by simp only [pX7_goDay, ← hz_1, ← hz_2, ← hz_4, ← hz_6, if_neg c_5]
        have e9_0 : (pX7_goDay u w).1 = (pX7_cleanNow (va_up z_2.1 0 z_6) z_2.2) := by rw [e9]
        have e9_1 : (pX7_goDay u w).2.1 = (va_up z_2.1 0 z_6) := by rw [e9]
        have e9_2 : (pX7_goDay u w).2.2 = z_2.2 := by rw [e9]
        exact W.iret (v := (pX7_cleanNow (va_up z_2.1 0 z_6) z_2.2)) hx hb hr (fun t ht hW => ⟨⟨by rw [e9_0], by rw [e9_1, e9_2, ht]; exact hP⟩, hS.F ht⟩) hS.2.2 dX7_goDay_183
      · refine lv_aload_n hx hb dX7_goDay_159 rfl (lv_at hl 0 rfl) ?_
        refine va_get (D := D) (ci := 6) (v := .ref (A 1)) (C := RX7) (T := TX7) (N := 15) hx hb hts inT_X7 hown hK.1 hP 0 rfl rfl 0 (by decide) (hts _ wfl_RX7_7) (fun _ h9 => h9) rfl dX7_goDay_160 ?_
        refine lv_iconst (v := 1) hx hb dX7_goDay_163 (by decide) ?_
        refine va_iald (D := D) (f := z_4) hx hb hK.1 hP 1 1 rfl rfl (vp_lit (by decide)) dX7_goDay_164 ?_
        refine W.eq (g2 := F0 m _ ls [.int (z_4 1), .int 1, .ref (A 1)]) rfl ?_
        refine lv_iconst (v := 1) hx hb dX7_goDay_165 (by decide) ?_
        refine lv_iadd hx hb dX7_goDay_166 ?_
        refine lv_iconst (v := 4) hx hb dX7_goDay_167 (by decide) ?_
        refine lv_irem hx hb dX7_goDay_168 (by decide) ?_
        refine lv_goto (tgt := 178) hx hb dX7_goDay_169 (by decide) ?_
        obtain ⟨z_7, hz_7⟩ : ∃ q, q = (upd z_4 1 (((z_4 1) + (1 : Int32)) - ((z_4 1) + (1 : Int32)) / (4 : Int32) * (4 : Int32))) := ⟨_, rfl⟩
        refine va_iast (D := D) (f := z_4) hx hb hK.1 hP hD hS 1 1 rfl rfl (vp_lit (by decide)) dX7_goDay_178 (fun H locs hP hD hS => ?_)
        have hP : va_P D vwCl (wM cyI A (va_up z_2.1 0 (upd z_4 1 (((z_4 1) + (1 : Int32)) - ((z_4 1) + (1 : Int32)) / (4 : Int32) * (4 : Int32)))) z_2.2) H := hP
        have hD : va_D A0 (wM cyI A (va_up z_2.1 0 (upd z_4 1 (((z_4 1) + (1 : Int32)) - ((z_4 1) + (1 : Int32)) / (4 : Int32) * (4 : Int32)))) z_2.2) := hD
        rw [← hz_7] at hP hD
        refine lv_aload_n hx hb dX7_goDay_179 rfl (lv_at hl 0 rfl) ?_
        refine rV (As := []) (rest := []) hx hb hml hown hts hl.1 (kX7_cleanNow l D cyC cyI cyO A (va_up z_2.1 0 z_7) z_2.2) bV_X7_cleanNow  wml_RX7_115 ⟨rfl, rfl⟩ ⟨Nat.le_of_ble_eq_true rfl, Nat.le_of_ble_eq_true rfl, Nat.zero_le _, Nat.zero_le _⟩ [0, 1, 2, 3, 4, 5, 6] rfl hP hK 0 rfl rfl rfl rfl rfl (Nat.le_of_ble_eq_true rfl) dX7_goDay_180 ?_
        have e9 : (pX7_goDay u w) = ((pX7_cleanNow (va_up z_2.1 0 z_7) z_2.2), (va_up z_2.1 0 z_7), z_2.2) := by simp only [pX7_goDay, ← hz_1, ← hz_2, ← hz_4, ← hz_7, if_pos c_5]
        have e9_0 : (pX7_goDay u w).1 = (pX7_cleanNow (va_up z_2.1 0 z_7) z_2.2) := by rw [e9]
        have e9_1 : (pX7_goDay u w).2.1 = (va_up z_2.1 0 z_7) := by rw [e9]
        have e9_2 : (pX7_goDay u w).2.2 = z_2.2 := by rw [e9]
        exact W.iret (v := (pX7_cleanNow (va_up z_2.1 0 z_7) z_2.2)) hx hb hr (fun t ht hW => ⟨⟨by rw [e9_0], by rw [e9_1, e9_2, ht]; exact hP⟩, hS.F ht⟩) hS.2.2 dX7_goDay_183
    | succ k ih_17 =>
      intro i hi hln H locs hP hD hS ls hl
      have hlt : i < 28 := by omega
      refine lv_iload_n hx hb dX7_goDay_17 rfl (lv_at hl 2 rfl) ?_
      refine lv_bipush (v := 28) hx hb dX7_goDay_18 (by decide) ?_
      refine lv_icmp_ge (tgt := 119) hx hb dX7_goDay_20 (by decide) (fun c_8 => absurd c_8 (nle_of (C := 28) (N := 28) (by decide) hlt (by decide))) (fun c_8 => ?_)
      refine lv_aload_n hx hb dX7_goDay_23 rfl (lv_at hl 0 rfl) ?_
      refine lv_iload_n hx hb dX7_goDay_24 rfl (lv_at hl 2 rfl) ?_
      refine rV (As := [.int (nI i)]) (rest := []) hx hb hml hown hts hl.1 (kX7_hasLine l D cyC cyI cyO A (pX7_goDay_L17 u w i).1 (pX7_goDay_L17 u w i).2 (nI i) (vp_in_nI (Nat.lt_of_lt_of_le hlt (by decide)) (by decide))) bV_X7_hasLine  wml_RX7_56 ⟨rfl, rfl⟩ ⟨Nat.le_of_ble_eq_true rfl, Nat.le_of_ble_eq_true rfl, Nat.zero_le _, Nat.zero_le _⟩ [0, 1, 2, 3, 4, 5, 6] rfl hP hK 0 rfl rfl rfl rfl rfl (Nat.le_of_ble_eq_true rfl) dX7_goDay_25 ?_
      refine lv_if_eq (tgt := 113) hx hb dX7_goDay_28 (by decide) (fun c_9 => ?_) (fun c_9 => ?_)
      · refine lv_iinc (v := (nI (i + 1))) (lv' := [(2, .int (nI (i + 1))), (0, .ref (A 0)), (1, .int (pX7_smoke (va_up u 0 z_1) w))]) hx hb dX7_goDay_113 hl (k := 2) rfl (nI_succ i).symm (by decide) rfl (fun ls hl => ?_)
        refine lv_goto (tgt := 17) hx hb dX7_goDay_116 (by decide) ?_
        have e8 : pX7_goDay_L17 u w (i + 1) = ((pX7_goDay_L17 u w i).1, (pX7_goDay_L17 u w i).2) := by rw [pX7_goDay_L17_s] <;> simp only [← hz_1, if_pos c_9]
        exact ih_17 (i + 1) (by omega) (by rw [e8]; exact hln) _ _ (by rw [e8]; exact hP) (by rw [e8]; exact hD) hS ls (lv_sub hl [1, 2, 0] rfl)
      · refine lv_aload_n hx hb dX7_goDay_31 rfl (lv_at hl 0 rfl) ?_
        refine lv_aload_n hx hb dX7_goDay_32 rfl (lv_at hl 0 rfl) ?_
        refine lv_iload_n hx hb dX7_goDay_33 rfl (lv_at hl 2 rfl) ?_
        refine lv_iconst (v := 1) hx hb dX7_goDay_34 (by decide) ?_
        refine rV (As := [.int (nI i), .int 1]) (rest := [.ref (A 0)]) hx hb hml hown hts hl.1 (kX7_of l D cyC cyI cyO A (pX7_goDay_L17 u w i).1 (pX7_goDay_L17 u w i).2 (nI i) 1 (vp_in_nI (Nat.lt_of_lt_of_le hlt (by decide)) (by decide)) (vp_lit (by decide))) bV_X7_of  wml_RX7_52 ⟨rfl, rfl⟩ ⟨Nat.le_of_ble_eq_true rfl, Nat.le_of_ble_eq_true rfl, Nat.zero_le _, Nat.zero_le _⟩ [0, 1, 2, 3, 4, 5, 6] rfl hP hK 0 rfl rfl rfl rfl rfl (Nat.le_of_ble_eq_true rfl) dX7_goDay_35 ?_
        refine lv_iconst (v := 1) hx hb dX7_goDay_38 (by decide) ?_
        refine lv_isub hx hb dX7_goDay_39 ?_
        refine lv_iconst (v := 2) hx hb dX7_goDay_40 (by decide) ?_
        refine rV (As := [.int ((pX7_of (pX7_goDay_L17 u w i).1 (pX7_goDay_L17 u w i).2 (nI i) 1) - (1 : Int32)), .int 2]) (rest := []) hx hb hml hown hts hl.1 (kX7_ofOwner l D cyC cyI cyO A (pX7_goDay_L17 u w i).1 (pX7_goDay_L17 u w i).2 ((pX7_of (pX7_goDay_L17 u w i).1 (pX7_goDay_L17 u w i).2 (nI i) 1) - (1 : Int32)) 2 (ln_in hlt hln c_9) (vp_lit (by decide))) bV_X7_ofOwner  wml_RX7_72 ⟨rfl, rfl⟩ ⟨Nat.le_of_ble_eq_true rfl, Nat.le_of_ble_eq_true rfl, Nat.zero_le _, Nat.zero_le _⟩ [0, 1, 2, 3, 4, 5, 6] rfl hP hK 0 rfl rfl rfl rfl rfl (Nat.le_of_ble_eq_true rfl) dX7_goDay_41 ?_
        refine lv_if_ne (tgt := 51) hx hb dX7_goDay_44 (by decide) (fun c_10 => ?_) (fun c_10 => ?_)
        · refine lv_iconst (v := 0) hx hb dX7_goDay_51 (by decide) ?_
          refine lv_istore_n (lv' := [(3, .int 0), (0, .ref (A 0)), (1, .int (pX7_smoke (va_up u 0 z_1) w)), (2, .int (nI i))]) hx hb dX7_goDay_52 rfl hl (by decide) rfl (fun ls hl => ?_)
          refine lv_aload_n hx hb dX7_goDay_53 rfl (lv_at hl 1 rfl) ?_
          refine lv_iload_n hx hb dX7_goDay_54 rfl (lv_at hl 3 rfl) ?_
          refine lv_iconst (v := 2) hx hb dX7_goDay_55 (by decide) ?_
          refine lv_aload_n hx hb dX7_goDay_56 rfl (lv_at hl 1 rfl) ?_
          refine lv_iload_n hx hb dX7_goDay_57 rfl (lv_at hl 3 rfl) ?_
          refine lv_iconst (v := 2) hx hb dX7_goDay_58 (by decide) ?_
          refine rV (As := [.int (nI i), .int 2]) (rest := [.int 2, .int (nI i), .ref (A 0)]) hx hb hml hown hts hl.1 (kX7_of l D cyC cyI cyO A (pX7_goDay_L17 u w i).1 (pX7_goDay_L17 u w i).2 (nI i) 2 (vp_in_nI (Nat.lt_of_lt_of_le hlt (by decide)) (by decide)) (vp_lit (by decide))) bV_X7_of  wml_RX7_52 ⟨rfl, rfl⟩ ⟨Nat.le_of_ble_eq_true rfl, Nat.le_of_ble_eq_true rfl, Nat.zero_le _, Nat.zero_le _⟩ [0, 1, 2, 3, 4, 5, 6] rfl hP hK 0 rfl rfl rfl rfl rfl (Nat.le_of_ble_eq_true rfl) dX7_goDay_59 ?_
          refine lv_iload_n hx hb dX7_goDay_62 rfl (lv_at hl 2 rfl) ?_
          refine lv_aload_n hx hb dX7_goDay_63 rfl (lv_at hl 1 rfl) ?_
          refine lv_iload_n hx hb dX7_goDay_64 rfl (lv_at hl 3 rfl) ?_
          refine rV (As := [.int (nI i)]) (rest := [.int (pX7_smoke (va_up u 0 z_1) w), .int (pX7_of (pX7_goDay_L17 u w i).1 (pX7_goDay_L17 u w i).2 (nI i) 2), .int 2, .int (nI i), .ref (A 0)]) hx hb hml hown hts hl.1 (kX7_bothOf l D cyC cyI cyO A (pX7_goDay_L17 u w i).1 (pX7_goDay_L17 u w i).2 (nI i)) bV_X7_bothOf  wml_RX7_75 ⟨rfl, rfl⟩ ⟨Nat.le_of_ble_eq_true rfl, Nat.le_of_ble_eq_true rfl, Nat.zero_le _, Nat.zero_le _⟩ [0, 1, 2, 3, 4, 5, 6] rfl hP hK 0 rfl rfl rfl rfl rfl (Nat.le_of_ble_eq_true rfl) dX7_goDay_65 ?_
          refine lv_iand hx hb dX7_goDay_68 ?_
          refine rS (As := [.int ((pX7_smoke (va_up u 0 z_1) w) &&& (pX7_bothOf (pX7_goDay_L17 u w i).1 (pX7_goDay_L17 u w i).2 (nI i)))]) (rest := [.int (pX7_of (pX7_goDay_L17 u w i).1 (pX7_goDay_L17 u w i).2 (nI i) 2), .int 2, .int (nI i), .ref (A 0)]) hx hb hml hown hts hl.1 (kX7_ones l D cyC cyI cyO ((pX7_smoke (va_up u 0 z_1) w) &&& (pX7_bothOf (pX7_goDay_L17 u w i).1 (pX7_goDay_L17 u w i).2 (nI i)))) bS_X7_ones  wml_RX7_112 ⟨rfl, rfl⟩ ⟨Nat.le_of_ble_eq_true rfl, Nat.le_of_ble_eq_true rfl, Nat.zero_le _, Nat.zero_le _⟩ [] rfl hP hK rfl rfl (Nat.le_of_ble_eq_true rfl) dX7_goDay_69 ?_
          refine lv_iadd hx hb dX7_goDay_72 ?_
          obtain ⟨z_11, hz_11⟩ : ∃ q, q = (pX7_lays (pX7_goDay_L17 u w i).1 (pX7_goDay_L17 u w i).2 (nI i) 2 ((pX7_of (pX7_goDay_L17 u w i).1 (pX7_goDay_L17 u w i).2 (nI i) 2) + (pX7_ones ((pX7_smoke (va_up u 0 z_1) w) &&& (pX7_bothOf (pX7_goDay_L17 u w i).1 (pX7_goDay_L17 u w i).2 (nI i)))))) := ⟨_, rfl⟩
          refine mV (ws := (wM cyI A (pX7_goDay_L17 u w i).1 (pX7_goDay_L17 u w i).2)) (ws' := (wM cyI A z_11.1 z_11.2)) (As := [.int (nI i), .int 2, .int ((pX7_of (pX7_goDay_L17 u w i).1 (pX7_goDay_L17 u w i).2 (nI i) 2) + (pX7_ones ((pX7_smoke (va_up u 0 z_1) w) &&& (pX7_bothOf (pX7_goDay_L17 u w i).1 (pX7_goDay_L17 u w i).2 (nI i)))))]) (rest := []) hx hb hml hown hts hl.1 (WS := (wM cyI A (pX7_goDay_L17 u w i).1 (pX7_goDay_L17 u w i).2)) (WS' := (wM cyI A z_11.1 z_11.2)) (ro := none) (by rw [hz_11]; exact kX7_lays l D cyC cyI cyO A (pX7_goDay_L17 u w i).1 (pX7_goDay_L17 u w i).2 (nI i) 2 ((pX7_of (pX7_goDay_L17 u w i).1 (pX7_goDay_L17 u w i).2 (nI i) 2) + (pX7_ones ((pX7_smoke (va_up u 0 z_1) w) &&& (pX7_bothOf (pX7_goDay_L17 u w i).1 (pX7_goDay_L17 u w i).2 (nI i))))) (vp_in_nI (Nat.lt_of_lt_of_le hlt (by decide)) (by decide)) (vp_lit (by decide))) bV_X7_lays  wml_RX7_91 ⟨rfl, rfl⟩ ⟨Nat.le_of_ble_eq_true rfl, Nat.le_of_ble_eq_true rfl, Nat.zero_le _, Nat.zero_le _⟩ [0, 1, 2, 3, 4, 5, 6] rfl rfl rfl rfl rfl hP hD hS hA hK 0 rfl rfl rfl rfl rfl (Nat.le_of_ble_eq_true rfl) dX7_goDay_73 (fun H locs hP hD hS => ?_)
          refine lv_aload_n hx hb dX7_goDay_76 rfl (lv_at hl 1 rfl) ?_
          refine lv_iload_n hx hb dX7_goDay_77 rfl (lv_at hl 3 rfl) ?_
          refine lv_iconst (v := 3) hx hb dX7_goDay_78 (by decide) ?_
          refine lv_aload_n hx hb dX7_goDay_79 rfl (lv_at hl 1 rfl) ?_
          refine lv_iload_n hx hb dX7_goDay_80 rfl (lv_at hl 3 rfl) ?_
          refine lv_iconst (v := 3) hx hb dX7_goDay_81 (by decide) ?_
          refine rV (As := [.int (nI i), .int 3]) (rest := [.int 3, .int (nI i), .ref (A 0)]) hx hb hml hown hts hl.1 (kX7_of l D cyC cyI cyO A z_11.1 z_11.2 (nI i) 3 (vp_in_nI (Nat.lt_of_lt_of_le hlt (by decide)) (by decide)) (vp_lit (by decide))) bV_X7_of  wml_RX7_52 ⟨rfl, rfl⟩ ⟨Nat.le_of_ble_eq_true rfl, Nat.le_of_ble_eq_true rfl, Nat.zero_le _, Nat.zero_le _⟩ [0, 1, 2, 3, 4, 5, 6] rfl hP hK 0 rfl rfl rfl rfl rfl (Nat.le_of_ble_eq_true rfl) dX7_goDay_82 ?_
          refine lv_iload_n hx hb dX7_goDay_85 rfl (lv_at hl 0 rfl) ?_
          refine lv_if_eq (tgt := 108) hx hb dX7_goDay_86 (by decide) (fun c_12 => ?_) (fun c_12 => absurd (by decide) c_12)
          refine lv_iconst (v := 0) hx hb dX7_goDay_108 (by decide) ?_
          refine lv_iadd hx hb dX7_goDay_109 ?_
          obtain ⟨z_13, hz_13⟩ : ∃ q, q = (pX7_lays z_11.1 z_11.2 (nI i) 3 ((pX7_of z_11.1 z_11.2 (nI i) 3) + (0 : Int32))) := ⟨_, rfl⟩
          refine mV (ws := (wM cyI A z_11.1 z_11.2)) (ws' := (wM cyI A z_13.1 z_13.2)) (As := [.int (nI i), .int 3, .int ((pX7_of z_11.1 z_11.2 (nI i) 3) + (0 : Int32))]) (rest := []) hx hb hml hown hts hl.1 (WS := (wM cyI A z_11.1 z_11.2)) (WS' := (wM cyI A z_13.1 z_13.2)) (ro := none) (by rw [hz_13]; exact kX7_lays l D cyC cyI cyO A z_11.1 z_11.2 (nI i) 3 ((pX7_of z_11.1 z_11.2 (nI i) 3) + (0 : Int32)) (vp_in_nI (Nat.lt_of_lt_of_le hlt (by decide)) (by decide)) (vp_lit (by decide))) bV_X7_lays  wml_RX7_91 ⟨rfl, rfl⟩ ⟨Nat.le_of_ble_eq_true rfl, Nat.le_of_ble_eq_true rfl, Nat.zero_le _, Nat.zero_le _⟩ [0, 1, 2, 3, 4, 5, 6] rfl rfl rfl rfl rfl hP hD hS hA hK 0 rfl rfl rfl rfl rfl (Nat.le_of_ble_eq_true rfl) dX7_goDay_110 (fun H locs hP hD hS => ?_)
          refine lv_iinc (v := (nI (i + 1))) (lv' := [(2, .int (nI (i + 1))), (3, .int 0), (0, .ref (A 0)), (1, .int (pX7_smoke (va_up u 0 z_1) w))]) hx hb dX7_goDay_113 hl (k := 3) rfl (nI_succ i).symm (by decide) rfl (fun ls hl => ?_)
          refine lv_goto (tgt := 17) hx hb dX7_goDay_116 (by decide) ?_
          have e8 : pX7_goDay_L17 u w (i + 1) = (z_13.1, z_13.2) := by rw [pX7_goDay_L17_s] <;> simp only [← hz_1, ← hz_11, ← hz_13, if_neg c_9, if_neg c_10]
          exact ih_17 (i + 1) (by omega) (by rw [e8]; show LN z_13.1; rw [hz_13, hz_11]; exact LN_l3 hlt (LN_l2 hlt hln)) _ _ (by rw [e8]; exact hP) (by rw [e8]; exact hD) hS ls (lv_sub hl [2, 3, 0] rfl)
        · refine lv_iconst (v := 1) hx hb dX7_goDay_47 (by decide) ?_
          refine lv_goto (tgt := 52) hx hb dX7_goDay_48 (by decide) ?_
          refine lv_istore_n (lv' := [(3, .int 1), (0, .ref (A 0)), (1, .int (pX7_smoke (va_up u 0 z_1) w)), (2, .int (nI i))]) hx hb dX7_goDay_52 rfl hl (by decide) rfl (fun ls hl => ?_)
          refine lv_aload_n hx hb dX7_goDay_53 rfl (lv_at hl 1 rfl) ?_
          refine lv_iload_n hx hb dX7_goDay_54 rfl (lv_at hl 3 rfl) ?_
          refine lv_iconst (v := 2) hx hb dX7_goDay_55 (by decide) ?_
          refine lv_aload_n hx hb dX7_goDay_56 rfl (lv_at hl 1 rfl) ?_
          refine lv_iload_n hx hb dX7_goDay_57 rfl (lv_at hl 3 rfl) ?_
          refine lv_iconst (v := 2) hx hb dX7_goDay_58 (by decide) ?_
          refine rV (As := [.int (nI i), .int 2]) (rest := [.int 2, .int (nI i), .ref (A 0)]) hx hb hml hown hts hl.1 (kX7_of l D cyC cyI cyO A (pX7_goDay_L17 u w i).1 (pX7_goDay_L17 u w i).2 (nI i) 2 (vp_in_nI (Nat.lt_of_lt_of_le hlt (by decide)) (by decide)) (vp_lit (by decide))) bV_X7_of  wml_RX7_52 ⟨rfl, rfl⟩ ⟨Nat.le_of_ble_eq_true rfl, Nat.le_of_ble_eq_true rfl, Nat.zero_le _, Nat.zero_le _⟩ [0, 1, 2, 3, 4, 5, 6] rfl hP hK 0 rfl rfl rfl rfl rfl (Nat.le_of_ble_eq_true rfl) dX7_goDay_59 ?_
          refine lv_iload_n hx hb dX7_goDay_62 rfl (lv_at hl 2 rfl) ?_
          refine lv_aload_n hx hb dX7_goDay_63 rfl (lv_at hl 1 rfl) ?_
          refine lv_iload_n hx hb dX7_goDay_64 rfl (lv_at hl 3 rfl) ?_
          refine rV (As := [.int (nI i)]) (rest := [.int (pX7_smoke (va_up u 0 z_1) w), .int (pX7_of (pX7_goDay_L17 u w i).1 (pX7_goDay_L17 u w i).2 (nI i) 2), .int 2, .int (nI i), .ref (A 0)]) hx hb hml hown hts hl.1 (kX7_bothOf l D cyC cyI cyO A (pX7_goDay_L17 u w i).1 (pX7_goDay_L17 u w i).2 (nI i)) bV_X7_bothOf  wml_RX7_75 ⟨rfl, rfl⟩ ⟨Nat.le_of_ble_eq_true rfl, Nat.le_of_ble_eq_true rfl, Nat.zero_le _, Nat.zero_le _⟩ [0, 1, 2, 3, 4, 5, 6] rfl hP hK 0 rfl rfl rfl rfl rfl (Nat.le_of_ble_eq_true rfl) dX7_goDay_65 ?_
          refine lv_iand hx hb dX7_goDay_68 ?_
          refine rS (As := [.int ((pX7_smoke (va_up u 0 z_1) w) &&& (pX7_bothOf (pX7_goDay_L17 u w i).1 (pX7_goDay_L17 u w i).2 (nI i)))]) (rest := [.int (pX7_of (pX7_goDay_L17 u w i).1 (pX7_goDay_L17 u w i).2 (nI i) 2), .int 2, .int (nI i), .ref (A 0)]) hx hb hml hown hts hl.1 (kX7_ones l D cyC cyI cyO ((pX7_smoke (va_up u 0 z_1) w) &&& (pX7_bothOf (pX7_goDay_L17 u w i).1 (pX7_goDay_L17 u w i).2 (nI i)))) bS_X7_ones  wml_RX7_112 ⟨rfl, rfl⟩ ⟨Nat.le_of_ble_eq_true rfl, Nat.le_of_ble_eq_true rfl, Nat.zero_le _, Nat.zero_le _⟩ [] rfl hP hK rfl rfl (Nat.le_of_ble_eq_true rfl) dX7_goDay_69 ?_
          refine lv_iadd hx hb dX7_goDay_72 ?_
          obtain ⟨z_14, hz_14⟩ : ∃ q, q = (pX7_lays (pX7_goDay_L17 u w i).1 (pX7_goDay_L17 u w i).2 (nI i) 2 ((pX7_of (pX7_goDay_L17 u w i).1 (pX7_goDay_L17 u w i).2 (nI i) 2) + (pX7_ones ((pX7_smoke (va_up u 0 z_1) w) &&& (pX7_bothOf (pX7_goDay_L17 u w i).1 (pX7_goDay_L17 u w i).2 (nI i)))))) := ⟨_, rfl⟩
          refine mV (ws := (wM cyI A (pX7_goDay_L17 u w i).1 (pX7_goDay_L17 u w i).2)) (ws' := (wM cyI A z_14.1 z_14.2)) (As := [.int (nI i), .int 2, .int ((pX7_of (pX7_goDay_L17 u w i).1 (pX7_goDay_L17 u w i).2 (nI i) 2) + (pX7_ones ((pX7_smoke (va_up u 0 z_1) w) &&& (pX7_bothOf (pX7_goDay_L17 u w i).1 (pX7_goDay_L17 u w i).2 (nI i)))))]) (rest := []) hx hb hml hown hts hl.1 (WS := (wM cyI A (pX7_goDay_L17 u w i).1 (pX7_goDay_L17 u w i).2)) (WS' := (wM cyI A z_14.1 z_14.2)) (ro := none) (by rw [hz_14]; exact kX7_lays l D cyC cyI cyO A (pX7_goDay_L17 u w i).1 (pX7_goDay_L17 u w i).2 (nI i) 2 ((pX7_of (pX7_goDay_L17 u w i).1 (pX7_goDay_L17 u w i).2 (nI i) 2) + (pX7_ones ((pX7_smoke (va_up u 0 z_1) w) &&& (pX7_bothOf (pX7_goDay_L17 u w i).1 (pX7_goDay_L17 u w i).2 (nI i))))) (vp_in_nI (Nat.lt_of_lt_of_le hlt (by decide)) (by decide)) (vp_lit (by decide))) bV_X7_lays  wml_RX7_91 ⟨rfl, rfl⟩ ⟨Nat.le_of_ble_eq_true rfl, Nat.le_of_ble_eq_true rfl, Nat.zero_le _, Nat.zero_le _⟩ [0, 1, 2, 3, 4, 5, 6] rfl rfl rfl rfl rfl hP hD hS hA hK 0 rfl rfl rfl rfl rfl (Nat.le_of_ble_eq_true rfl) dX7_goDay_73 (fun H locs hP hD hS => ?_)
          refine lv_aload_n hx hb dX7_goDay_76 rfl (lv_at hl 1 rfl) ?_
          refine lv_iload_n hx hb dX7_goDay_77 rfl (lv_at hl 3 rfl) ?_
          refine lv_iconst (v := 3) hx hb dX7_goDay_78 (by decide) ?_
          refine lv_aload_n hx hb dX7_goDay_79 rfl (lv_at hl 1 rfl) ?_
          refine lv_iload_n hx hb dX7_goDay_80 rfl (lv_at hl 3 rfl) ?_
          refine lv_iconst (v := 3) hx hb dX7_goDay_81 (by decide) ?_
          refine rV (As := [.int (nI i), .int 3]) (rest := [.int 3, .int (nI i), .ref (A 0)]) hx hb hml hown hts hl.1 (kX7_of l D cyC cyI cyO A z_14.1 z_14.2 (nI i) 3 (vp_in_nI (Nat.lt_of_lt_of_le hlt (by decide)) (by decide)) (vp_lit (by decide))) bV_X7_of  wml_RX7_52 ⟨rfl, rfl⟩ ⟨Nat.le_of_ble_eq_true rfl, Nat.le_of_ble_eq_true rfl, Nat.zero_le _, Nat.zero_le _⟩ [0, 1, 2, 3, 4, 5, 6] rfl hP hK 0 rfl rfl rfl rfl rfl (Nat.le_of_ble_eq_true rfl) dX7_goDay_82 ?_
          refine lv_iload_n hx hb dX7_goDay_85 rfl (lv_at hl 0 rfl) ?_
          refine lv_if_eq (tgt := 108) hx hb dX7_goDay_86 (by decide) (fun c_15 => absurd c_15 (by decide)) (fun c_15 => ?_)
          refine lv_aload_n hx hb dX7_goDay_89 rfl (lv_at hl 1 rfl) ?_
          refine va_get (D := D) (ci := 6) (v := .ref (A 1)) (C := RX7) (T := TX7) (N := 15) hx hb hts inT_X7 hown hK.1 hP 0 rfl rfl 0 (by decide) (hts _ wfl_RX7_7) (fun _ h9 => h9) rfl dX7_goDay_90 ?_
          refine lv_bipush (v := 9) hx hb dX7_goDay_93 (by decide) ?_
          refine va_iald (D := D) (f := (z_14.1 0)) hx hb hK.1 hP 1 1 rfl rfl (vp_lit (by decide)) dX7_goDay_95 ?_
          refine W.eq (g2 := F0 m _ ls [.int ((z_14.1 0) 9), .int (pX7_of z_14.1 z_14.2 (nI i) 3), .int 3, .int (nI i), .ref (A 0)]) rfl ?_
          refine lv_aload_n hx hb dX7_goDay_96 rfl (lv_at hl 1 rfl) ?_
          refine lv_iload_n hx hb dX7_goDay_97 rfl (lv_at hl 3 rfl) ?_
          refine rV (As := [.int (nI i)]) (rest := [.int ((z_14.1 0) 9), .int (pX7_of z_14.1 z_14.2 (nI i) 3), .int 3, .int (nI i), .ref (A 0)]) hx hb hml hown hts hl.1 (kX7_bothOf l D cyC cyI cyO A z_14.1 z_14.2 (nI i)) bV_X7_bothOf  wml_RX7_75 ⟨rfl, rfl⟩ ⟨Nat.le_of_ble_eq_true rfl, Nat.le_of_ble_eq_true rfl, Nat.zero_le _, Nat.zero_le _⟩ [0, 1, 2, 3, 4, 5, 6] rfl hP hK 0 rfl rfl rfl rfl rfl (Nat.le_of_ble_eq_true rfl) dX7_goDay_98 ?_
          refine lv_iand hx hb dX7_goDay_101 ?_
          refine rS (As := [.int (((z_14.1 0) 9) &&& (pX7_bothOf z_14.1 z_14.2 (nI i)))]) (rest := [.int (pX7_of z_14.1 z_14.2 (nI i) 3), .int 3, .int (nI i), .ref (A 0)]) hx hb hml hown hts hl.1 (kX7_ones l D cyC cyI cyO (((z_14.1 0) 9) &&& (pX7_bothOf z_14.1 z_14.2 (nI i)))) bS_X7_ones  wml_RX7_112 ⟨rfl, rfl⟩ ⟨Nat.le_of_ble_eq_true rfl, Nat.le_of_ble_eq_true rfl, Nat.zero_le _, Nat.zero_le _⟩ [] rfl hP hK rfl rfl (Nat.le_of_ble_eq_true rfl) dX7_goDay_102 ?_
          refine lv_goto (tgt := 109) hx hb dX7_goDay_105 (by decide) ?_
          refine lv_iadd hx hb dX7_goDay_109 ?_
          obtain ⟨z_16, hz_16⟩ : ∃ q, q = (pX7_lays z_14.1 z_14.2 (nI i) 3 ((pX7_of z_14.1 z_14.2 (nI i) 3) + (pX7_ones (((z_14.1 0) 9) &&& (pX7_bothOf z_14.1 z_14.2 (nI i)))))) := ⟨_, rfl⟩
          refine mV (ws := (wM cyI A z_14.1 z_14.2)) (ws' := (wM cyI A z_16.1 z_16.2)) (As := [.int (nI i), .int 3, .int ((pX7_of z_14.1 z_14.2 (nI i) 3) + (pX7_ones (((z_14.1 0) 9) &&& (pX7_bothOf z_14.1 z_14.2 (nI i)))))]) (rest := []) hx hb hml hown hts hl.1 (WS := (wM cyI A z_14.1 z_14.2)) (WS' := (wM cyI A z_16.1 z_16.2)) (ro := none) (by rw [hz_16]; exact kX7_lays l D cyC cyI cyO A z_14.1 z_14.2 (nI i) 3 ((pX7_of z_14.1 z_14.2 (nI i) 3) + (pX7_ones (((z_14.1 0) 9) &&& (pX7_bothOf z_14.1 z_14.2 (nI i))))) (vp_in_nI (Nat.lt_of_lt_of_le hlt (by decide)) (by decide)) (vp_lit (by decide))) bV_X7_lays  wml_RX7_91 ⟨rfl, rfl⟩ ⟨Nat.le_of_ble_eq_true rfl, Nat.le_of_ble_eq_true rfl, Nat.zero_le _, Nat.zero_le _⟩ [0, 1, 2, 3, 4, 5, 6] rfl rfl rfl rfl rfl hP hD hS hA hK 0 rfl rfl rfl rfl rfl (Nat.le_of_ble_eq_true rfl) dX7_goDay_110 (fun H locs hP hD hS => ?_)
          refine lv_iinc (v := (nI (i + 1))) (lv' := [(2, .int (nI (i + 1))), (3, .int 1), (0, .ref (A 0)), (1, .int (pX7_smoke (va_up u 0 z_1) w))]) hx hb dX7_goDay_113 hl (k := 3) rfl (nI_succ i).symm (by decide) rfl (fun ls hl => ?_)
          refine lv_goto (tgt := 17) hx hb dX7_goDay_116 (by decide) ?_
          have e8 : pX7_goDay_L17 u w (i + 1) = (z_16.1, z_16.2) := by rw [pX7_goDay_L17_s] <;> simp only [← hz_1, ← hz_14, ← hz_16, if_neg c_9, if_pos c_10]
          exact ih_17 (i + 1) (by omega) (by rw [e8]; show LN z_16.1; rw [hz_16, hz_14]; exact LN_l3 hlt (LN_l2 hlt hln)) _ _ (by rw [e8]; exact hP) (by rw [e8]; exact hD) hS ls (lv_sub hl [2, 3, 0] rfl)
  have e7 : pX7_goDay_L17 u w 0 = ((va_up u 0 z_1), w) := by rw [pX7_goDay_L17_0]; simp only [← hz_1]
  exact key_17 28 0 (Nat.zero_add 28) (by rw [e7]; show LN (va_up u 0 z_1); rw [hz_1]; exact LN_up hln (fun _ _ => by omega)) _ _ (by rw [e7]; exact hP) (by rw [e7]; exact hD) hS ls (lv_sub hl [2, 1, 0] rfl)
theorem bV_X7_goDay : BV RX7 yX7_goDay cX7_goDay 4 (some .int) 0 := ⟨wcd_X7_goDay, wim_X7_goDay, wse_X7_goDay, win_RX7, by decide +kernel⟩
