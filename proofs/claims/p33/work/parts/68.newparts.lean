theorem arrV_c {cI : ClassId} {N : Nat} {f g : Nat → Value} (h : ∀ j, j < N → f j = g j) : arrV cI N f = arrV cI N g := by
  unfold arrV
  have e : (fun j : Fin N => f j.val) = fun j : Fin N => g j.val := funext fun j => h j.1 j.2
  rw [e]
theorem va_P_cell {D : va_G} {ws : va_W} {H : Heap} {k a n : Nat} {cA : ClassId} {f g : Nat → Option Nat} (hP : va_P D vwCl ws H) (hk : ws[k]? = some (a, .inl (cA, n, .inr (.inr (.inr (.inr f)))))) (h : ∀ j, j < n → f j = g j) : va_P D vwCl (ws.set k (a, .inl (cA, n, .inr (.inr (.inr (.inr g)))))) H := by
  intro i q hq
  rw [List.getElem?_set] at hq
  by_cases e : k = i
  · rw [if_pos e] at hq
    split at hq
    · cases hq
      have h1 : H[a]? = some (vp_cell cA (n, .inr (.inr (.inr (.inr f))))) := hP k _ hk
      show H[a]? = some (vp_cell cA (n, .inr (.inr (.inr (.inr g)))))
      rw [h1, vp_cell_q, vp_cell_q]
      exact congrArg some (arrV_c (fun j hj => by rw [h j hj]))
    · cases hq
  · rw [if_neg e] at hq
    exact hP i q hq
set_option maxHeartbeats 4000000 in
set_option maxRecDepth 100000 in
theorem kX3_init (l : Launch) (D : va_G) (cyC cyI cyO : ClassId) (a : Nat) : MKC l yX3_init (Ty yX3_init cX3_init 1 none) ({ frames := 1, cells := 1, slots := 60, locals := 32 } : Room) D cyC cyI cyO [(a, .inr (3, zX3))] [.ref a] (fun x : CiT => wPd cyC x.1 x.2.1 x.2.2) (fun x : CiT => x.1 0 = a ∧ (∀ k, x.2.1 0 k = 0) ∧ x.2.2 1 = 0) 1 60 := by
  intro sz
  refine Met.ofW (cc := cX3_init) (maxL := 1) (ret := none) (by decide) rfl ?_
  intro p e s m args below meth cd s₁ B hml hv
  obtain ⟨rfl, ⟨hsz, hP, hK, hD0⟩, hO⟩ := hv
  have hx := B.exec
  have hb := B.bytes
  have hr := B.returns
  have hts : ∀ w ∈ TB, w.before ([.ref a] : List Value).toArray s = true := fun w h => atoms_spec (ws := (Ty yX3_init cX3_init 1 none)) B.pre w (List.mem_cons_of_mem _ h)
  have hown : s.vm.findClass RX3 = some m.cls := findClass_of_methodNamed B.named
  have hlocks := B.notSynchronized
  have hin : meth.name = "<init>" := (name_of_methodNamed B.named B.method).1
  subst hsz
  have hD := hD0.self (sz := s.heap.size)
  have hA : ∀ q : Nat, s.heap.size ≤ q → (va_A [(a, .inr (3, zX3))] s.heap.size) q := fun q h => Or.inr h
  generalize hAe : va_A [(a, .inr (3, zX3))] s.heap.size = A0 at hD hA ⊢
  have hS : va_S A0 s.heap s.heap [] := va_S.rf
  have hl := lv_entry ([.ref a]) (n := 1) (Nat.le_of_ble_eq_true rfl)
  rw [lg_entry_eq]
  generalize (lg_sl ([.ref a]) ++ List.replicate (1 - (lg_sl ([.ref a])).length) Slot.unset).toArray = ls at hl ⊢
  have hl : lv_has ls 1 [(0, .ref a)] := hl
  refine lv_aload_n hx hb dX3_init_0 rfl (lv_at hl 0 rfl) ?_
  refine W.objInit hx hb hown (hts _ wml_RX3_3) (hts _ wim_obj) (hts _ wcd_obj) rfl (by rw [hml]; exact hl.1) rfl dX3_init_1 (Nat.le_of_ble_eq_true rfl) (Nat.le_of_ble_eq_true rfl) ?_
  refine W.eq (g2 := F0 m 4 ls []) rfl ?_
  refine lv_aload_n hx hb dX3_init_4 rfl (lv_at hl 0 rfl) ?_
  refine lv_bipush (v := 60) hx hb dX3_init_5 (by decide) ?_
  refine new_char hx hb hts hK hP hD hS hA (N' := 60) (by decide) (by decide) (Nat.le_of_ble_eq_true rfl) (Nat.le_of_ble_eq_true rfl) (Nat.le_of_ble_eq_true rfl) dX3_init_7 (fun q1 H hP hD hS => ?_)
  have hP : va_P D vwCl [(a, .inr (3, [.null, .int 0])), (q1, .inl (cyC, 60, .inl (fun _ => 0)))] H := hP
  have hD : va_D A0 [(a, .inr (3, [.null, .int 0])), (q1, .inl (cyC, 60, .inl (fun _ => 0)))] := hD
  refine va_putF (D := D) (ci := 3) (v := .ref q1) (ty := .array .char) (C := RX3) (T := TX3) (N := 2) hx hb hts inT_X3 tyX3 tyX3_ok nmX3 hown hK.1 hP hD hS 0 rfl rfl 0 (by decide) (hts _ wfl_RX3_9) (fun _ h9 => h9) rfl hin rfl (by decide +kernel) rfl rfl (Nat.le_of_ble_eq_true rfl) dX3_init_9 (fun H locs hP hD hS => ?_)
  have hP : va_P D vwCl [(a, .inr (3, [.ref q1, .int 0])), (q1, .inl (cyC, 60, .inl (fun _ => 0)))] H := hP
  have hD : va_D A0 [(a, .inr (3, [.ref q1, .int 0])), (q1, .inl (cyC, 60, .inl (fun _ => 0)))] := hD
  refine W.widen (k := 1) (n := 60) (by omega) (by omega) ?_
  exact W.vret hx hb hr (fun t ht hW => ⟨⟨((fun k => [a, q1].getD k 0), (fun _ _ => 0), fun _ => 0), ⟨rfl, fun _ => rfl, rfl⟩, rfl, by rw [ht]; exact hP, hD⟩, hS.F ht⟩) hS.2.2 dX3_init_12
set_option maxHeartbeats 4000000 in
set_option maxRecDepth 100000 in
theorem kX5_init (l : Launch) (D : va_G) (cyC cyI cyO : ClassId) (a : Nat) : MKC l yX5_init (Ty yX5_init cX5_init 1 none) ({ frames := 1, cells := 2, slots := 32, locals := 32 } : Room) D cyC cyI cyO [(a, .inr (4, zX5))] [.ref a] (fun x : (Nat → Nat) × (Nat → Nat → Int32) => wWy cyI x.1 x.2) (fun x : (Nat → Nat) × (Nat → Nat → Int32) => x.1 0 = a) 2 32 := by
  intro sz
  refine Met.ofW (cc := cX5_init) (maxL := 1) (ret := none) (by decide) rfl ?_
  intro p e s m args below meth cd s₁ B hml hv
  obtain ⟨rfl, ⟨hsz, hP, hK, hD0⟩, hO⟩ := hv
  have hx := B.exec
  have hb := B.bytes
  have hr := B.returns
  have hts : ∀ w ∈ TB, w.before ([.ref a] : List Value).toArray s = true := fun w h => atoms_spec (ws := (Ty yX5_init cX5_init 1 none)) B.pre w (List.mem_cons_of_mem _ h)
  have hown : s.vm.findClass RX5 = some m.cls := findClass_of_methodNamed B.named
  have hlocks := B.notSynchronized
  have hin : meth.name = "<init>" := (name_of_methodNamed B.named B.method).1
  subst hsz
  have hD := hD0.self (sz := s.heap.size)
  have hA : ∀ q : Nat, s.heap.size ≤ q → (va_A [(a, .inr (4, zX5))] s.heap.size) q := fun q h => Or.inr h
  generalize hAe : va_A [(a, .inr (4, zX5))] s.heap.size = A0 at hD hA ⊢
  have hS : va_S A0 s.heap s.heap [] := va_S.rf
  have hl := lv_entry ([.ref a]) (n := 1) (Nat.le_of_ble_eq_true rfl)
  rw [lg_entry_eq]
  generalize (lg_sl ([.ref a]) ++ List.replicate (1 - (lg_sl ([.ref a])).length) Slot.unset).toArray = ls at hl ⊢
  have hl : lv_has ls 1 [(0, .ref a)] := hl
  refine lv_aload_n hx hb dX5_init_0 rfl (lv_at hl 0 rfl) ?_
  refine W.objInit hx hb hown (hts _ wml_RX5_3) (hts _ wim_obj) (hts _ wcd_obj) rfl (by rw [hml]; exact hl.1) rfl dX5_init_1 (Nat.le_of_ble_eq_true rfl) (Nat.le_of_ble_eq_true rfl) ?_
  refine W.eq (g2 := F0 m 4 ls []) rfl ?_
  refine lv_aload_n hx hb dX5_init_4 rfl (lv_at hl 0 rfl) ?_
  refine lv_bipush (v := 16) hx hb dX5_init_5 (by decide) ?_
  refine new_int hx hb hts hK hP hD hS hA (N' := 16) (by decide) (by decide) (Nat.le_of_ble_eq_true rfl) (Nat.le_of_ble_eq_true rfl) (Nat.le_of_ble_eq_true rfl) dX5_init_7 (fun q1 H hP hD hS => ?_)
  have hP : va_P D vwCl [(a, .inr (4, [.null, .null])), (q1, .inl (cyI, 16, .inl (fun _ => 0)))] H := hP
  have hD : va_D A0 [(a, .inr (4, [.null, .null])), (q1, .inl (cyI, 16, .inl (fun _ => 0)))] := hD
  refine va_putF (D := D) (ci := 4) (v := .ref q1) (ty := .array .int) (C := RX5) (T := TX5) (N := 2) hx hb hts inT_X5 tyX5 tyX5_ok nmX5 hown hK.1 hP hD hS 0 rfl rfl 0 (by decide) (hts _ wfl_RX5_9) (fun _ h9 => h9) rfl hin rfl (by decide +kernel) rfl rfl (Nat.le_of_ble_eq_true rfl) dX5_init_9 (fun H locs hP hD hS => ?_)
  have hP : va_P D vwCl [(a, .inr (4, [.ref q1, .null])), (q1, .inl (cyI, 16, .inl (fun _ => 0)))] H := hP
  have hD : va_D A0 [(a, .inr (4, [.ref q1, .null])), (q1, .inl (cyI, 16, .inl (fun _ => 0)))] := hD
  refine lv_aload_n hx hb dX5_init_12 rfl (lv_at hl 0 rfl) ?_
  refine lv_bipush (v := 16) hx hb dX5_init_13 (by decide) ?_
  refine new_int hx hb hts hK hP hD hS hA (N' := 16) (by decide) (by decide) (Nat.le_of_ble_eq_true rfl) (Nat.le_of_ble_eq_true rfl) (Nat.le_of_ble_eq_true rfl) dX5_init_15 (fun q2 H hP hD hS => ?_)
  have hP : va_P D vwCl [(a, .inr (4, [.ref q1, .null])), (q1, .inl (cyI, 16, .inl (fun _ => 0))), (q2, .inl (cyI, 16, .inl (fun _ => 0)))] H := hP
  have hD : va_D A0 [(a, .inr (4, [.ref q1, .null])), (q1, .inl (cyI, 16, .inl (fun _ => 0))), (q2, .inl (cyI, 16, .inl (fun _ => 0)))] := hD
  refine va_putF (D := D) (ci := 4) (v := .ref q2) (ty := .array .int) (C := RX5) (T := TX5) (N := 2) hx hb hts inT_X5 tyX5 tyX5_ok nmX5 hown hK.1 hP hD hS 0 rfl rfl 1 (by decide) (hts _ wfl_RX5_15) (fun _ h9 => h9) rfl hin rfl (by decide +kernel) rfl rfl (Nat.le_of_ble_eq_true rfl) dX5_init_17 (fun H locs hP hD hS => ?_)
  have hP : va_P D vwCl [(a, .inr (4, [.ref q1, .ref q2])), (q1, .inl (cyI, 16, .inl (fun _ => 0))), (q2, .inl (cyI, 16, .inl (fun _ => 0)))] H := hP
  have hD : va_D A0 [(a, .inr (4, [.ref q1, .ref q2])), (q1, .inl (cyI, 16, .inl (fun _ => 0))), (q2, .inl (cyI, 16, .inl (fun _ => 0)))] := hD
  refine W.widen (k := 2) (n := 32) (by omega) (by omega) ?_
  exact W.vret hx hb hr (fun t ht hW => ⟨⟨((fun k => [a, q1, q2].getD k 0), fun _ _ => 0), rfl, rfl, by rw [ht]; exact hP, hD⟩, hS.F ht⟩) hS.2.2 dX5_init_20
set_option maxHeartbeats 4000000 in
set_option maxRecDepth 100000 in
theorem kX2_init (l : Launch) (D : va_G) (cyC cyI cyO : ClassId) (P : Nat → Nat) (a : Nat) : MKC l yX2_init (Ty yX2_init cX2_init 2 none) ({ frames := 1, cells := 0, slots := 0, locals := 32 } : Room) D cyC cyI cyO [(a, .inr (2, zX2))] [.ref a, .ref (P 0)] (fun x : (Nat → Nat) × (Nat → Int32) => wRd x.1 P x.2) (fun x : (Nat → Nat) × (Nat → Int32) => x.1 0 = a) 0 0 := by
  intro sz
  refine Met.ofW (cc := cX2_init) (maxL := 2) (ret := none) (by decide) rfl ?_
  intro p e s m args below meth cd s₁ B hml hv
  obtain ⟨rfl, ⟨hsz, hP, hK, hD0⟩, hO⟩ := hv
  have hx := B.exec
  have hb := B.bytes
  have hr := B.returns
  have hts : ∀ w ∈ TB, w.before ([.ref a, .ref (P 0)] : List Value).toArray s = true := fun w h => atoms_spec (ws := (Ty yX2_init cX2_init 2 none)) B.pre w (List.mem_cons_of_mem _ h)
  have hown : s.vm.findClass RX2 = some m.cls := findClass_of_methodNamed B.named
  have hlocks := B.notSynchronized
  have hin : meth.name = "<init>" := (name_of_methodNamed B.named B.method).1
  subst hsz
  have hD := hD0.self (sz := s.heap.size)
  have hA : ∀ q : Nat, s.heap.size ≤ q → (va_A [(a, .inr (2, zX2))] s.heap.size) q := fun q h => Or.inr h
  generalize hAe : va_A [(a, .inr (2, zX2))] s.heap.size = A0 at hD hA ⊢
  have hS : va_S A0 s.heap s.heap [] := va_S.rf
  have hl := lv_entry ([.ref a, .ref (P 0)]) (n := 2) (Nat.le_of_ble_eq_true rfl)
  rw [lg_entry_eq]
  generalize (lg_sl ([.ref a, .ref (P 0)]) ++ List.replicate (2 - (lg_sl ([.ref a, .ref (P 0)])).length) Slot.unset).toArray = ls at hl ⊢
  have hl : lv_has ls 2 [(0, .ref a), (1, .ref (P 0))] := hl
  refine lv_aload_n hx hb dX2_init_0 rfl (lv_at hl 0 rfl) ?_
  refine W.objInit hx hb hown (hts _ wml_RX2_3) (hts _ wim_obj) (hts _ wcd_obj) rfl (by rw [hml]; exact hl.1) rfl dX2_init_1 (Nat.le_of_ble_eq_true rfl) (Nat.le_of_ble_eq_true rfl) ?_
  refine W.eq (g2 := F0 m 4 ls []) rfl ?_
  refine lv_aload_n hx hb dX2_init_4 rfl (lv_at hl 0 rfl) ?_
  refine lv_aload_n hx hb dX2_init_5 rfl (lv_at hl 1 rfl) ?_
  refine va_putF (D := D) (ci := 2) (v := .ref (P 0)) (ty := .object "RoofOrdinances$Pad") (C := RX2) (T := TX2) (N := 6) hx hb hts inT_X2 tyX2 tyX2_ok nmX2 hown hK.1 hP hD hS 0 rfl rfl 0 (by decide) (hts _ wfl_RX2_9) (fun _ h9 => h9) rfl hin rfl (by decide +kernel) rfl rfl (Nat.le_of_ble_eq_true rfl) dX2_init_6 (fun H locs hP hD hS => ?_)
  exact W.vret hx hb hr (fun t ht hW => ⟨⟨((fun _ => a), fun _ => 0), rfl, rfl, by rw [ht]; exact hP, hD⟩, hS.F ht⟩) hS.2.2 dX2_init_9
