theorem vaP_cg {D : va_G} {cl : List vw_C} {ws : va_W} {H : Heap} {a n : Nat} {cI : ClassId} {f g : Nat → Int32} (q : Nat) (h : va_P D cl ws H) (hq : ws[q]? = some (a, .inl (cI, n, .inl f))) (hfg : ∀ j : Nat, j < n → f j = g j) : va_P D cl (ws.set q (a, .inl (cI, n, .inl g))) H := by
  have hl := (List.getElem?_eq_some_iff.mp hq).1
  have e : vp_cell cI (n, .inl f) = vp_cell cI (n, .inl g) := by
    have e2 : (fun j : Fin n => Value.int (f j.val)) = (fun j : Fin n => Value.int (g j.val)) := funext fun j => by rw [hfg j.1 j.2]
    simp only [vp_cell, arrV, arrCell, arrSlots, e2]
  intro k p hk
  by_cases hkq : k = q
  · subst hkq
    rw [List.getElem?_set_self hl] at hk
    cases hk
    have h1 : H[a]? = some (vp_cell cI (n, .inl f)) := h k _ hq
    show H[a]? = some (vp_cell cI (n, .inl g))
    rw [h1, e]
  · rw [List.getElem?_set_ne (Ne.symm hkq)] at hk
    exact h k p hk
theorem cpy_full {f g : Nat → Int32} {n j : Nat} (hj : j < n) : va_cpy f g 0 0 n j = f j := by
  rw [pk_cpy_in (Nat.zero_le j) (by omega)]
  congr 1
  omega
def pX0_copyFrom (u : (Nat → Nat → Int32)) (w : (Nat → Int32)) (u2 : (Nat → Nat → Int32)) (w2 : (Nat → Int32)) : (Nat → Nat → Int32) × (Nat → Int32) := (u2, w2)
set_option maxHeartbeats 4000000 in
set_option maxRecDepth 100000 in
theorem kX0_copyFrom (l : Launch) (D : va_G) (cyC cyI cyO : ClassId) (A : Nat → Nat) (A2 : Nat → Nat) (u : (Nat → Nat → Int32)) (w : (Nat → Int32)) (u2 : (Nat → Nat → Int32)) (w2 : (Nat → Int32)) : MU l yX0_copyFrom (Ty yX0_copyFrom cX0_copyFrom 2 none) ({ frames := 1, cells := 0, slots := 0, locals := 40 } : Room) D cyC cyI cyO (wC cyI A u w ++ (wC cyI A2 u2 w2)) [.ref (A 0), .ref (A2 0)] none (wC cyI A (pX0_copyFrom u w u2 w2).1 (pX0_copyFrom u w u2 w2).2 ++ (wC cyI A2 u2 w2)) := by
  intro sz
  refine Met.ofW (cc := cX0_copyFrom) (maxL := 2) (ret := none) (by decide) rfl ?_
  intro p e s m args below meth cd s₁ B hml hv
  obtain ⟨rfl, hsz, hP, hK, hD0⟩ := hv
  have hx := B.exec
  have hb := B.bytes
  have hr := B.returns
  have hts : ∀ w ∈ TB, w.before ([.ref (A 0), .ref (A2 0)] : List Value).toArray s = true := fun w h => atoms_spec (ws := (Ty yX0_copyFrom cX0_copyFrom 2 none)) B.pre w (List.mem_cons_of_mem _ h)
  have hown : s.vm.findClass RX0 = some m.cls := findClass_of_methodNamed B.named
  have hlocks := B.notSynchronized
  subst hsz
  have hD := hD0.self (sz := s.heap.size)
  have hA : ∀ q : Nat, s.heap.size ≤ q → (va_A (wC cyI A u w ++ (wC cyI A2 u2 w2)) s.heap.size) q := fun q h => Or.inr h
  generalize hAe : va_A (wC cyI A u w ++ (wC cyI A2 u2 w2)) s.heap.size = A0 at hD hA ⊢
  have hS : va_S A0 s.heap s.heap [] := va_S.rf
  have hl := lv_entry ([.ref (A 0), .ref (A2 0)]) (n := 2) (Nat.le_of_ble_eq_true rfl)
  rw [lg_entry_eq]
  generalize (lg_sl ([.ref (A 0), .ref (A2 0)]) ++ List.replicate (2 - (lg_sl ([.ref (A 0), .ref (A2 0)])).length) Slot.unset).toArray = ls at hl ⊢
  have hl : lv_has ls 2 [(0, .ref (A 0)), (1, .ref (A2 0))] := hl
  refine lv_aload_n hx hb dX0_copyFrom_0 rfl (lv_at hl 1 rfl) ?_
  refine va_get (D := D) (ci := 0) (v := .ref (A2 1)) (C := RX0) (T := TX0) (N := 19) hx hb hts inT_X0 hown hK.1 hP 9 rfl rfl 0 (by decide) (hts _ wfl_RX0_9) (fun _ h9 => h9) rfl dX0_copyFrom_1 ?_
  refine lv_iconst (v := 0) hx hb dX0_copyFrom_4 (by decide) ?_
  refine lv_aload_n hx hb dX0_copyFrom_5 rfl (lv_at hl 0 rfl) ?_
  refine va_get (D := D) (ci := 0) (v := .ref (A 1)) (C := RX0) (T := TX0) (N := 19) hx hb hts inT_X0 hown hK.1 hP 0 rfl rfl 0 (by decide) (hts _ wfl_RX0_9) (fun _ h9 => h9) rfl dX0_copyFrom_6 ?_
  refine lv_iconst (v := 0) hx hb dX0_copyFrom_9 (by decide) ?_
  refine lv_bipush (v := 28) hx hb dX0_copyFrom_10 (by decide) ?_
  refine va_copyi (f := (u2 0)) (g := (u 0)) (ty := .int) hx hb (hml.trans hl.1.symm) hown (hts _ wml_RX0_59) (hts _ wnat_copy) (hts _ wst_copy) (hts _ win_RJ10) hK.1 hP hD hS 10 1 1 1 rfl rfl rfl rfl rfl (by decide) (by decide) (by decide) (by decide) (by decide) (fun _ _ => rfl) (Nat.le_of_ble_eq_true rfl) (Nat.le_of_ble_eq_true rfl) dX0_copyFrom_12 (fun H locs hP hD hS => ?_)
  have hP : va_P D vwCl (wC cyI A (va_up u 0 (va_cpy (u2 0) (u 0) 0 0 28)) w ++ (wC cyI A2 u2 w2)) H := hP
  have hD : va_D A0 (wC cyI A (va_up u 0 (va_cpy (u2 0) (u 0) 0 0 28)) w ++ (wC cyI A2 u2 w2)) := hD
  refine lv_aload_n hx hb dX0_copyFrom_15 rfl (lv_at hl 1 rfl) ?_
  refine va_get (D := D) (ci := 0) (v := .ref (A2 2)) (C := RX0) (T := TX0) (N := 19) hx hb hts inT_X0 hown hK.1 hP 9 rfl rfl 1 (by decide) (hts _ wfl_RX0_15) (fun _ h9 => h9) rfl dX0_copyFrom_16 ?_
  refine lv_iconst (v := 0) hx hb dX0_copyFrom_19 (by decide) ?_
  refine lv_aload_n hx hb dX0_copyFrom_20 rfl (lv_at hl 0 rfl) ?_
  refine va_get (D := D) (ci := 0) (v := .ref (A 2)) (C := RX0) (T := TX0) (N := 19) hx hb hts inT_X0 hown hK.1 hP 0 rfl rfl 1 (by decide) (hts _ wfl_RX0_15) (fun _ h9 => h9) rfl dX0_copyFrom_21 ?_
  refine lv_iconst (v := 0) hx hb dX0_copyFrom_24 (by decide) ?_
  refine lv_bipush (v := 28) hx hb dX0_copyFrom_25 (by decide) ?_
  refine va_copyi (f := (u2 1)) (g := (u 1)) (ty := .int) hx hb (hml.trans hl.1.symm) hown (hts _ wml_RX0_59) (hts _ wnat_copy) (hts _ wst_copy) (hts _ win_RJ10) hK.1 hP hD hS 11 2 1 1 rfl rfl rfl rfl rfl (by decide) (by decide) (by decide) (by decide) (by decide) (fun _ _ => rfl) (Nat.le_of_ble_eq_true rfl) (Nat.le_of_ble_eq_true rfl) dX0_copyFrom_27 (fun H locs hP hD hS => ?_)
  have hP : va_P D vwCl (wC cyI A (va_up (va_up u 0 (va_cpy (u2 0) (u 0) 0 0 28)) 1 (va_cpy (u2 1) (u 1) 0 0 28)) w ++ (wC cyI A2 u2 w2)) H := hP
  have hD : va_D A0 (wC cyI A (va_up (va_up u 0 (va_cpy (u2 0) (u 0) 0 0 28)) 1 (va_cpy (u2 1) (u 1) 0 0 28)) w ++ (wC cyI A2 u2 w2)) := hD
  refine lv_aload_n hx hb dX0_copyFrom_30 rfl (lv_at hl 1 rfl) ?_
  refine va_get (D := D) (ci := 0) (v := .ref (A2 3)) (C := RX0) (T := TX0) (N := 19) hx hb hts inT_X0 hown hK.1 hP 9 rfl rfl 2 (by decide) (hts _ wfl_RX0_18) (fun _ h9 => h9) rfl dX0_copyFrom_31 ?_
  refine lv_iconst (v := 0) hx hb dX0_copyFrom_34 (by decide) ?_
  refine lv_aload_n hx hb dX0_copyFrom_35 rfl (lv_at hl 0 rfl) ?_
  refine va_get (D := D) (ci := 0) (v := .ref (A 3)) (C := RX0) (T := TX0) (N := 19) hx hb hts inT_X0 hown hK.1 hP 0 rfl rfl 2 (by decide) (hts _ wfl_RX0_18) (fun _ h9 => h9) rfl dX0_copyFrom_36 ?_
  refine lv_iconst (v := 0) hx hb dX0_copyFrom_39 (by decide) ?_
  refine lv_bipush (v := 28) hx hb dX0_copyFrom_40 (by decide) ?_
  refine va_copyi (f := (u2 2)) (g := (u 2)) (ty := .int) hx hb (hml.trans hl.1.symm) hown (hts _ wml_RX0_59) (hts _ wnat_copy) (hts _ wst_copy) (hts _ win_RJ10) hK.1 hP hD hS 12 3 1 1 rfl rfl rfl rfl rfl (by decide) (by decide) (by decide) (by decide) (by decide) (fun _ _ => rfl) (Nat.le_of_ble_eq_true rfl) (Nat.le_of_ble_eq_true rfl) dX0_copyFrom_42 (fun H locs hP hD hS => ?_)
  have hP : va_P D vwCl (wC cyI A (va_up (va_up (va_up u 0 (va_cpy (u2 0) (u 0) 0 0 28)) 1 (va_cpy (u2 1) (u 1) 0 0 28)) 2 (va_cpy (u2 2) (u 2) 0 0 28)) w ++ (wC cyI A2 u2 w2)) H := hP
  have hD : va_D A0 (wC cyI A (va_up (va_up (va_up u 0 (va_cpy (u2 0) (u 0) 0 0 28)) 1 (va_cpy (u2 1) (u 1) 0 0 28)) 2 (va_cpy (u2 2) (u 2) 0 0 28)) w ++ (wC cyI A2 u2 w2)) := hD
  refine lv_aload_n hx hb dX0_copyFrom_45 rfl (lv_at hl 1 rfl) ?_
  refine va_get (D := D) (ci := 0) (v := .ref (A2 4)) (C := RX0) (T := TX0) (N := 19) hx hb hts inT_X0 hown hK.1 hP 9 rfl rfl 3 (by decide) (hts _ wfl_RX0_21) (fun _ h9 => h9) rfl dX0_copyFrom_46 ?_
  refine lv_iconst (v := 0) hx hb dX0_copyFrom_49 (by decide) ?_
  refine lv_aload_n hx hb dX0_copyFrom_50 rfl (lv_at hl 0 rfl) ?_
  refine va_get (D := D) (ci := 0) (v := .ref (A 4)) (C := RX0) (T := TX0) (N := 19) hx hb hts inT_X0 hown hK.1 hP 0 rfl rfl 3 (by decide) (hts _ wfl_RX0_21) (fun _ h9 => h9) rfl dX0_copyFrom_51 ?_
  refine lv_iconst (v := 0) hx hb dX0_copyFrom_54 (by decide) ?_
  refine lv_bipush (v := 28) hx hb dX0_copyFrom_55 (by decide) ?_
  refine va_copyi (f := (u2 3)) (g := (u 3)) (ty := .int) hx hb (hml.trans hl.1.symm) hown (hts _ wml_RX0_59) (hts _ wnat_copy) (hts _ wst_copy) (hts _ win_RJ10) hK.1 hP hD hS 13 4 1 1 rfl rfl rfl rfl rfl (by decide) (by decide) (by decide) (by decide) (by decide) (fun _ _ => rfl) (Nat.le_of_ble_eq_true rfl) (Nat.le_of_ble_eq_true rfl) dX0_copyFrom_57 (fun H locs hP hD hS => ?_)
  have hP : va_P D vwCl (wC cyI A (va_up (va_up (va_up (va_up u 0 (va_cpy (u2 0) (u 0) 0 0 28)) 1 (va_cpy (u2 1) (u 1) 0 0 28)) 2 (va_cpy (u2 2) (u 2) 0 0 28)) 3 (va_cpy (u2 3) (u 3) 0 0 28)) w ++ (wC cyI A2 u2 w2)) H := hP
  have hD : va_D A0 (wC cyI A (va_up (va_up (va_up (va_up u 0 (va_cpy (u2 0) (u 0) 0 0 28)) 1 (va_cpy (u2 1) (u 1) 0 0 28)) 2 (va_cpy (u2 2) (u 2) 0 0 28)) 3 (va_cpy (u2 3) (u 3) 0 0 28)) w ++ (wC cyI A2 u2 w2)) := hD
  refine lv_aload_n hx hb dX0_copyFrom_60 rfl (lv_at hl 1 rfl) ?_
  refine va_get (D := D) (ci := 0) (v := .ref (A2 5)) (C := RX0) (T := TX0) (N := 19) hx hb hts inT_X0 hown hK.1 hP 9 rfl rfl 4 (by decide) (hts _ wfl_RX0_24) (fun _ h9 => h9) rfl dX0_copyFrom_61 ?_
  refine lv_iconst (v := 0) hx hb dX0_copyFrom_64 (by decide) ?_
  refine lv_aload_n hx hb dX0_copyFrom_65 rfl (lv_at hl 0 rfl) ?_
  refine va_get (D := D) (ci := 0) (v := .ref (A 5)) (C := RX0) (T := TX0) (N := 19) hx hb hts inT_X0 hown hK.1 hP 0 rfl rfl 4 (by decide) (hts _ wfl_RX0_24) (fun _ h9 => h9) rfl dX0_copyFrom_66 ?_
  refine lv_iconst (v := 0) hx hb dX0_copyFrom_69 (by decide) ?_
  refine lv_iconst (v := 4) hx hb dX0_copyFrom_70 (by decide) ?_
  refine va_copyi (f := (u2 4)) (g := (u 4)) (ty := .int) hx hb (hml.trans hl.1.symm) hown (hts _ wml_RX0_59) (hts _ wnat_copy) (hts _ wst_copy) (hts _ win_RJ10) hK.1 hP hD hS 14 5 1 1 rfl rfl rfl rfl rfl (by decide) (by decide) (by decide) (by decide) (by decide) (fun _ _ => rfl) (Nat.le_of_ble_eq_true rfl) (Nat.le_of_ble_eq_true rfl) dX0_copyFrom_71 (fun H locs hP hD hS => ?_)
  have hP : va_P D vwCl (wC cyI A (va_up (va_up (va_up (va_up (va_up u 0 (va_cpy (u2 0) (u 0) 0 0 28)) 1 (va_cpy (u2 1) (u 1) 0 0 28)) 2 (va_cpy (u2 2) (u 2) 0 0 28)) 3 (va_cpy (u2 3) (u 3) 0 0 28)) 4 (va_cpy (u2 4) (u 4) 0 0 4)) w ++ (wC cyI A2 u2 w2)) H := hP
  have hD : va_D A0 (wC cyI A (va_up (va_up (va_up (va_up (va_up u 0 (va_cpy (u2 0) (u 0) 0 0 28)) 1 (va_cpy (u2 1) (u 1) 0 0 28)) 2 (va_cpy (u2 2) (u 2) 0 0 28)) 3 (va_cpy (u2 3) (u 3) 0 0 28)) 4 (va_cpy (u2 4) (u 4) 0 0 4)) w ++ (wC cyI A2 u2 w2)) := hD
  refine lv_aload_n hx hb dX0_copyFrom_74 rfl (lv_at hl 1 rfl) ?_
  refine va_get (D := D) (ci := 0) (v := .ref (A2 6)) (C := RX0) (T := TX0) (N := 19) hx hb hts inT_X0 hown hK.1 hP 9 rfl rfl 5 (by decide) (hts _ wfl_RX0_27) (fun _ h9 => h9) rfl dX0_copyFrom_75 ?_
  refine lv_iconst (v := 0) hx hb dX0_copyFrom_78 (by decide) ?_
  refine lv_aload_n hx hb dX0_copyFrom_79 rfl (lv_at hl 0 rfl) ?_
  refine va_get (D := D) (ci := 0) (v := .ref (A 6)) (C := RX0) (T := TX0) (N := 19) hx hb hts inT_X0 hown hK.1 hP 0 rfl rfl 5 (by decide) (hts _ wfl_RX0_27) (fun _ h9 => h9) rfl dX0_copyFrom_80 ?_
  refine lv_iconst (v := 0) hx hb dX0_copyFrom_83 (by decide) ?_
  refine lv_iconst (v := 4) hx hb dX0_copyFrom_84 (by decide) ?_
  refine va_copyi (f := (u2 5)) (g := (u 5)) (ty := .int) hx hb (hml.trans hl.1.symm) hown (hts _ wml_RX0_59) (hts _ wnat_copy) (hts _ wst_copy) (hts _ win_RJ10) hK.1 hP hD hS 15 6 1 1 rfl rfl rfl rfl rfl (by decide) (by decide) (by decide) (by decide) (by decide) (fun _ _ => rfl) (Nat.le_of_ble_eq_true rfl) (Nat.le_of_ble_eq_true rfl) dX0_copyFrom_85 (fun H locs hP hD hS => ?_)
  have hP : va_P D vwCl (wC cyI A (va_up (va_up (va_up (va_up (va_up (va_up u 0 (va_cpy (u2 0) (u 0) 0 0 28)) 1 (va_cpy (u2 1) (u 1) 0 0 28)) 2 (va_cpy (u2 2) (u 2) 0 0 28)) 3 (va_cpy (u2 3) (u 3) 0 0 28)) 4 (va_cpy (u2 4) (u 4) 0 0 4)) 5 (va_cpy (u2 5) (u 5) 0 0 4)) w ++ (wC cyI A2 u2 w2)) H := hP
  have hD : va_D A0 (wC cyI A (va_up (va_up (va_up (va_up (va_up (va_up u 0 (va_cpy (u2 0) (u 0) 0 0 28)) 1 (va_cpy (u2 1) (u 1) 0 0 28)) 2 (va_cpy (u2 2) (u 2) 0 0 28)) 3 (va_cpy (u2 3) (u 3) 0 0 28)) 4 (va_cpy (u2 4) (u 4) 0 0 4)) 5 (va_cpy (u2 5) (u 5) 0 0 4)) w ++ (wC cyI A2 u2 w2)) := hD
  refine lv_aload_n hx hb dX0_copyFrom_88 rfl (lv_at hl 1 rfl) ?_
  refine va_get (D := D) (ci := 0) (v := .ref (A2 7)) (C := RX0) (T := TX0) (N := 19) hx hb hts inT_X0 hown hK.1 hP 9 rfl rfl 6 (by decide) (hts _ wfl_RX0_30) (fun _ h9 => h9) rfl dX0_copyFrom_89 ?_
  refine lv_iconst (v := 0) hx hb dX0_copyFrom_92 (by decide) ?_
  refine lv_aload_n hx hb dX0_copyFrom_93 rfl (lv_at hl 0 rfl) ?_
  refine va_get (D := D) (ci := 0) (v := .ref (A 7)) (C := RX0) (T := TX0) (N := 19) hx hb hts inT_X0 hown hK.1 hP 0 rfl rfl 6 (by decide) (hts _ wfl_RX0_30) (fun _ h9 => h9) rfl dX0_copyFrom_94 ?_
  refine lv_iconst (v := 0) hx hb dX0_copyFrom_97 (by decide) ?_
  refine lv_iconst (v := 4) hx hb dX0_copyFrom_98 (by decide) ?_
  refine va_copyi (f := (u2 6)) (g := (u 6)) (ty := .int) hx hb (hml.trans hl.1.symm) hown (hts _ wml_RX0_59) (hts _ wnat_copy) (hts _ wst_copy) (hts _ win_RJ10) hK.1 hP hD hS 16 7 1 1 rfl rfl rfl rfl rfl (by decide) (by decide) (by decide) (by decide) (by decide) (fun _ _ => rfl) (Nat.le_of_ble_eq_true rfl) (Nat.le_of_ble_eq_true rfl) dX0_copyFrom_99 (fun H locs hP hD hS => ?_)
  have hP : va_P D vwCl (wC cyI A (va_up (va_up (va_up (va_up (va_up (va_up (va_up u 0 (va_cpy (u2 0) (u 0) 0 0 28)) 1 (va_cpy (u2 1) (u 1) 0 0 28)) 2 (va_cpy (u2 2) (u 2) 0 0 28)) 3 (va_cpy (u2 3) (u 3) 0 0 28)) 4 (va_cpy (u2 4) (u 4) 0 0 4)) 5 (va_cpy (u2 5) (u 5) 0 0 4)) 6 (va_cpy (u2 6) (u 6) 0 0 4)) w ++ (wC cyI A2 u2 w2)) H := hP
  have hD : va_D A0 (wC cyI A (va_up (va_up (va_up (va_up (va_up (va_up (va_up u 0 (va_cpy (u2 0) (u 0) 0 0 28)) 1 (va_cpy (u2 1) (u 1) 0 0 28)) 2 (va_cpy (u2 2) (u 2) 0 0 28)) 3 (va_cpy (u2 3) (u 3) 0 0 28)) 4 (va_cpy (u2 4) (u 4) 0 0 4)) 5 (va_cpy (u2 5) (u 5) 0 0 4)) 6 (va_cpy (u2 6) (u 6) 0 0 4)) w ++ (wC cyI A2 u2 w2)) := hD
  refine lv_aload_n hx hb dX0_copyFrom_102 rfl (lv_at hl 1 rfl) ?_
  refine va_get (D := D) (ci := 0) (v := .ref (A2 8)) (C := RX0) (T := TX0) (N := 19) hx hb hts inT_X0 hown hK.1 hP 9 rfl rfl 7 (by decide) (hts _ wfl_RX0_33) (fun _ h9 => h9) rfl dX0_copyFrom_103 ?_
  refine lv_iconst (v := 0) hx hb dX0_copyFrom_106 (by decide) ?_
  refine lv_aload_n hx hb dX0_copyFrom_107 rfl (lv_at hl 0 rfl) ?_
  refine va_get (D := D) (ci := 0) (v := .ref (A 8)) (C := RX0) (T := TX0) (N := 19) hx hb hts inT_X0 hown hK.1 hP 0 rfl rfl 7 (by decide) (hts _ wfl_RX0_33) (fun _ h9 => h9) rfl dX0_copyFrom_108 ?_
  refine lv_iconst (v := 0) hx hb dX0_copyFrom_111 (by decide) ?_
  refine lv_iconst (v := 4) hx hb dX0_copyFrom_112 (by decide) ?_
  refine va_copyi (f := (u2 7)) (g := (u 7)) (ty := .int) hx hb (hml.trans hl.1.symm) hown (hts _ wml_RX0_59) (hts _ wnat_copy) (hts _ wst_copy) (hts _ win_RJ10) hK.1 hP hD hS 17 8 1 1 rfl rfl rfl rfl rfl (by decide) (by decide) (by decide) (by decide) (by decide) (fun _ _ => rfl) (Nat.le_of_ble_eq_true rfl) (Nat.le_of_ble_eq_true rfl) dX0_copyFrom_113 (fun H locs hP hD hS => ?_)
  have hP : va_P D vwCl (wC cyI A (va_up (va_up (va_up (va_up (va_up (va_up (va_up (va_up u 0 (va_cpy (u2 0) (u 0) 0 0 28)) 1 (va_cpy (u2 1) (u 1) 0 0 28)) 2 (va_cpy (u2 2) (u 2) 0 0 28)) 3 (va_cpy (u2 3) (u 3) 0 0 28)) 4 (va_cpy (u2 4) (u 4) 0 0 4)) 5 (va_cpy (u2 5) (u 5) 0 0 4)) 6 (va_cpy (u2 6) (u 6) 0 0 4)) 7 (va_cpy (u2 7) (u 7) 0 0 4)) w ++ (wC cyI A2 u2 w2)) H := hP
  have hD : va_D A0 (wC cyI A (va_up (va_up (va_up (va_up (va_up (va_up (va_up (va_up u 0 (va_cpy (u2 0) (u 0) 0 0 28)) 1 (va_cpy (u2 1) (u 1) 0 0 28)) 2 (va_cpy (u2 2) (u 2) 0 0 28)) 3 (va_cpy (u2 3) (u 3) 0 0 28)) 4 (va_cpy (u2 4) (u 4) 0 0 4)) 5 (va_cpy (u2 5) (u 5) 0 0 4)) 6 (va_cpy (u2 6) (u 6) 0 0 4)) 7 (va_cpy (u2 7) (u 7) 0 0 4)) w ++ (wC cyI A2 u2 w2)) := hD
  refine lv_aload_n hx hb dX0_copyFrom_116 rfl (lv_at hl 0 rfl) ?_
  refine lv_aload_n hx hb dX0_copyFrom_117 rfl (lv_at hl 1 rfl) ?_
  refine va_get (D := D) (ci := 0) (v := .int (w2 8)) (C := RX0) (T := TX0) (N := 19) hx hb hts inT_X0 hown hK.1 hP 9 rfl rfl 8 (by decide) (hts _ wfl_RX0_65) (fun _ h9 => h9) rfl dX0_copyFrom_118 ?_
  refine va_put (D := D) (ci := 0) (v := .int (w2 8)) (ty := .int) (C := RX0) (T := TX0) (N := 19) hx hb hts inT_X0 tyX0 tyX0_ok nmX0 hown hK.1 hP hD hS 0 rfl rfl 8 (by decide) (hts _ wfl_RX0_65) (fun _ h9 => h9) rfl (by decide +kernel) (by rfl) rfl (Nat.le_of_ble_eq_true rfl) dX0_copyFrom_121 (fun H locs hP hD hS => ?_)
  have hP : va_P D vwCl (wC cyI A (va_up (va_up (va_up (va_up (va_up (va_up (va_up (va_up u 0 (va_cpy (u2 0) (u 0) 0 0 28)) 1 (va_cpy (u2 1) (u 1) 0 0 28)) 2 (va_cpy (u2 2) (u 2) 0 0 28)) 3 (va_cpy (u2 3) (u 3) 0 0 28)) 4 (va_cpy (u2 4) (u 4) 0 0 4)) 5 (va_cpy (u2 5) (u 5) 0 0 4)) 6 (va_cpy (u2 6) (u 6) 0 0 4)) 7 (va_cpy (u2 7) (u 7) 0 0 4)) (va_up w 8 (w2 8)) ++ (wC cyI A2 u2 w2)) H := hP
  have hD : va_D A0 (wC cyI A (va_up (va_up (va_up (va_up (va_up (va_up (va_up (va_up u 0 (va_cpy (u2 0) (u 0) 0 0 28)) 1 (va_cpy (u2 1) (u 1) 0 0 28)) 2 (va_cpy (u2 2) (u 2) 0 0 28)) 3 (va_cpy (u2 3) (u 3) 0 0 28)) 4 (va_cpy (u2 4) (u 4) 0 0 4)) 5 (va_cpy (u2 5) (u 5) 0 0 4)) 6 (va_cpy (u2 6) (u 6) 0 0 4)) 7 (va_cpy (u2 7) (u 7) 0 0 4)) (va_up w 8 (w2 8)) ++ (wC cyI A2 u2 w2)) := hD
  refine lv_aload_n hx hb dX0_copyFrom_124 rfl (lv_at hl 0 rfl) ?_
  refine lv_aload_n hx hb dX0_copyFrom_125 rfl (lv_at hl 1 rfl) ?_
  refine va_get (D := D) (ci := 0) (v := .int (w2 9)) (C := RX0) (T := TX0) (N := 19) hx hb hts inT_X0 hown hK.1 hP 9 rfl rfl 9 (by decide) (hts _ wfl_RX0_68) (fun _ h9 => h9) rfl dX0_copyFrom_126 ?_
  refine va_put (D := D) (ci := 0) (v := .int (w2 9)) (ty := .int) (C := RX0) (T := TX0) (N := 19) hx hb hts inT_X0 tyX0 tyX0_ok nmX0 hown hK.1 hP hD hS 0 rfl rfl 9 (by decide) (hts _ wfl_RX0_68) (fun _ h9 => h9) rfl (by decide +kernel) (by rfl) rfl (Nat.le_of_ble_eq_true rfl) dX0_copyFrom_129 (fun H locs hP hD hS => ?_)
  have hP : va_P D vwCl (wC cyI A (va_up (va_up (va_up (va_up (va_up (va_up (va_up (va_up u 0 (va_cpy (u2 0) (u 0) 0 0 28)) 1 (va_cpy (u2 1) (u 1) 0 0 28)) 2 (va_cpy (u2 2) (u 2) 0 0 28)) 3 (va_cpy (u2 3) (u 3) 0 0 28)) 4 (va_cpy (u2 4) (u 4) 0 0 4)) 5 (va_cpy (u2 5) (u 5) 0 0 4)) 6 (va_cpy (u2 6) (u 6) 0 0 4)) 7 (va_cpy (u2 7) (u 7) 0 0 4)) (va_up (va_up w 8 (w2 8)) 9 (w2 9)) ++ (wC cyI A2 u2 w2)) H := hP
  have hD : va_D A0 (wC cyI A (va_up (va_up (va_up (va_up (va_up (va_up (va_up (va_up u 0 (va_cpy (u2 0) (u 0) 0 0 28)) 1 (va_cpy (u2 1) (u 1) 0 0 28)) 2 (va_cpy (u2 2) (u 2) 0 0 28)) 3 (va_cpy (u2 3) (u 3) 0 0 28)) 4 (va_cpy (u2 4) (u 4) 0 0 4)) 5 (va_cpy (u2 5) (u 5) 0 0 4)) 6 (va_cpy (u2 6) (u 6) 0 0 4)) 7 (va_cpy (u2 7) (u 7) 0 0 4)) (va_up (va_up w 8 (w2 8)) 9 (w2 9)) ++ (wC cyI A2 u2 w2)) := hD
  refine lv_aload_n hx hb dX0_copyFrom_132 rfl (lv_at hl 0 rfl) ?_
  refine lv_aload_n hx hb dX0_copyFrom_133 rfl (lv_at hl 1 rfl) ?_
  refine va_get (D := D) (ci := 0) (v := .int (w2 10)) (C := RX0) (T := TX0) (N := 19) hx hb hts inT_X0 hown hK.1 hP 9 rfl rfl 10 (by decide) (hts _ wfl_RX0_71) (fun _ h9 => h9) rfl dX0_copyFrom_134 ?_
  refine va_put (D := D) (ci := 0) (v := .int (w2 10)) (ty := .int) (C := RX0) (T := TX0) (N := 19) hx hb hts inT_X0 tyX0 tyX0_ok nmX0 hown hK.1 hP hD hS 0 rfl rfl 10 (by decide) (hts _ wfl_RX0_71) (fun _ h9 => h9) rfl (by decide +kernel) (by rfl) rfl (Nat.le_of_ble_eq_true rfl) dX0_copyFrom_137 (fun H locs hP hD hS => ?_)
  have hP : va_P D vwCl (wC cyI A (va_up (va_up (va_up (va_up (va_up (va_up (va_up (va_up u 0 (va_cpy (u2 0) (u 0) 0 0 28)) 1 (va_cpy (u2 1) (u 1) 0 0 28)) 2 (va_cpy (u2 2) (u 2) 0 0 28)) 3 (va_cpy (u2 3) (u 3) 0 0 28)) 4 (va_cpy (u2 4) (u 4) 0 0 4)) 5 (va_cpy (u2 5) (u 5) 0 0 4)) 6 (va_cpy (u2 6) (u 6) 0 0 4)) 7 (va_cpy (u2 7) (u 7) 0 0 4)) (va_up (va_up (va_up w 8 (w2 8)) 9 (w2 9)) 10 (w2 10)) ++ (wC cyI A2 u2 w2)) H := hP
  have hD : va_D A0 (wC cyI A (va_up (va_up (va_up (va_up (va_up (va_up (va_up (va_up u 0 (va_cpy (u2 0) (u 0) 0 0 28)) 1 (va_cpy (u2 1) (u 1) 0 0 28)) 2 (va_cpy (u2 2) (u 2) 0 0 28)) 3 (va_cpy (u2 3) (u 3) 0 0 28)) 4 (va_cpy (u2 4) (u 4) 0 0 4)) 5 (va_cpy (u2 5) (u 5) 0 0 4)) 6 (va_cpy (u2 6) (u 6) 0 0 4)) 7 (va_cpy (u2 7) (u 7) 0 0 4)) (va_up (va_up (va_up w 8 (w2 8)) 9 (w2 9)) 10 (w2 10)) ++ (wC cyI A2 u2 w2)) := hD
  refine lv_aload_n hx hb dX0_copyFrom_140 rfl (lv_at hl 0 rfl) ?_
  refine lv_aload_n hx hb dX0_copyFrom_141 rfl (lv_at hl 1 rfl) ?_
  refine va_get (D := D) (ci := 0) (v := .int (w2 11)) (C := RX0) (T := TX0) (N := 19) hx hb hts inT_X0 hown hK.1 hP 9 rfl rfl 11 (by decide) (hts _ wfl_RX0_36) (fun _ h9 => h9) rfl dX0_copyFrom_142 ?_
  refine va_put (D := D) (ci := 0) (v := .int (w2 11)) (ty := .int) (C := RX0) (T := TX0) (N := 19) hx hb hts inT_X0 tyX0 tyX0_ok nmX0 hown hK.1 hP hD hS 0 rfl rfl 11 (by decide) (hts _ wfl_RX0_36) (fun _ h9 => h9) rfl (by decide +kernel) (by rfl) rfl (Nat.le_of_ble_eq_true rfl) dX0_copyFrom_145 (fun H locs hP hD hS => ?_)
  have hP : va_P D vwCl (wC cyI A (va_up (va_up (va_up (va_up (va_up (va_up (va_up (va_up u 0 (va_cpy (u2 0) (u 0) 0 0 28)) 1 (va_cpy (u2 1) (u 1) 0 0 28)) 2 (va_cpy (u2 2) (u 2) 0 0 28)) 3 (va_cpy (u2 3) (u 3) 0 0 28)) 4 (va_cpy (u2 4) (u 4) 0 0 4)) 5 (va_cpy (u2 5) (u 5) 0 0 4)) 6 (va_cpy (u2 6) (u 6) 0 0 4)) 7 (va_cpy (u2 7) (u 7) 0 0 4)) (va_up (va_up (va_up (va_up w 8 (w2 8)) 9 (w2 9)) 10 (w2 10)) 11 (w2 11)) ++ (wC cyI A2 u2 w2)) H := hP
  have hD : va_D A0 (wC cyI A (va_up (va_up (va_up (va_up (va_up (va_up (va_up (va_up u 0 (va_cpy (u2 0) (u 0) 0 0 28)) 1 (va_cpy (u2 1) (u 1) 0 0 28)) 2 (va_cpy (u2 2) (u 2) 0 0 28)) 3 (va_cpy (u2 3) (u 3) 0 0 28)) 4 (va_cpy (u2 4) (u 4) 0 0 4)) 5 (va_cpy (u2 5) (u 5) 0 0 4)) 6 (va_cpy (u2 6) (u 6) 0 0 4)) 7 (va_cpy (u2 7) (u 7) 0 0 4)) (va_up (va_up (va_up (va_up w 8 (w2 8)) 9 (w2 9)) 10 (w2 10)) 11 (w2 11)) ++ (wC cyI A2 u2 w2)) := hD
  refine lv_aload_n hx hb dX0_copyFrom_148 rfl (lv_at hl 0 rfl) ?_
  refine lv_aload_n hx hb dX0_copyFrom_149 rfl (lv_at hl 1 rfl) ?_
  refine va_get (D := D) (ci := 0) (v := .int (w2 12)) (C := RX0) (T := TX0) (N := 19) hx hb hts inT_X0 hown hK.1 hP 9 rfl rfl 12 (by decide) (hts _ wfl_RX0_40) (fun _ h9 => h9) rfl dX0_copyFrom_150 ?_
  refine va_put (D := D) (ci := 0) (v := .int (w2 12)) (ty := .int) (C := RX0) (T := TX0) (N := 19) hx hb hts inT_X0 tyX0 tyX0_ok nmX0 hown hK.1 hP hD hS 0 rfl rfl 12 (by decide) (hts _ wfl_RX0_40) (fun _ h9 => h9) rfl (by decide +kernel) (by rfl) rfl (Nat.le_of_ble_eq_true rfl) dX0_copyFrom_153 (fun H locs hP hD hS => ?_)
  have hP : va_P D vwCl (wC cyI A (va_up (va_up (va_up (va_up (va_up (va_up (va_up (va_up u 0 (va_cpy (u2 0) (u 0) 0 0 28)) 1 (va_cpy (u2 1) (u 1) 0 0 28)) 2 (va_cpy (u2 2) (u 2) 0 0 28)) 3 (va_cpy (u2 3) (u 3) 0 0 28)) 4 (va_cpy (u2 4) (u 4) 0 0 4)) 5 (va_cpy (u2 5) (u 5) 0 0 4)) 6 (va_cpy (u2 6) (u 6) 0 0 4)) 7 (va_cpy (u2 7) (u 7) 0 0 4)) (va_up (va_up (va_up (va_up (va_up w 8 (w2 8)) 9 (w2 9)) 10 (w2 10)) 11 (w2 11)) 12 (w2 12)) ++ (wC cyI A2 u2 w2)) H := hP
  have hD : va_D A0 (wC cyI A (va_up (va_up (va_up (va_up (va_up (va_up (va_up (va_up u 0 (va_cpy (u2 0) (u 0) 0 0 28)) 1 (va_cpy (u2 1) (u 1) 0 0 28)) 2 (va_cpy (u2 2) (u 2) 0 0 28)) 3 (va_cpy (u2 3) (u 3) 0 0 28)) 4 (va_cpy (u2 4) (u 4) 0 0 4)) 5 (va_cpy (u2 5) (u 5) 0 0 4)) 6 (va_cpy (u2 6) (u 6) 0 0 4)) 7 (va_cpy (u2 7) (u 7) 0 0 4)) (va_up (va_up (va_up (va_up (va_up w 8 (w2 8)) 9 (w2 9)) 10 (w2 10)) 11 (w2 11)) 12 (w2 12)) ++ (wC cyI A2 u2 w2)) := hD
  refine lv_aload_n hx hb dX0_copyFrom_156 rfl (lv_at hl 0 rfl) ?_
  refine lv_aload_n hx hb dX0_copyFrom_157 rfl (lv_at hl 1 rfl) ?_
  refine va_get (D := D) (ci := 0) (v := .int (w2 13)) (C := RX0) (T := TX0) (N := 19) hx hb hts inT_X0 hown hK.1 hP 9 rfl rfl 13 (by decide) (hts _ wfl_RX0_74) (fun _ h9 => h9) rfl dX0_copyFrom_158 ?_
  refine va_put (D := D) (ci := 0) (v := .int (w2 13)) (ty := .int) (C := RX0) (T := TX0) (N := 19) hx hb hts inT_X0 tyX0 tyX0_ok nmX0 hown hK.1 hP hD hS 0 rfl rfl 13 (by decide) (hts _ wfl_RX0_74) (fun _ h9 => h9) rfl (by decide +kernel) (by rfl) rfl (Nat.le_of_ble_eq_true rfl) dX0_copyFrom_161 (fun H locs hP hD hS => ?_)
  have hP : va_P D vwCl (wC cyI A (va_up (va_up (va_up (va_up (va_up (va_up (va_up (va_up u 0 (va_cpy (u2 0) (u 0) 0 0 28)) 1 (va_cpy (u2 1) (u 1) 0 0 28)) 2 (va_cpy (u2 2) (u 2) 0 0 28)) 3 (va_cpy (u2 3) (u 3) 0 0 28)) 4 (va_cpy (u2 4) (u 4) 0 0 4)) 5 (va_cpy (u2 5) (u 5) 0 0 4)) 6 (va_cpy (u2 6) (u 6) 0 0 4)) 7 (va_cpy (u2 7) (u 7) 0 0 4)) (va_up (va_up (va_up (va_up (va_up (va_up w 8 (w2 8)) 9 (w2 9)) 10 (w2 10)) 11 (w2 11)) 12 (w2 12)) 13 (w2 13)) ++ (wC cyI A2 u2 w2)) H := hP
  have hD : va_D A0 (wC cyI A (va_up (va_up (va_up (va_up (va_up (va_up (va_up (va_up u 0 (va_cpy (u2 0) (u 0) 0 0 28)) 1 (va_cpy (u2 1) (u 1) 0 0 28)) 2 (va_cpy (u2 2) (u 2) 0 0 28)) 3 (va_cpy (u2 3) (u 3) 0 0 28)) 4 (va_cpy (u2 4) (u 4) 0 0 4)) 5 (va_cpy (u2 5) (u 5) 0 0 4)) 6 (va_cpy (u2 6) (u 6) 0 0 4)) 7 (va_cpy (u2 7) (u 7) 0 0 4)) (va_up (va_up (va_up (va_up (va_up (va_up w 8 (w2 8)) 9 (w2 9)) 10 (w2 10)) 11 (w2 11)) 12 (w2 12)) 13 (w2 13)) ++ (wC cyI A2 u2 w2)) := hD
  refine lv_aload_n hx hb dX0_copyFrom_164 rfl (lv_at hl 0 rfl) ?_
  refine lv_aload_n hx hb dX0_copyFrom_165 rfl (lv_at hl 1 rfl) ?_
  refine va_get (D := D) (ci := 0) (v := .int (w2 14)) (C := RX0) (T := TX0) (N := 19) hx hb hts inT_X0 hown hK.1 hP 9 rfl rfl 14 (by decide) (hts _ wfl_RX0_43) (fun _ h9 => h9) rfl dX0_copyFrom_166 ?_
  refine va_put (D := D) (ci := 0) (v := .int (w2 14)) (ty := .int) (C := RX0) (T := TX0) (N := 19) hx hb hts inT_X0 tyX0 tyX0_ok nmX0 hown hK.1 hP hD hS 0 rfl rfl 14 (by decide) (hts _ wfl_RX0_43) (fun _ h9 => h9) rfl (by decide +kernel) (by rfl) rfl (Nat.le_of_ble_eq_true rfl) dX0_copyFrom_169 (fun H locs hP hD hS => ?_)
  have hP : va_P D vwCl (wC cyI A (va_up (va_up (va_up (va_up (va_up (va_up (va_up (va_up u 0 (va_cpy (u2 0) (u 0) 0 0 28)) 1 (va_cpy (u2 1) (u 1) 0 0 28)) 2 (va_cpy (u2 2) (u 2) 0 0 28)) 3 (va_cpy (u2 3) (u 3) 0 0 28)) 4 (va_cpy (u2 4) (u 4) 0 0 4)) 5 (va_cpy (u2 5) (u 5) 0 0 4)) 6 (va_cpy (u2 6) (u 6) 0 0 4)) 7 (va_cpy (u2 7) (u 7) 0 0 4)) (va_up (va_up (va_up (va_up (va_up (va_up (va_up w 8 (w2 8)) 9 (w2 9)) 10 (w2 10)) 11 (w2 11)) 12 (w2 12)) 13 (w2 13)) 14 (w2 14)) ++ (wC cyI A2 u2 w2)) H := hP
  have hD : va_D A0 (wC cyI A (va_up (va_up (va_up (va_up (va_up (va_up (va_up (va_up u 0 (va_cpy (u2 0) (u 0) 0 0 28)) 1 (va_cpy (u2 1) (u 1) 0 0 28)) 2 (va_cpy (u2 2) (u 2) 0 0 28)) 3 (va_cpy (u2 3) (u 3) 0 0 28)) 4 (va_cpy (u2 4) (u 4) 0 0 4)) 5 (va_cpy (u2 5) (u 5) 0 0 4)) 6 (va_cpy (u2 6) (u 6) 0 0 4)) 7 (va_cpy (u2 7) (u 7) 0 0 4)) (va_up (va_up (va_up (va_up (va_up (va_up (va_up w 8 (w2 8)) 9 (w2 9)) 10 (w2 10)) 11 (w2 11)) 12 (w2 12)) 13 (w2 13)) 14 (w2 14)) ++ (wC cyI A2 u2 w2)) := hD
  refine lv_aload_n hx hb dX0_copyFrom_172 rfl (lv_at hl 0 rfl) ?_
  refine lv_aload_n hx hb dX0_copyFrom_173 rfl (lv_at hl 1 rfl) ?_
  refine va_get (D := D) (ci := 0) (v := .int (w2 15)) (C := RX0) (T := TX0) (N := 19) hx hb hts inT_X0 hown hK.1 hP 9 rfl rfl 15 (by decide) (hts _ wfl_RX0_77) (fun _ h9 => h9) rfl dX0_copyFrom_174 ?_
  refine va_put (D := D) (ci := 0) (v := .int (w2 15)) (ty := .int) (C := RX0) (T := TX0) (N := 19) hx hb hts inT_X0 tyX0 tyX0_ok nmX0 hown hK.1 hP hD hS 0 rfl rfl 15 (by decide) (hts _ wfl_RX0_77) (fun _ h9 => h9) rfl (by decide +kernel) (by rfl) rfl (Nat.le_of_ble_eq_true rfl) dX0_copyFrom_177 (fun H locs hP hD hS => ?_)
  have hP : va_P D vwCl (wC cyI A (va_up (va_up (va_up (va_up (va_up (va_up (va_up (va_up u 0 (va_cpy (u2 0) (u 0) 0 0 28)) 1 (va_cpy (u2 1) (u 1) 0 0 28)) 2 (va_cpy (u2 2) (u 2) 0 0 28)) 3 (va_cpy (u2 3) (u 3) 0 0 28)) 4 (va_cpy (u2 4) (u 4) 0 0 4)) 5 (va_cpy (u2 5) (u 5) 0 0 4)) 6 (va_cpy (u2 6) (u 6) 0 0 4)) 7 (va_cpy (u2 7) (u 7) 0 0 4)) (va_up (va_up (va_up (va_up (va_up (va_up (va_up (va_up w 8 (w2 8)) 9 (w2 9)) 10 (w2 10)) 11 (w2 11)) 12 (w2 12)) 13 (w2 13)) 14 (w2 14)) 15 (w2 15)) ++ (wC cyI A2 u2 w2)) H := hP
  have hD : va_D A0 (wC cyI A (va_up (va_up (va_up (va_up (va_up (va_up (va_up (va_up u 0 (va_cpy (u2 0) (u 0) 0 0 28)) 1 (va_cpy (u2 1) (u 1) 0 0 28)) 2 (va_cpy (u2 2) (u 2) 0 0 28)) 3 (va_cpy (u2 3) (u 3) 0 0 28)) 4 (va_cpy (u2 4) (u 4) 0 0 4)) 5 (va_cpy (u2 5) (u 5) 0 0 4)) 6 (va_cpy (u2 6) (u 6) 0 0 4)) 7 (va_cpy (u2 7) (u 7) 0 0 4)) (va_up (va_up (va_up (va_up (va_up (va_up (va_up (va_up w 8 (w2 8)) 9 (w2 9)) 10 (w2 10)) 11 (w2 11)) 12 (w2 12)) 13 (w2 13)) 14 (w2 14)) 15 (w2 15)) ++ (wC cyI A2 u2 w2)) := hD
  refine lv_aload_n hx hb dX0_copyFrom_180 rfl (lv_at hl 0 rfl) ?_
  refine lv_aload_n hx hb dX0_copyFrom_181 rfl (lv_at hl 1 rfl) ?_
  refine va_get (D := D) (ci := 0) (v := .int (w2 16)) (C := RX0) (T := TX0) (N := 19) hx hb hts inT_X0 hown hK.1 hP 9 rfl rfl 16 (by decide) (hts _ wfl_RX0_80) (fun _ h9 => h9) rfl dX0_copyFrom_182 ?_
  refine va_put (D := D) (ci := 0) (v := .int (w2 16)) (ty := .int) (C := RX0) (T := TX0) (N := 19) hx hb hts inT_X0 tyX0 tyX0_ok nmX0 hown hK.1 hP hD hS 0 rfl rfl 16 (by decide) (hts _ wfl_RX0_80) (fun _ h9 => h9) rfl (by decide +kernel) (by rfl) rfl (Nat.le_of_ble_eq_true rfl) dX0_copyFrom_185 (fun H locs hP hD hS => ?_)
  have hP : va_P D vwCl (wC cyI A (va_up (va_up (va_up (va_up (va_up (va_up (va_up (va_up u 0 (va_cpy (u2 0) (u 0) 0 0 28)) 1 (va_cpy (u2 1) (u 1) 0 0 28)) 2 (va_cpy (u2 2) (u 2) 0 0 28)) 3 (va_cpy (u2 3) (u 3) 0 0 28)) 4 (va_cpy (u2 4) (u 4) 0 0 4)) 5 (va_cpy (u2 5) (u 5) 0 0 4)) 6 (va_cpy (u2 6) (u 6) 0 0 4)) 7 (va_cpy (u2 7) (u 7) 0 0 4)) (va_up (va_up (va_up (va_up (va_up (va_up (va_up (va_up (va_up w 8 (w2 8)) 9 (w2 9)) 10 (w2 10)) 11 (w2 11)) 12 (w2 12)) 13 (w2 13)) 14 (w2 14)) 15 (w2 15)) 16 (w2 16)) ++ (wC cyI A2 u2 w2)) H := hP
  have hD : va_D A0 (wC cyI A (va_up (va_up (va_up (va_up (va_up (va_up (va_up (va_up u 0 (va_cpy (u2 0) (u 0) 0 0 28)) 1 (va_cpy (u2 1) (u 1) 0 0 28)) 2 (va_cpy (u2 2) (u 2) 0 0 28)) 3 (va_cpy (u2 3) (u 3) 0 0 28)) 4 (va_cpy (u2 4) (u 4) 0 0 4)) 5 (va_cpy (u2 5) (u 5) 0 0 4)) 6 (va_cpy (u2 6) (u 6) 0 0 4)) 7 (va_cpy (u2 7) (u 7) 0 0 4)) (va_up (va_up (va_up (va_up (va_up (va_up (va_up (va_up (va_up w 8 (w2 8)) 9 (w2 9)) 10 (w2 10)) 11 (w2 11)) 12 (w2 12)) 13 (w2 13)) 14 (w2 14)) 15 (w2 15)) 16 (w2 16)) ++ (wC cyI A2 u2 w2)) := hD
  refine lv_aload_n hx hb dX0_copyFrom_188 rfl (lv_at hl 0 rfl) ?_
  refine lv_aload_n hx hb dX0_copyFrom_189 rfl (lv_at hl 1 rfl) ?_
  refine va_get (D := D) (ci := 0) (v := .int (w2 17)) (C := RX0) (T := TX0) (N := 19) hx hb hts inT_X0 hown hK.1 hP 9 rfl rfl 17 (by decide) (hts _ wfl_RX0_83) (fun _ h9 => h9) rfl dX0_copyFrom_190 ?_
  refine va_put (D := D) (ci := 0) (v := .int (w2 17)) (ty := .int) (C := RX0) (T := TX0) (N := 19) hx hb hts inT_X0 tyX0 tyX0_ok nmX0 hown hK.1 hP hD hS 0 rfl rfl 17 (by decide) (hts _ wfl_RX0_83) (fun _ h9 => h9) rfl (by decide +kernel) (by rfl) rfl (Nat.le_of_ble_eq_true rfl) dX0_copyFrom_193 (fun H locs hP hD hS => ?_)
  have hP : va_P D vwCl (wC cyI A (va_up (va_up (va_up (va_up (va_up (va_up (va_up (va_up u 0 (va_cpy (u2 0) (u 0) 0 0 28)) 1 (va_cpy (u2 1) (u 1) 0 0 28)) 2 (va_cpy (u2 2) (u 2) 0 0 28)) 3 (va_cpy (u2 3) (u 3) 0 0 28)) 4 (va_cpy (u2 4) (u 4) 0 0 4)) 5 (va_cpy (u2 5) (u 5) 0 0 4)) 6 (va_cpy (u2 6) (u 6) 0 0 4)) 7 (va_cpy (u2 7) (u 7) 0 0 4)) (va_up (va_up (va_up (va_up (va_up (va_up (va_up (va_up (va_up (va_up w 8 (w2 8)) 9 (w2 9)) 10 (w2 10)) 11 (w2 11)) 12 (w2 12)) 13 (w2 13)) 14 (w2 14)) 15 (w2 15)) 16 (w2 16)) 17 (w2 17)) ++ (wC cyI A2 u2 w2)) H := hP
  have hD : va_D A0 (wC cyI A (va_up (va_up (va_up (va_up (va_up (va_up (va_up (va_up u 0 (va_cpy (u2 0) (u 0) 0 0 28)) 1 (va_cpy (u2 1) (u 1) 0 0 28)) 2 (va_cpy (u2 2) (u 2) 0 0 28)) 3 (va_cpy (u2 3) (u 3) 0 0 28)) 4 (va_cpy (u2 4) (u 4) 0 0 4)) 5 (va_cpy (u2 5) (u 5) 0 0 4)) 6 (va_cpy (u2 6) (u 6) 0 0 4)) 7 (va_cpy (u2 7) (u 7) 0 0 4)) (va_up (va_up (va_up (va_up (va_up (va_up (va_up (va_up (va_up (va_up w 8 (w2 8)) 9 (w2 9)) 10 (w2 10)) 11 (w2 11)) 12 (w2 12)) 13 (w2 13)) 14 (w2 14)) 15 (w2 15)) 16 (w2 16)) 17 (w2 17)) ++ (wC cyI A2 u2 w2)) := hD
  refine lv_aload_n hx hb dX0_copyFrom_196 rfl (lv_at hl 0 rfl) ?_
  refine lv_aload_n hx hb dX0_copyFrom_197 rfl (lv_at hl 1 rfl) ?_
  refine va_get (D := D) (ci := 0) (v := .int (w2 18)) (C := RX0) (T := TX0) (N := 19) hx hb hts inT_X0 hown hK.1 hP 9 rfl rfl 18 (by decide) (hts _ wfl_RX0_86) (fun _ h9 => h9) rfl dX0_copyFrom_198 ?_
  refine va_put (D := D) (ci := 0) (v := .int (w2 18)) (ty := .int) (C := RX0) (T := TX0) (N := 19) hx hb hts inT_X0 tyX0 tyX0_ok nmX0 hown hK.1 hP hD hS 0 rfl rfl 18 (by decide) (hts _ wfl_RX0_86) (fun _ h9 => h9) rfl (by decide +kernel) (by rfl) rfl (Nat.le_of_ble_eq_true rfl) dX0_copyFrom_201 (fun H locs hP hD hS => ?_)
  have hP : va_P D vwCl (wC cyI A (va_up (va_up (va_up (va_up (va_up (va_up (va_up (va_up u 0 (va_cpy (u2 0) (u 0) 0 0 28)) 1 (va_cpy (u2 1) (u 1) 0 0 28)) 2 (va_cpy (u2 2) (u 2) 0 0 28)) 3 (va_cpy (u2 3) (u 3) 0 0 28)) 4 (va_cpy (u2 4) (u 4) 0 0 4)) 5 (va_cpy (u2 5) (u 5) 0 0 4)) 6 (va_cpy (u2 6) (u 6) 0 0 4)) 7 (va_cpy (u2 7) (u 7) 0 0 4)) (va_up (va_up (va_up (va_up (va_up (va_up (va_up (va_up (va_up (va_up (va_up w 8 (w2 8)) 9 (w2 9)) 10 (w2 10)) 11 (w2 11)) 12 (w2 12)) 13 (w2 13)) 14 (w2 14)) 15 (w2 15)) 16 (w2 16)) 17 (w2 17)) 18 (w2 18)) ++ (wC cyI A2 u2 w2)) H := hP
  have hD : va_D A0 (wC cyI A (va_up (va_up (va_up (va_up (va_up (va_up (va_up (va_up u 0 (va_cpy (u2 0) (u 0) 0 0 28)) 1 (va_cpy (u2 1) (u 1) 0 0 28)) 2 (va_cpy (u2 2) (u 2) 0 0 28)) 3 (va_cpy (u2 3) (u 3) 0 0 28)) 4 (va_cpy (u2 4) (u 4) 0 0 4)) 5 (va_cpy (u2 5) (u 5) 0 0 4)) 6 (va_cpy (u2 6) (u 6) 0 0 4)) 7 (va_cpy (u2 7) (u 7) 0 0 4)) (va_up (va_up (va_up (va_up (va_up (va_up (va_up (va_up (va_up (va_up (va_up w 8 (w2 8)) 9 (w2 9)) 10 (w2 10)) 11 (w2 11)) 12 (w2 12)) 13 (w2 13)) 14 (w2 14)) 15 (w2 15)) 16 (w2 16)) 17 (w2 17)) 18 (w2 18)) ++ (wC cyI A2 u2 w2)) := hD
  have hP := vaP_cg (g := u2 0) 1 hP rfl (fun j hj => cpy_full hj)
  have hP := vaP_cg (g := u2 1) 2 hP rfl (fun j hj => cpy_full hj)
  have hP := vaP_cg (g := u2 2) 3 hP rfl (fun j hj => cpy_full hj)
  have hP := vaP_cg (g := u2 3) 4 hP rfl (fun j hj => cpy_full hj)
  have hP := vaP_cg (g := u2 4) 5 hP rfl (fun j hj => cpy_full hj)
  have hP := vaP_cg (g := u2 5) 6 hP rfl (fun j hj => cpy_full hj)
  have hP := vaP_cg (g := u2 6) 7 hP rfl (fun j hj => cpy_full hj)
  have hP := vaP_cg (g := u2 7) 8 hP rfl (fun j hj => cpy_full hj)
  have hP : va_P D vwCl (wC cyI A u2 w2 ++ (wC cyI A2 u2 w2)) H := hP
  have e9 : (pX0_copyFrom u w u2 w2) = (u2, w2) := rfl
  have e9_0 : (pX0_copyFrom u w u2 w2).1 = u2 := by rw [e9]
  have e9_1 : (pX0_copyFrom u w u2 w2).2 = w2 := by rw [e9]
  exact W.vret hx hb hr (fun t ht hW => ⟨⟨rfl, by rw [e9_0, e9_1, ht]; exact hP⟩, hS.F ht⟩) hS.2.2 dX0_copyFrom_204
theorem bV_X0_copyFrom : BV RX0 yX0_copyFrom cX0_copyFrom 2 none 1 := ⟨wcd_X0_copyFrom, wim_X0_copyFrom, wse_X0_copyFrom, win_RX0, by decide +kernel⟩
def pJ7_fill_53178_4_L5 (u : (Nat → Nat → Int32)) (a2 : Int32) : Nat → (Nat → Nat → Int32) := fo (fun i x_i => (va_up x_i 0 (upd (x_i 0) i a2))) u
theorem pJ7_fill_53178_4_L5_s (u : (Nat → Nat → Int32)) (a2 : Int32) (i : Nat) : pJ7_fill_53178_4_L5 u a2 (i + 1) = (va_up (pJ7_fill_53178_4_L5 u a2 i) 0 (upd ((pJ7_fill_53178_4_L5 u a2 i) 0) i a2)) := rfl
theorem pJ7_fill_53178_4_L5_0 (u : (Nat → Nat → Int32)) (a2 : Int32) : pJ7_fill_53178_4_L5 u a2 0 = u := rfl
def pJ7_fill_53178_4 (u : (Nat → Nat → Int32)) (a2 : Int32) : (Nat → Nat → Int32) := (pJ7_fill_53178_4_L5 u a2 4)
set_option maxHeartbeats 4000000 in
set_option maxRecDepth 100000 in
theorem kJ7_fill_53178_4 (l : Launch) (D : va_G) (cyC cyI cyO : ClassId) (Q : Nat → Nat) (u : (Nat → Nat → Int32)) (a2 : Int32) : MU l yJ7_fill_53178 (Ty yJ7_fill_53178 cJ7_fill_53178 4 none) ({ frames := 0, cells := 0, slots := 0, locals := 0 } : Room) D cyC cyI cyO (wQ cyI 4 Q u) [.ref (Q 0), .int a2] none (wQ cyI 4 Q (pJ7_fill_53178_4 u a2)) := by
  intro sz
  refine Met.ofW (cc := cJ7_fill_53178) (maxL := 4) (ret := none) (by decide) rfl ?_
  intro p e s m args below meth cd s₁ B hml hv
  obtain ⟨rfl, hsz, hP, hK, hD0⟩ := hv
  have hx := B.exec
  have hb := B.bytes
  have hr := B.returns
  have hts : ∀ w ∈ TB, w.before ([.ref (Q 0), .int a2] : List Value).toArray s = true := fun w h => atoms_spec (ws := (Ty yJ7_fill_53178 cJ7_fill_53178 4 none)) B.pre w (List.mem_cons_of_mem _ h)
  have hown : s.vm.findClass RJ7 = some m.cls := findClass_of_methodNamed B.named
  have hlocks := B.notSynchronized
  subst hsz
  have hD := hD0.self (sz := s.heap.size)
  have hA : ∀ q : Nat, s.heap.size ≤ q → (va_A (wQ cyI 4 Q u) s.heap.size) q := fun q h => Or.inr h
  generalize hAe : va_A (wQ cyI 4 Q u) s.heap.size = A0 at hD hA ⊢
  have hS : va_S A0 s.heap s.heap [] := va_S.rf
  have hl := lv_entry ([.ref (Q 0), .int a2]) (n := 4) (Nat.le_of_ble_eq_true rfl)
  rw [lg_entry_eq]
  generalize (lg_sl ([.ref (Q 0), .int a2]) ++ List.replicate (4 - (lg_sl ([.ref (Q 0), .int a2])).length) Slot.unset).toArray = ls at hl ⊢
  have hl : lv_has ls 4 [(0, .ref (Q 0)), (1, .int a2)] := hl
  refine lv_iconst (v := 0) hx hb dJ7_fill_53178_0 (by decide) ?_
  refine lv_istore_n (lv' := [(2, .int 0), (0, .ref (Q 0)), (1, .int a2)]) hx hb dJ7_fill_53178_1 rfl hl (by decide) rfl (fun ls hl => ?_)
  refine lv_aload_n hx hb dJ7_fill_53178_2 rfl (lv_at hl 1 rfl) ?_
  refine va_alen (v := 4) hx hb hK.1 hP 0 1 rfl rfl rfl dJ7_fill_53178_3 ?_
  refine lv_istore_n (lv' := [(3, .int 4), (2, .int 0), (0, .ref (Q 0)), (1, .int a2)]) hx hb dJ7_fill_53178_4 rfl hl (by decide) rfl (fun ls hl => ?_)
  have key_5 : ∀ k i : Nat, i + k = 4 → ∀ (H : Heap) (locs : List Loc), va_P D vwCl (wQ cyI 4 Q (pJ7_fill_53178_4_L5 u a2 i)) H → va_D A0 (wQ cyI 4 Q (pJ7_fill_53178_4_L5 u a2 i)) → va_S A0 s.heap H locs → ∀ (ls : Array Slot), lv_has ls 4 [(0, .ref (Q 0)), (1, .int a2), (2, .int (nI i)), (3, .int 4)] → W p l e (headSpec (Ty yJ7_fill_53178 cJ7_fill_53178 4 none) ({ frames := 0, cells := 0, slots := 0, locals := 0 } : Room)).room s m ([.ref (Q 0), .int a2] : List Value).toArray below meth cd H locs 0 0 (MQ below (MQQ none D (wQ cyI 4 Q (pJ7_fill_53178_4 u a2)) A0) ([.ref (Q 0), .int a2] : List Value).toArray s 0 0 A0) (F0 m 5 ls []) := by
    intro k
    induction k with
    | zero =>
      intro i hi H locs hP hD hS ls hl
      obtain rfl : i = 4 := hi
      obtain ⟨z_1, hz_1⟩ : ∃ q, q = (pJ7_fill_53178_4_L5 u a2 4) := ⟨_, rfl⟩
      rw [← hz_1] at hP hD
      refine lv_iload_n hx hb dJ7_fill_53178_5 rfl (lv_at hl 2 rfl) ?_
      refine lv_iload_n hx hb dJ7_fill_53178_6 rfl (lv_at hl 3 rfl) ?_
      refine lv_icmp_ge (tgt := 20) hx hb dJ7_fill_53178_7 (by decide) (fun c_2 => ?_) (fun c_2 => absurd (le_of (C := 4) (N := 4) (by decide)) c_2)
      have e9 : (pJ7_fill_53178_4 u a2) = z_1 := by simp only [pJ7_fill_53178_4, ← hz_1]
      exact W.vret hx hb hr (fun t ht hW => ⟨⟨rfl, by rw [e9, ht]; exact hP⟩, hS.F ht⟩) hS.2.2 dJ7_fill_53178_20
    | succ k ih_5 =>
      intro i hi H locs hP hD hS ls hl
      have hlt : i < 4 := by omega
      refine lv_iload_n hx hb dJ7_fill_53178_5 rfl (lv_at hl 2 rfl) ?_
      refine lv_iload_n hx hb dJ7_fill_53178_6 rfl (lv_at hl 3 rfl) ?_
      refine lv_icmp_ge (tgt := 20) hx hb dJ7_fill_53178_7 (by decide) (fun c_3 => absurd c_3 (nle_of (C := 4) (N := 4) (by decide) hlt (by decide))) (fun c_3 => ?_)
      refine lv_aload_n hx hb dJ7_fill_53178_10 rfl (lv_at hl 0 rfl) ?_
      refine lv_iload_n hx hb dJ7_fill_53178_11 rfl (lv_at hl 2 rfl) ?_
      refine lv_iload_n hx hb dJ7_fill_53178_12 rfl (lv_at hl 1 rfl) ?_
      obtain ⟨z_4, hz_4⟩ : ∃ q, q = (upd ((pJ7_fill_53178_4_L5 u a2 i) 0) i a2) := ⟨_, rfl⟩
      refine va_iast (D := D) (f := ((pJ7_fill_53178_4_L5 u a2 i) 0)) hx hb hK.1 hP hD hS 0 1 rfl rfl (vp_in_nI (Nat.lt_of_lt_of_le hlt (by decide)) (by decide)) dJ7_fill_53178_13 (fun H locs hP hD hS => ?_)
      rw [nI_clamp (Nat.lt_trans hlt (by decide))] at hP hD
      have hP : va_P D vwCl (wQ cyI 4 Q (va_up (pJ7_fill_53178_4_L5 u a2 i) 0 (upd ((pJ7_fill_53178_4_L5 u a2 i) 0) i a2))) H := hP
      have hD : va_D A0 (wQ cyI 4 Q (va_up (pJ7_fill_53178_4_L5 u a2 i) 0 (upd ((pJ7_fill_53178_4_L5 u a2 i) 0) i a2))) := hD
      rw [← hz_4] at hP hD
      refine lv_iinc (v := (nI (i + 1))) (lv' := [(2, .int (nI (i + 1))), (0, .ref (Q 0)), (1, .int a2), (3, .int 4)]) hx hb dJ7_fill_53178_14 hl (k := 2) rfl (nI_succ i).symm (by decide) rfl (fun ls hl => ?_)
      refine lv_goto (tgt := 5) hx hb dJ7_fill_53178_17 (by decide) ?_
      have e8 : pJ7_fill_53178_4_L5 u a2 (i + 1) = (va_up (pJ7_fill_53178_4_L5 u a2 i) 0 z_4) := by rw [pJ7_fill_53178_4_L5_s] <;> simp only [← hz_4]
      exact ih_5 (i + 1) (by omega) _ _ (by rw [e8]; exact hP) (by rw [e8]; exact hD) hS ls (lv_sub hl [1, 2, 0, 3] rfl)
  exact key_5 4 0 (Nat.zero_add 4) _ _ (hP) (hD) hS ls (lv_sub hl [2, 3, 1, 0] rfl)
theorem bS_J7_fill_53178 : BS yJ7_fill_53178 cJ7_fill_53178 4 none 2 := ⟨wcd_J7_fill_53178, wst_J7_fill_53178, win_RJ7, by decide +kernel⟩
def pJ7_fill_53178_16_L5 (u : (Nat → Nat → Int32)) (a2 : Int32) : Nat → (Nat → Nat → Int32) := fo (fun i x_i => (va_up x_i 0 (upd (x_i 0) i a2))) u
theorem pJ7_fill_53178_16_L5_s (u : (Nat → Nat → Int32)) (a2 : Int32) (i : Nat) : pJ7_fill_53178_16_L5 u a2 (i + 1) = (va_up (pJ7_fill_53178_16_L5 u a2 i) 0 (upd ((pJ7_fill_53178_16_L5 u a2 i) 0) i a2)) := rfl
theorem pJ7_fill_53178_16_L5_0 (u : (Nat → Nat → Int32)) (a2 : Int32) : pJ7_fill_53178_16_L5 u a2 0 = u := rfl
def pJ7_fill_53178_16 (u : (Nat → Nat → Int32)) (a2 : Int32) : (Nat → Nat → Int32) := (pJ7_fill_53178_16_L5 u a2 16)
set_option maxHeartbeats 4000000 in
set_option maxRecDepth 100000 in
theorem kJ7_fill_53178_16 (l : Launch) (D : va_G) (cyC cyI cyO : ClassId) (Q : Nat → Nat) (u : (Nat → Nat → Int32)) (a2 : Int32) : MU l yJ7_fill_53178 (Ty yJ7_fill_53178 cJ7_fill_53178 4 none) ({ frames := 0, cells := 0, slots := 0, locals := 0 } : Room) D cyC cyI cyO (wQ cyI 16 Q u) [.ref (Q 0), .int a2] none (wQ cyI 16 Q (pJ7_fill_53178_16 u a2)) := by
  intro sz
  refine Met.ofW (cc := cJ7_fill_53178) (maxL := 4) (ret := none) (by decide) rfl ?_
  intro p e s m args below meth cd s₁ B hml hv
  obtain ⟨rfl, hsz, hP, hK, hD0⟩ := hv
  have hx := B.exec
  have hb := B.bytes
  have hr := B.returns
  have hts : ∀ w ∈ TB, w.before ([.ref (Q 0), .int a2] : List Value).toArray s = true := fun w h => atoms_spec (ws := (Ty yJ7_fill_53178 cJ7_fill_53178 4 none)) B.pre w (List.mem_cons_of_mem _ h)
  have hown : s.vm.findClass RJ7 = some m.cls := findClass_of_methodNamed B.named
  have hlocks := B.notSynchronized
  subst hsz
  have hD := hD0.self (sz := s.heap.size)
  have hA : ∀ q : Nat, s.heap.size ≤ q → (va_A (wQ cyI 16 Q u) s.heap.size) q := fun q h => Or.inr h
  generalize hAe : va_A (wQ cyI 16 Q u) s.heap.size = A0 at hD hA ⊢
  have hS : va_S A0 s.heap s.heap [] := va_S.rf
  have hl := lv_entry ([.ref (Q 0), .int a2]) (n := 4) (Nat.le_of_ble_eq_true rfl)
  rw [lg_entry_eq]
  generalize (lg_sl ([.ref (Q 0), .int a2]) ++ List.replicate (4 - (lg_sl ([.ref (Q 0), .int a2])).length) Slot.unset).toArray = ls at hl ⊢
  have hl : lv_has ls 4 [(0, .ref (Q 0)), (1, .int a2)] := hl
  refine lv_iconst (v := 0) hx hb dJ7_fill_53178_0 (by decide) ?_
  refine lv_istore_n (lv' := [(2, .int 0), (0, .ref (Q 0)), (1, .int a2)]) hx hb dJ7_fill_53178_1 rfl hl (by decide) rfl (fun ls hl => ?_)
  refine lv_aload_n hx hb dJ7_fill_53178_2 rfl (lv_at hl 1 rfl) ?_
  refine va_alen (v := 16) hx hb hK.1 hP 0 1 rfl rfl rfl dJ7_fill_53178_3 ?_
  refine lv_istore_n (lv' := [(3, .int 16), (2, .int 0), (0, .ref (Q 0)), (1, .int a2)]) hx hb dJ7_fill_53178_4 rfl hl (by decide) rfl (fun ls hl => ?_)
  have key_5 : ∀ k i : Nat, i + k = 16 → ∀ (H : Heap) (locs : List Loc), va_P D vwCl (wQ cyI 16 Q (pJ7_fill_53178_16_L5 u a2 i)) H → va_D A0 (wQ cyI 16 Q (pJ7_fill_53178_16_L5 u a2 i)) → va_S A0 s.heap H locs → ∀ (ls : Array Slot), lv_has ls 4 [(0, .ref (Q 0)), (1, .int a2), (2, .int (nI i)), (3, .int 16)] → W p l e (headSpec (Ty yJ7_fill_53178 cJ7_fill_53178 4 none) ({ frames := 0, cells := 0, slots := 0, locals := 0 } : Room)).room s m ([.ref (Q 0), .int a2] : List Value).toArray below meth cd H locs 0 0 (MQ below (MQQ none D (wQ cyI 16 Q (pJ7_fill_53178_16 u a2)) A0) ([.ref (Q 0), .int a2] : List Value).toArray s 0 0 A0) (F0 m 5 ls []) := by
    intro k
    induction k with
    | zero =>
      intro i hi H locs hP hD hS ls hl
      obtain rfl : i = 16 := hi
      obtain ⟨z_1, hz_1⟩ : ∃ q, q = (pJ7_fill_53178_16_L5 u a2 16) := ⟨_, rfl⟩
      rw [← hz_1] at hP hD
      refine lv_iload_n hx hb dJ7_fill_53178_5 rfl (lv_at hl 2 rfl) ?_
      refine lv_iload_n hx hb dJ7_fill_53178_6 rfl (lv_at hl 3 rfl) ?_
      refine lv_icmp_ge (tgt := 20) hx hb dJ7_fill_53178_7 (by decide) (fun c_2 => ?_) (fun c_2 => absurd (le_of (C := 16) (N := 16) (by decide)) c_2)
      have e9 : (pJ7_fill_53178_16 u a2) = z_1 := by simp only [pJ7_fill_53178_16, ← hz_1]
      exact W.vret hx hb hr (fun t ht hW => ⟨⟨rfl, by rw [e9, ht]; exact hP⟩, hS.F ht⟩) hS.2.2 dJ7_fill_53178_20
    | succ k ih_5 =>
      intro i hi H locs hP hD hS ls hl
      have hlt : i < 16 := by omega
      refine lv_iload_n hx hb dJ7_fill_53178_5 rfl (lv_at hl 2 rfl) ?_
      refine lv_iload_n hx hb dJ7_fill_53178_6 rfl (lv_at hl 3 rfl) ?_
      refine lv_icmp_ge (tgt := 20) hx hb dJ7_fill_53178_7 (by decide) (fun c_3 => absurd c_3 (nle_of (C := 16) (N := 16) (by decide) hlt (by decide))) (fun c_3 => ?_)
      refine lv_aload_n hx hb dJ7_fill_53178_10 rfl (lv_at hl 0 rfl) ?_
      refine lv_iload_n hx hb dJ7_fill_53178_11 rfl (lv_at hl 2 rfl) ?_
      refine lv_iload_n hx hb dJ7_fill_53178_12 rfl (lv_at hl 1 rfl) ?_
      obtain ⟨z_4, hz_4⟩ : ∃ q, q = (upd ((pJ7_fill_53178_16_L5 u a2 i) 0) i a2) := ⟨_, rfl⟩
      refine va_iast (D := D) (f := ((pJ7_fill_53178_16_L5 u a2 i) 0)) hx hb hK.1 hP hD hS 0 1 rfl rfl (vp_in_nI (Nat.lt_of_lt_of_le hlt (by decide)) (by decide)) dJ7_fill_53178_13 (fun H locs hP hD hS => ?_)
      rw [nI_clamp (Nat.lt_trans hlt (by decide))] at hP hD
      have hP : va_P D vwCl (wQ cyI 16 Q (va_up (pJ7_fill_53178_16_L5 u a2 i) 0 (upd ((pJ7_fill_53178_16_L5 u a2 i) 0) i a2))) H := hP
      have hD : va_D A0 (wQ cyI 16 Q (va_up (pJ7_fill_53178_16_L5 u a2 i) 0 (upd ((pJ7_fill_53178_16_L5 u a2 i) 0) i a2))) := hD
      rw [← hz_4] at hP hD
      refine lv_iinc (v := (nI (i + 1))) (lv' := [(2, .int (nI (i + 1))), (0, .ref (Q 0)), (1, .int a2), (3, .int 16)]) hx hb dJ7_fill_53178_14 hl (k := 2) rfl (nI_succ i).symm (by decide) rfl (fun ls hl => ?_)
      refine lv_goto (tgt := 5) hx hb dJ7_fill_53178_17 (by decide) ?_
      have e8 : pJ7_fill_53178_16_L5 u a2 (i + 1) = (va_up (pJ7_fill_53178_16_L5 u a2 i) 0 z_4) := by rw [pJ7_fill_53178_16_L5_s] <;> simp only [← hz_4]
      exact ih_5 (i + 1) (by omega) _ _ (by rw [e8]; exact hP) (by rw [e8]; exact hD) hS ls (lv_sub hl [1, 2, 0, 3] rfl)
  exact key_5 16 0 (Nat.zero_add 16) _ _ (hP) (hD) hS ls (lv_sub hl [2, 3, 1, 0] rfl)
def pJ7_fill_53178_28_L5 (u : (Nat → Nat → Int32)) (a2 : Int32) : Nat → (Nat → Nat → Int32) := fo (fun i x_i => (va_up x_i 0 (upd (x_i 0) i a2))) u
theorem pJ7_fill_53178_28_L5_s (u : (Nat → Nat → Int32)) (a2 : Int32) (i : Nat) : pJ7_fill_53178_28_L5 u a2 (i + 1) = (va_up (pJ7_fill_53178_28_L5 u a2 i) 0 (upd ((pJ7_fill_53178_28_L5 u a2 i) 0) i a2)) := rfl
theorem pJ7_fill_53178_28_L5_0 (u : (Nat → Nat → Int32)) (a2 : Int32) : pJ7_fill_53178_28_L5 u a2 0 = u := rfl
def pJ7_fill_53178_28 (u : (Nat → Nat → Int32)) (a2 : Int32) : (Nat → Nat → Int32) := (pJ7_fill_53178_28_L5 u a2 28)
set_option maxHeartbeats 4000000 in
set_option maxRecDepth 100000 in
theorem kJ7_fill_53178_28 (l : Launch) (D : va_G) (cyC cyI cyO : ClassId) (Q : Nat → Nat) (u : (Nat → Nat → Int32)) (a2 : Int32) : MU l yJ7_fill_53178 (Ty yJ7_fill_53178 cJ7_fill_53178 4 none) ({ frames := 0, cells := 0, slots := 0, locals := 0 } : Room) D cyC cyI cyO (wQ cyI 28 Q u) [.ref (Q 0), .int a2] none (wQ cyI 28 Q (pJ7_fill_53178_28 u a2)) := by
  intro sz
  refine Met.ofW (cc := cJ7_fill_53178) (maxL := 4) (ret := none) (by decide) rfl ?_
  intro p e s m args below meth cd s₁ B hml hv
  obtain ⟨rfl, hsz, hP, hK, hD0⟩ := hv
  have hx := B.exec
  have hb := B.bytes
  have hr := B.returns
  have hts : ∀ w ∈ TB, w.before ([.ref (Q 0), .int a2] : List Value).toArray s = true := fun w h => atoms_spec (ws := (Ty yJ7_fill_53178 cJ7_fill_53178 4 none)) B.pre w (List.mem_cons_of_mem _ h)
  have hown : s.vm.findClass RJ7 = some m.cls := findClass_of_methodNamed B.named
  have hlocks := B.notSynchronized
  subst hsz
  have hD := hD0.self (sz := s.heap.size)
  have hA : ∀ q : Nat, s.heap.size ≤ q → (va_A (wQ cyI 28 Q u) s.heap.size) q := fun q h => Or.inr h
  generalize hAe : va_A (wQ cyI 28 Q u) s.heap.size = A0 at hD hA ⊢
  have hS : va_S A0 s.heap s.heap [] := va_S.rf
  have hl := lv_entry ([.ref (Q 0), .int a2]) (n := 4) (Nat.le_of_ble_eq_true rfl)
  rw [lg_entry_eq]
  generalize (lg_sl ([.ref (Q 0), .int a2]) ++ List.replicate (4 - (lg_sl ([.ref (Q 0), .int a2])).length) Slot.unset).toArray = ls at hl ⊢
  have hl : lv_has ls 4 [(0, .ref (Q 0)), (1, .int a2)] := hl
  refine lv_iconst (v := 0) hx hb dJ7_fill_53178_0 (by decide) ?_
  refine lv_istore_n (lv' := [(2, .int 0), (0, .ref (Q 0)), (1, .int a2)]) hx hb dJ7_fill_53178_1 rfl hl (by decide) rfl (fun ls hl => ?_)
  refine lv_aload_n hx hb dJ7_fill_53178_2 rfl (lv_at hl 1 rfl) ?_
  refine va_alen (v := 28) hx hb hK.1 hP 0 1 rfl rfl rfl dJ7_fill_53178_3 ?_
  refine lv_istore_n (lv' := [(3, .int 28), (2, .int 0), (0, .ref (Q 0)), (1, .int a2)]) hx hb dJ7_fill_53178_4 rfl hl (by decide) rfl (fun ls hl => ?_)
  have key_5 : ∀ k i : Nat, i + k = 28 → ∀ (H : Heap) (locs : List Loc), va_P D vwCl (wQ cyI 28 Q (pJ7_fill_53178_28_L5 u a2 i)) H → va_D A0 (wQ cyI 28 Q (pJ7_fill_53178_28_L5 u a2 i)) → va_S A0 s.heap H locs → ∀ (ls : Array Slot), lv_has ls 4 [(0, .ref (Q 0)), (1, .int a2), (2, .int (nI i)), (3, .int 28)] → W p l e (headSpec (Ty yJ7_fill_53178 cJ7_fill_53178 4 none) ({ frames := 0, cells := 0, slots := 0, locals := 0 } : Room)).room s m ([.ref (Q 0), .int a2] : List Value).toArray below meth cd H locs 0 0 (MQ below (MQQ none D (wQ cyI 28 Q (pJ7_fill_53178_28 u a2)) A0) ([.ref (Q 0), .int a2] : List Value).toArray s 0 0 A0) (F0 m 5 ls []) := by
    intro k
    induction k with
    | zero =>
      intro i hi H locs hP hD hS ls hl
      obtain rfl : i = 28 := hi
      obtain ⟨z_1, hz_1⟩ : ∃ q, q = (pJ7_fill_53178_28_L5 u a2 28) := ⟨_, rfl⟩
      rw [← hz_1] at hP hD
      refine lv_iload_n hx hb dJ7_fill_53178_5 rfl (lv_at hl 2 rfl) ?_
      refine lv_iload_n hx hb dJ7_fill_53178_6 rfl (lv_at hl 3 rfl) ?_
      refine lv_icmp_ge (tgt := 20) hx hb dJ7_fill_53178_7 (by decide) (fun c_2 => ?_) (fun c_2 => absurd (le_of (C := 28) (N := 28) (by decide)) c_2)
      have e9 : (pJ7_fill_53178_28 u a2) = z_1 := by simp only [pJ7_fill_53178_28, ← hz_1]
      exact W.vret hx hb hr (fun t ht hW => ⟨⟨rfl, by rw [e9, ht]; exact hP⟩, hS.F ht⟩) hS.2.2 dJ7_fill_53178_20
    | succ k ih_5 =>
      intro i hi H locs hP hD hS ls hl
      have hlt : i < 28 := by omega
      refine lv_iload_n hx hb dJ7_fill_53178_5 rfl (lv_at hl 2 rfl) ?_
      refine lv_iload_n hx hb dJ7_fill_53178_6 rfl (lv_at hl 3 rfl) ?_
      refine lv_icmp_ge (tgt := 20) hx hb dJ7_fill_53178_7 (by decide) (fun c_3 => absurd c_3 (nle_of (C := 28) (N := 28) (by decide) hlt (by decide))) (fun c_3 => ?_)
      refine lv_aload_n hx hb dJ7_fill_53178_10 rfl (lv_at hl 0 rfl) ?_
      refine lv_iload_n hx hb dJ7_fill_53178_11 rfl (lv_at hl 2 rfl) ?_
      refine lv_iload_n hx hb dJ7_fill_53178_12 rfl (lv_at hl 1 rfl) ?_
      obtain ⟨z_4, hz_4⟩ : ∃ q, q = (upd ((pJ7_fill_53178_28_L5 u a2 i) 0) i a2) := ⟨_, rfl⟩
      refine va_iast (D := D) (f := ((pJ7_fill_53178_28_L5 u a2 i) 0)) hx hb hK.1 hP hD hS 0 1 rfl rfl (vp_in_nI (Nat.lt_of_lt_of_le hlt (by decide)) (by decide)) dJ7_fill_53178_13 (fun H locs hP hD hS => ?_)
      rw [nI_clamp (Nat.lt_trans hlt (by decide))] at hP hD
      have hP : va_P D vwCl (wQ cyI 28 Q (va_up (pJ7_fill_53178_28_L5 u a2 i) 0 (upd ((pJ7_fill_53178_28_L5 u a2 i) 0) i a2))) H := hP
      have hD : va_D A0 (wQ cyI 28 Q (va_up (pJ7_fill_53178_28_L5 u a2 i) 0 (upd ((pJ7_fill_53178_28_L5 u a2 i) 0) i a2))) := hD
      rw [← hz_4] at hP hD
      refine lv_iinc (v := (nI (i + 1))) (lv' := [(2, .int (nI (i + 1))), (0, .ref (Q 0)), (1, .int a2), (3, .int 28)]) hx hb dJ7_fill_53178_14 hl (k := 2) rfl (nI_succ i).symm (by decide) rfl (fun ls hl => ?_)
      refine lv_goto (tgt := 5) hx hb dJ7_fill_53178_17 (by decide) ?_
      have e8 : pJ7_fill_53178_28_L5 u a2 (i + 1) = (va_up (pJ7_fill_53178_28_L5 u a2 i) 0 z_4) := by rw [pJ7_fill_53178_28_L5_s] <;> simp only [← hz_4]
      exact ih_5 (i + 1) (by omega) _ _ (by rw [e8]; exact hP) (by rw [e8]; exact hD) hS ls (lv_sub hl [1, 2, 0, 3] rfl)
  exact key_5 28 0 (Nat.zero_add 28) _ _ (hP) (hD) hS ls (lv_sub hl [2, 3, 1, 0] rfl)
theorem gr_in {i : Nat} (h : i < 28) (hg : ¬ pX4_isGangway (nI i) = 0) : vp_in (pX4_greaterRoof (nI i)) 16 := by
  revert i
  unfold vp_in
  decide +kernel
theorem lr_in {i : Nat} (h : i < 28) (hg : ¬ pX4_isGangway (nI i) = 0) : vp_in (pX4_lesserRoof (nI i)) 16 := by
  revert i
  unfold vp_in
  decide +kernel
def pX5_rename_L2 (g : (Nat → Nat → Int32)) (a1 : Int32) (a2 : Int32) : Nat → (Nat → Nat → Int32) := fo (fun i x_i => (if ((x_i 0) i) = a1 then (va_up x_i 0 (upd (x_i 0) i a2)) else x_i)) g
theorem pX5_rename_L2_s (g : (Nat → Nat → Int32)) (a1 : Int32) (a2 : Int32) (i : Nat) : pX5_rename_L2 g a1 a2 (i + 1) = (if (((pX5_rename_L2 g a1 a2 i) 0) i) = a1 then (va_up (pX5_rename_L2 g a1 a2 i) 0 (upd ((pX5_rename_L2 g a1 a2 i) 0) i a2)) else (pX5_rename_L2 g a1 a2 i)) := rfl
theorem pX5_rename_L2_0 (g : (Nat → Nat → Int32)) (a1 : Int32) (a2 : Int32) : pX5_rename_L2 g a1 a2 0 = g := rfl
def pX5_rename (g : (Nat → Nat → Int32)) (a1 : Int32) (a2 : Int32) : (Nat → Nat → Int32) := (pX5_rename_L2 g a1 a2 16)
set_option maxHeartbeats 4000000 in
set_option maxRecDepth 100000 in
theorem kX5_rename (l : Launch) (D : va_G) (cyC cyI cyO : ClassId) (Y : Nat → Nat) (g : (Nat → Nat → Int32)) (a1 : Int32) (a2 : Int32) : MU l yX5_rename (Ty yX5_rename cX5_rename 4 none) ({ frames := 0, cells := 0, slots := 0, locals := 0 } : Room) D cyC cyI cyO (wWy cyI Y g) [.ref (Y 0), .int a1, .int a2] none (wWy cyI Y (pX5_rename g a1 a2)) := by
  intro sz
  refine Met.ofW (cc := cX5_rename) (maxL := 4) (ret := none) (by decide) rfl ?_
  intro p e s m args below meth cd s₁ B hml hv
  obtain ⟨rfl, hsz, hP, hK, hD0⟩ := hv
  have hx := B.exec
  have hb := B.bytes
  have hr := B.returns
  have hts : ∀ w ∈ TB, w.before ([.ref (Y 0), .int a1, .int a2] : List Value).toArray s = true := fun w h => atoms_spec (ws := (Ty yX5_rename cX5_rename 4 none)) B.pre w (List.mem_cons_of_mem _ h)
  have hown : s.vm.findClass RX5 = some m.cls := findClass_of_methodNamed B.named
  have hlocks := B.notSynchronized
  subst hsz
  have hD := hD0.self (sz := s.heap.size)
  have hA : ∀ q : Nat, s.heap.size ≤ q → (va_A (wWy cyI Y g) s.heap.size) q := fun q h => Or.inr h
  generalize hAe : va_A (wWy cyI Y g) s.heap.size = A0 at hD hA ⊢
  have hS : va_S A0 s.heap s.heap [] := va_S.rf
  have hl := lv_entry ([.ref (Y 0), .int a1, .int a2]) (n := 4) (Nat.le_of_ble_eq_true rfl)
  rw [lg_entry_eq]
  generalize (lg_sl ([.ref (Y 0), .int a1, .int a2]) ++ List.replicate (4 - (lg_sl ([.ref (Y 0), .int a1, .int a2])).length) Slot.unset).toArray = ls at hl ⊢
  have hl : lv_has ls 4 [(0, .ref (Y 0)), (1, .int a1), (2, .int a2)] := hl
  refine lv_iconst (v := 0) hx hb dX5_rename_0 (by decide) ?_
  refine lv_istore_n (lv' := [(3, .int 0), (0, .ref (Y 0)), (1, .int a1), (2, .int a2)]) hx hb dX5_rename_1 rfl hl (by decide) rfl (fun ls hl => ?_)
  have key_2 : ∀ k i : Nat, i + k = 16 → ∀ (H : Heap) (locs : List Loc), va_P D vwCl (wWy cyI Y (pX5_rename_L2 g a1 a2 i)) H → va_D A0 (wWy cyI Y (pX5_rename_L2 g a1 a2 i)) → va_S A0 s.heap H locs → ∀ (ls : Array Slot), lv_has ls 4 [(0, .ref (Y 0)), (1, .int a1), (2, .int a2), (3, .int (nI i))] → W p l e (headSpec (Ty yX5_rename cX5_rename 4 none) ({ frames := 0, cells := 0, slots := 0, locals := 0 } : Room)).room s m ([.ref (Y 0), .int a1, .int a2] : List Value).toArray below meth cd H locs 0 0 (MQ below (MQQ none D (wWy cyI Y (pX5_rename g a1 a2)) A0) ([.ref (Y 0), .int a1, .int a2] : List Value).toArray s 0 0 A0) (F0 m 2 ls []) := by
    intro k
    induction k with
    | zero =>
      intro i hi H locs hP hD hS ls hl
      obtain rfl : i = 16 := hi
      obtain ⟨z_1, hz_1⟩ : ∃ q, q = (pX5_rename_L2 g a1 a2 16) := ⟨_, rfl⟩
      rw [← hz_1] at hP hD
      refine lv_iload_n hx hb dX5_rename_2 rfl (lv_at hl 3 rfl) ?_
      refine lv_bipush (v := 16) hx hb dX5_rename_3 (by decide) ?_
      refine lv_icmp_ge (tgt := 31) hx hb dX5_rename_5 (by decide) (fun c_2 => ?_) (fun c_2 => absurd (le_of (C := 16) (N := 16) (by decide)) c_2)
      have e9 : (pX5_rename g a1 a2) = z_1 := by simp only [pX5_rename, ← hz_1]
      exact W.vret hx hb hr (fun t ht hW => ⟨⟨rfl, by rw [e9, ht]; exact hP⟩, hS.F ht⟩) hS.2.2 dX5_rename_31
    | succ k ih_2 =>
      intro i hi H locs hP hD hS ls hl
      have hlt : i < 16 := by omega
      refine lv_iload_n hx hb dX5_rename_2 rfl (lv_at hl 3 rfl) ?_
      refine lv_bipush (v := 16) hx hb dX5_rename_3 (by decide) ?_
      refine lv_icmp_ge (tgt := 31) hx hb dX5_rename_5 (by decide) (fun c_3 => absurd c_3 (nle_of (C := 16) (N := 16) (by decide) hlt (by decide))) (fun c_3 => ?_)
      refine lv_aload_n hx hb dX5_rename_8 rfl (lv_at hl 0 rfl) ?_
      refine va_get (D := D) (ci := 4) (v := .ref (Y 1)) (C := RX5) (T := TX5) (N := 2) hx hb hts inT_X5 hown hK.1 hP 0 rfl rfl 0 (by decide) (hts _ wfl_RX5_9) (fun _ h9 => h9) rfl dX5_rename_9 ?_
      refine lv_iload_n hx hb dX5_rename_12 rfl (lv_at hl 3 rfl) ?_
      refine va_iald (D := D) (f := ((pX5_rename_L2 g a1 a2 i) 0)) hx hb hK.1 hP 1 1 rfl rfl (vp_in_nI (Nat.lt_of_lt_of_le hlt (by decide)) (by decide)) dX5_rename_13 ?_
      refine W.eq (g2 := F0 m _ ls [.int (((pX5_rename_L2 g a1 a2 i) 0) i)]) (by rw [nI_clamp (Nat.lt_trans hlt (by decide))] <;> rfl) ?_
      refine lv_iload_n hx hb dX5_rename_14 rfl (lv_at hl 1 rfl) ?_
      refine lv_icmp_ne (tgt := 25) hx hb dX5_rename_15 (by decide) (fun c_4 => ?_) (fun c_4 => ?_)
      · refine lv_iinc (v := (nI (i + 1))) (lv' := [(3, .int (nI (i + 1))), (0, .ref (Y 0)), (1, .int a1), (2, .int a2)]) hx hb dX5_rename_25 hl (k := 3) rfl (nI_succ i).symm (by decide) rfl (fun ls hl => ?_)
        refine lv_goto (tgt := 2) hx hb dX5_rename_28 (by decide) ?_
        have e8 : pX5_rename_L2 g a1 a2 (i + 1) = (pX5_rename_L2 g a1 a2 i) := by rw [pX5_rename_L2_s] <;> simp only [if_neg c_4]
        exact ih_2 (i + 1) (by omega) _ _ (by rw [e8]; exact hP) (by rw [e8]; exact hD) hS ls (lv_sub hl [1, 2, 3, 0] rfl)
      · refine lv_aload_n hx hb dX5_rename_18 rfl (lv_at hl 0 rfl) ?_
        refine va_get (D := D) (ci := 4) (v := .ref (Y 1)) (C := RX5) (T := TX5) (N := 2) hx hb hts inT_X5 hown hK.1 hP 0 rfl rfl 0 (by decide) (hts _ wfl_RX5_9) (fun _ h9 => h9) rfl dX5_rename_19 ?_
        refine lv_iload_n hx hb dX5_rename_22 rfl (lv_at hl 3 rfl) ?_
        refine lv_iload_n hx hb dX5_rename_23 rfl (lv_at hl 2 rfl) ?_
        obtain ⟨z_5, hz_5⟩ : ∃ q, q = (upd ((pX5_rename_L2 g a1 a2 i) 0) i a2) := ⟨_, rfl⟩
        refine va_iast (D := D) (f := ((pX5_rename_L2 g a1 a2 i) 0)) hx hb hK.1 hP hD hS 1 1 rfl rfl (vp_in_nI (Nat.lt_of_lt_of_le hlt (by decide)) (by decide)) dX5_rename_24 (fun H locs hP hD hS => ?_)
        rw [nI_clamp (Nat.lt_trans hlt (by decide))] at hP hD
        have hP : va_P D vwCl (wWy cyI Y (va_up (pX5_rename_L2 g a1 a2 i) 0 (upd ((pX5_rename_L2 g a1 a2 i) 0) i a2))) H := hP
        have hD : va_D A0 (wWy cyI Y (va_up (pX5_rename_L2 g a1 a2 i) 0 (upd ((pX5_rename_L2 g a1 a2 i) 0) i a2))) := hD
        rw [← hz_5] at hP hD
        refine lv_iinc (v := (nI (i + 1))) (lv' := [(3, .int (nI (i + 1))), (0, .ref (Y 0)), (1, .int a1), (2, .int a2)]) hx hb dX5_rename_25 hl (k := 3) rfl (nI_succ i).symm (by decide) rfl (fun ls hl => ?_)
        refine lv_goto (tgt := 2) hx hb dX5_rename_28 (by decide) ?_
        have e8 : pX5_rename_L2 g a1 a2 (i + 1) = (va_up (pX5_rename_L2 g a1 a2 i) 0 z_5) := by rw [pX5_rename_L2_s] <;> simp only [← hz_5, if_pos c_4]
        exact ih_2 (i + 1) (by omega) _ _ (by rw [e8]; exact hP) (by rw [e8]; exact hD) hS ls (lv_sub hl [1, 2, 3, 0] rfl)
  exact key_2 16 0 (Nat.zero_add 16) _ _ (hP) (hD) hS ls (lv_sub hl [1, 2, 3, 0] rfl)
theorem bV_X5_rename : BV RX5 yX5_rename cX5_rename 4 none 2 := ⟨wcd_X5_rename, wim_X5_rename, wse_X5_rename, win_RX5, by decide +kernel⟩
def pX5_joinOver_L2 (g : (Nat → Nat → Int32)) (u : (Nat → Nat → Int32)) (w : (Nat → Int32)) (a2 : Int32) : Nat → (Nat → Nat → Int32) := fo (fun i x_i => (if (pX4_isGangway (nI i)) = 0 then x_i else (if ((u 0) i) = a2 then (pX5_rename x_i ((x_i 0) ((pX4_greaterRoof (nI i))).toNatClampNeg) ((x_i 0) ((pX4_lesserRoof (nI i))).toNatClampNeg)) else x_i))) g
theorem pX5_joinOver_L2_s (g : (Nat → Nat → Int32)) (u : (Nat → Nat → Int32)) (w : (Nat → Int32)) (a2 : Int32) (i : Nat) : pX5_joinOver_L2 g u w a2 (i + 1) = (if (pX4_isGangway (nI i)) = 0 then (pX5_joinOver_L2 g u w a2 i) else (if ((u 0) i) = a2 then (pX5_rename (pX5_joinOver_L2 g u w a2 i) (((pX5_joinOver_L2 g u w a2 i) 0) ((pX4_greaterRoof (nI i))).toNatClampNeg) (((pX5_joinOver_L2 g u w a2 i) 0) ((pX4_lesserRoof (nI i))).toNatClampNeg)) else (pX5_joinOver_L2 g u w a2 i))) := rfl
theorem pX5_joinOver_L2_0 (g : (Nat → Nat → Int32)) (u : (Nat → Nat → Int32)) (w : (Nat → Int32)) (a2 : Int32) : pX5_joinOver_L2 g u w a2 0 = g := rfl
def pX5_joinOver (g : (Nat → Nat → Int32)) (u : (Nat → Nat → Int32)) (w : (Nat → Int32)) (a2 : Int32) : (Nat → Nat → Int32) := (pX5_joinOver_L2 g u w a2 28)
set_option maxHeartbeats 4000000 in
set_option maxRecDepth 100000 in
theorem kX5_joinOver (l : Launch) (D : va_G) (cyC cyI cyO : ClassId) (Y : Nat → Nat) (A : Nat → Nat) (g : (Nat → Nat → Int32)) (u : (Nat → Nat → Int32)) (w : (Nat → Int32)) (a2 : Int32) : MU l yX5_joinOver (Ty yX5_joinOver cX5_joinOver 4 none) ({ frames := 2, cells := 0, slots := 0, locals := 42 } : Room) D cyC cyI cyO (wWy cyI Y g ++ (wC cyI A u w)) [.ref (Y 0), .ref (A 0), .int a2] none (wWy cyI Y (pX5_joinOver g u w a2) ++ (wC cyI A u w)) := by
  intro sz
  refine Met.ofW (cc := cX5_joinOver) (maxL := 4) (ret := none) (by decide) rfl ?_
  intro p e s m args below meth cd s₁ B hml hv
  obtain ⟨rfl, hsz, hP, hK, hD0⟩ := hv
  have hx := B.exec
  have hb := B.bytes
  have hr := B.returns
  have hts : ∀ w ∈ TB, w.before ([.ref (Y 0), .ref (A 0), .int a2] : List Value).toArray s = true := fun w h => atoms_spec (ws := (Ty yX5_joinOver cX5_joinOver 4 none)) B.pre w (List.mem_cons_of_mem _ h)
  have hown : s.vm.findClass RX5 = some m.cls := findClass_of_methodNamed B.named
  have hlocks := B.notSynchronized
  subst hsz
  have hD := hD0.self (sz := s.heap.size)
  have hA : ∀ q : Nat, s.heap.size ≤ q → (va_A (wWy cyI Y g ++ (wC cyI A u w)) s.heap.size) q := fun q h => Or.inr h
  generalize hAe : va_A (wWy cyI Y g ++ (wC cyI A u w)) s.heap.size = A0 at hD hA ⊢
  have hS : va_S A0 s.heap s.heap [] := va_S.rf
  have hl := lv_entry ([.ref (Y 0), .ref (A 0), .int a2]) (n := 4) (Nat.le_of_ble_eq_true rfl)
  rw [lg_entry_eq]
  generalize (lg_sl ([.ref (Y 0), .ref (A 0), .int a2]) ++ List.replicate (4 - (lg_sl ([.ref (Y 0), .ref (A 0), .int a2])).length) Slot.unset).toArray = ls at hl ⊢
  have hl : lv_has ls 4 [(0, .ref (Y 0)), (1, .ref (A 0)), (2, .int a2)] := hl
  refine lv_iconst (v := 0) hx hb dX5_joinOver_0 (by decide) ?_
  refine lv_istore_n (lv' := [(3, .int 0), (0, .ref (Y 0)), (1, .ref (A 0)), (2, .int a2)]) hx hb dX5_joinOver_1 rfl hl (by decide) rfl (fun ls hl => ?_)
  have key_2 : ∀ k i : Nat, i + k = 28 → ∀ (H : Heap) (locs : List Loc), va_P D vwCl (wWy cyI Y (pX5_joinOver_L2 g u w a2 i) ++ (wC cyI A u w)) H → va_D A0 (wWy cyI Y (pX5_joinOver_L2 g u w a2 i) ++ (wC cyI A u w)) → va_S A0 s.heap H locs → ∀ (ls : Array Slot), lv_has ls 4 [(0, .ref (Y 0)), (1, .ref (A 0)), (2, .int a2), (3, .int (nI i))] → W p l e (headSpec (Ty yX5_joinOver cX5_joinOver 4 none) ({ frames := 2, cells := 0, slots := 0, locals := 42 } : Room)).room s m ([.ref (Y 0), .ref (A 0), .int a2] : List Value).toArray below meth cd H locs 0 0 (MQ below (MQQ none D (wWy cyI Y (pX5_joinOver g u w a2) ++ (wC cyI A u w)) A0) ([.ref (Y 0), .ref (A 0), .int a2] : List Value).toArray s 0 0 A0) (F0 m 2 ls []) := by
    intro k
    induction k with
    | zero =>
      intro i hi H locs hP hD hS ls hl
      obtain rfl : i = 28 := hi
      obtain ⟨z_1, hz_1⟩ : ∃ q, q = (pX5_joinOver_L2 g u w a2 28) := ⟨_, rfl⟩
      rw [← hz_1] at hP hD
      refine lv_iload_n hx hb dX5_joinOver_2 rfl (lv_at hl 3 rfl) ?_
      refine lv_bipush (v := 28) hx hb dX5_joinOver_3 (by decide) ?_
      refine lv_icmp_ge (tgt := 53) hx hb dX5_joinOver_5 (by decide) (fun c_2 => ?_) (fun c_2 => absurd (le_of (C := 28) (N := 28) (by decide)) c_2)
      have e9 : (pX5_joinOver g u w a2) = z_1 := by simp only [pX5_joinOver, ← hz_1]
      exact W.vret hx hb hr (fun t ht hW => ⟨⟨rfl, by rw [e9, ht]; exact hP⟩, hS.F ht⟩) hS.2.2 dX5_joinOver_53
    | succ k ih_2 =>
      intro i hi H locs hP hD hS ls hl
      have hlt : i < 28 := by omega
      refine lv_iload_n hx hb dX5_joinOver_2 rfl (lv_at hl 3 rfl) ?_
      refine lv_bipush (v := 28) hx hb dX5_joinOver_3 (by decide) ?_
      refine lv_icmp_ge (tgt := 53) hx hb dX5_joinOver_5 (by decide) (fun c_3 => absurd c_3 (nle_of (C := 28) (N := 28) (by decide) hlt (by decide))) (fun c_3 => ?_)
      refine lv_iload_n hx hb dX5_joinOver_8 rfl (lv_at hl 3 rfl) ?_
      refine rS (As := [.int (nI i)]) (rest := []) hx hb hml hown hts hl.1 (kX4_isGangway l D cyC cyI cyO (nI i)) bS_X4_isGangway  wml_RX5_22 ⟨rfl, rfl⟩ ⟨Nat.le_of_ble_eq_true rfl, Nat.le_of_ble_eq_true rfl, Nat.zero_le _, Nat.zero_le _⟩ [] rfl hP hK rfl rfl (Nat.le_of_ble_eq_true rfl) dX5_joinOver_9 ?_
      refine lv_if_eq (tgt := 47) hx hb dX5_joinOver_12 (by decide) (fun c_4 => ?_) (fun c_4 => ?_)
      · refine lv_iinc (v := (nI (i + 1))) (lv' := [(3, .int (nI (i + 1))), (0, .ref (Y 0)), (1, .ref (A 0)), (2, .int a2)]) hx hb dX5_joinOver_47 hl (k := 3) rfl (nI_succ i).symm (by decide) rfl (fun ls hl => ?_)
        refine lv_goto (tgt := 2) hx hb dX5_joinOver_50 (by decide) ?_
        have e8 : pX5_joinOver_L2 g u w a2 (i + 1) = (pX5_joinOver_L2 g u w a2 i) := by rw [pX5_joinOver_L2_s] <;> simp only [if_pos c_4]
        exact ih_2 (i + 1) (by omega) _ _ (by rw [e8]; exact hP) (by rw [e8]; exact hD) hS ls (lv_sub hl [1, 2, 3, 0] rfl)
      · refine lv_aload_n hx hb dX5_joinOver_15 rfl (lv_at hl 1 rfl) ?_
        refine va_get (D := D) (ci := 0) (v := .ref (A 1)) (C := RX0) (T := TX0) (N := 19) hx hb hts inT_X0 hown hK.1 hP 3 rfl rfl 0 (by decide) (hts _ wfl_RX5_28) (fun _ h9 => h9) rfl dX5_joinOver_16 ?_
        refine lv_iload_n hx hb dX5_joinOver_19 rfl (lv_at hl 3 rfl) ?_
        refine va_iald (D := D) (f := (u 0)) hx hb hK.1 hP 4 1 rfl rfl (vp_in_nI (Nat.lt_of_lt_of_le hlt (by decide)) (by decide)) dX5_joinOver_20 ?_
        refine W.eq (g2 := F0 m _ ls [.int ((u 0) i)]) (by rw [nI_clamp (Nat.lt_trans hlt (by decide))] <;> rfl) ?_
        refine lv_iload_n hx hb dX5_joinOver_21 rfl (lv_at hl 2 rfl) ?_
        refine lv_icmp_ne (tgt := 47) hx hb dX5_joinOver_22 (by decide) (fun c_5 => ?_) (fun c_5 => ?_)
        · refine lv_iinc (v := (nI (i + 1))) (lv' := [(3, .int (nI (i + 1))), (0, .ref (Y 0)), (1, .ref (A 0)), (2, .int a2)]) hx hb dX5_joinOver_47 hl (k := 3) rfl (nI_succ i).symm (by decide) rfl (fun ls hl => ?_)
          refine lv_goto (tgt := 2) hx hb dX5_joinOver_50 (by decide) ?_
          have e8 : pX5_joinOver_L2 g u w a2 (i + 1) = (pX5_joinOver_L2 g u w a2 i) := by rw [pX5_joinOver_L2_s] <;> simp only [if_neg c_4, if_neg c_5]
          exact ih_2 (i + 1) (by omega) _ _ (by rw [e8]; exact hP) (by rw [e8]; exact hD) hS ls (lv_sub hl [1, 2, 3, 0] rfl)
        · refine lv_aload_n hx hb dX5_joinOver_25 rfl (lv_at hl 0 rfl) ?_
          refine lv_aload_n hx hb dX5_joinOver_26 rfl (lv_at hl 0 rfl) ?_
          refine va_get (D := D) (ci := 4) (v := .ref (Y 1)) (C := RX5) (T := TX5) (N := 2) hx hb hts inT_X5 hown hK.1 hP 0 rfl rfl 0 (by decide) (hts _ wfl_RX5_9) (fun _ h9 => h9) rfl dX5_joinOver_27 ?_
          refine lv_iload_n hx hb dX5_joinOver_30 rfl (lv_at hl 3 rfl) ?_
          refine rS (As := [.int (nI i)]) (rest := [.ref (Y 1), .ref (Y 0)]) hx hb hml hown hts hl.1 (kX4_greaterRoof l D cyC cyI cyO (nI i)) bS_X4_greaterRoof  wml_RX5_33 ⟨rfl, rfl⟩ ⟨Nat.le_of_ble_eq_true rfl, Nat.le_of_ble_eq_true rfl, Nat.zero_le _, Nat.zero_le _⟩ [] rfl hP hK rfl rfl (Nat.le_of_ble_eq_true rfl) dX5_joinOver_31 ?_
          refine va_iald (D := D) (f := ((pX5_joinOver_L2 g u w a2 i) 0)) hx hb hK.1 hP 1 1 rfl rfl (gr_in hlt c_4) dX5_joinOver_34 ?_
          refine lv_aload_n hx hb dX5_joinOver_35 rfl (lv_at hl 0 rfl) ?_
          refine va_get (D := D) (ci := 4) (v := .ref (Y 1)) (C := RX5) (T := TX5) (N := 2) hx hb hts inT_X5 hown hK.1 hP 0 rfl rfl 0 (by decide) (hts _ wfl_RX5_9) (fun _ h9 => h9) rfl dX5_joinOver_36 ?_
          refine lv_iload_n hx hb dX5_joinOver_39 rfl (lv_at hl 3 rfl) ?_
          refine rS (As := [.int (nI i)]) (rest := [.ref (Y 1), .int (((pX5_joinOver_L2 g u w a2 i) 0) ((pX4_greaterRoof (nI i))).toNatClampNeg), .ref (Y 0)]) hx hb hml hown hts hl.1 (kX4_lesserRoof l D cyC cyI cyO (nI i)) bS_X4_lesserRoof  wml_RX5_37 ⟨rfl, rfl⟩ ⟨Nat.le_of_ble_eq_true rfl, Nat.le_of_ble_eq_true rfl, Nat.zero_le _, Nat.zero_le _⟩ [] rfl hP hK rfl rfl (Nat.le_of_ble_eq_true rfl) dX5_joinOver_40 ?_
          refine va_iald (D := D) (f := ((pX5_joinOver_L2 g u w a2 i) 0)) hx hb hK.1 hP 1 1 rfl rfl (lr_in hlt c_4) dX5_joinOver_43 ?_
          obtain ⟨z_6, hz_6⟩ : ∃ q, q = (pX5_rename (pX5_joinOver_L2 g u w a2 i) (((pX5_joinOver_L2 g u w a2 i) 0) ((pX4_greaterRoof (nI i))).toNatClampNeg) (((pX5_joinOver_L2 g u w a2 i) 0) ((pX4_lesserRoof (nI i))).toNatClampNeg)) := ⟨_, rfl⟩
          refine mV (ws := (wWy cyI Y (pX5_joinOver_L2 g u w a2 i) ++ (wC cyI A u w))) (ws' := (wWy cyI Y z_6 ++ (wC cyI A u w))) (As := [.int (((pX5_joinOver_L2 g u w a2 i) 0) ((pX4_greaterRoof (nI i))).toNatClampNeg), .int (((pX5_joinOver_L2 g u w a2 i) 0) ((pX4_lesserRoof (nI i))).toNatClampNeg)]) (rest := []) hx hb hml hown hts hl.1 (WS := (wWy cyI Y (pX5_joinOver_L2 g u w a2 i))) (WS' := (wWy cyI Y z_6)) (ro := none) (by rw [hz_6]; exact kX5_rename l D cyC cyI cyO Y (pX5_joinOver_L2 g u w a2 i) (((pX5_joinOver_L2 g u w a2 i) 0) ((pX4_greaterRoof (nI i))).toNatClampNeg) (((pX5_joinOver_L2 g u w a2 i) 0) ((pX4_lesserRoof (nI i))).toNatClampNeg)) bV_X5_rename  wml_RX5_40 ⟨rfl, rfl⟩ ⟨Nat.le_of_ble_eq_true rfl, Nat.le_of_ble_eq_true rfl, Nat.zero_le _, Nat.zero_le _⟩ [0, 1, 2] rfl rfl rfl rfl rfl hP hD hS hA hK 0 rfl rfl rfl rfl rfl (Nat.le_of_ble_eq_true rfl) dX5_joinOver_44 (fun H locs hP hD hS => ?_)
          refine lv_iinc (v := (nI (i + 1))) (lv' := [(3, .int (nI (i + 1))), (0, .ref (Y 0)), (1, .ref (A 0)), (2, .int a2)]) hx hb dX5_joinOver_47 hl (k := 3) rfl (nI_succ i).symm (by decide) rfl (fun ls hl => ?_)
          refine lv_goto (tgt := 2) hx hb dX5_joinOver_50 (by decide) ?_
          have e8 : pX5_joinOver_L2 g u w a2 (i + 1) = z_6 := by rw [pX5_joinOver_L2_s] <;> simp only [← hz_6, if_neg c_4, if_pos c_5]
          exact ih_2 (i + 1) (by omega) _ _ (by rw [e8]; exact hP) (by rw [e8]; exact hD) hS ls (lv_sub hl [1, 2, 3, 0] rfl)
  exact key_2 28 0 (Nat.zero_add 28) _ _ (hP) (hD) hS ls (lv_sub hl [1, 2, 3, 0] rfl)
theorem bV_X5_joinOver : BV RX5 yX5_joinOver cX5_joinOver 4 none 2 := ⟨wcd_X5_joinOver, wim_X5_joinOver, wse_X5_joinOver, win_RX5, by decide +kernel⟩
def pX5_raise (g : (Nat → Nat → Int32)) (a1 : Int32) (a2 : Int32) : Int32 × (Nat → Nat → Int32) := (if ((g 1) (a1).toNatClampNeg) < a2 then (1, (va_up g 1 (upd (g 1) (a1).toNatClampNeg a2))) else (0, g))
set_option maxHeartbeats 4000000 in
set_option maxRecDepth 100000 in
theorem kX5_raise (l : Launch) (D : va_G) (cyC cyI cyO : ClassId) (Y : Nat → Nat) (g : (Nat → Nat → Int32)) (a1 : Int32) (a2 : Int32) (h1 : vp_in a1 16) : MU l yX5_raise (Ty yX5_raise cX5_raise 3 (some .boolean)) ({ frames := 0, cells := 0, slots := 0, locals := 0 } : Room) D cyC cyI cyO (wWy cyI Y g) [.ref (Y 0), .int a1, .int a2] (some (.int (pX5_raise g a1 a2).1)) (wWy cyI Y (pX5_raise g a1 a2).2) := by
  intro sz
  refine Met.ofW (cc := cX5_raise) (maxL := 3) (ret := (some .boolean)) (by decide) rfl ?_
  intro p e s m args below meth cd s₁ B hml hv
  obtain ⟨rfl, hsz, hP, hK, hD0⟩ := hv
  have hx := B.exec
  have hb := B.bytes
  have hr := B.returns
  have hts : ∀ w ∈ TB, w.before ([.ref (Y 0), .int a1, .int a2] : List Value).toArray s = true := fun w h => atoms_spec (ws := (Ty yX5_raise cX5_raise 3 (some .boolean))) B.pre w (List.mem_cons_of_mem _ h)
  have hown : s.vm.findClass RX5 = some m.cls := findClass_of_methodNamed B.named
  have hlocks := B.notSynchronized
  subst hsz
  have hD := hD0.self (sz := s.heap.size)
  have hA : ∀ q : Nat, s.heap.size ≤ q → (va_A (wWy cyI Y g) s.heap.size) q := fun q h => Or.inr h
  generalize hAe : va_A (wWy cyI Y g) s.heap.size = A0 at hD hA ⊢
  have hS : va_S A0 s.heap s.heap [] := va_S.rf
  have hl := lv_entry ([.ref (Y 0), .int a1, .int a2]) (n := 3) (Nat.le_of_ble_eq_true rfl)
  rw [lg_entry_eq]
  generalize (lg_sl ([.ref (Y 0), .int a1, .int a2]) ++ List.replicate (3 - (lg_sl ([.ref (Y 0), .int a1, .int a2])).length) Slot.unset).toArray = ls at hl ⊢
  have hl : lv_has ls 3 [(0, .ref (Y 0)), (1, .int a1), (2, .int a2)] := hl
  refine lv_iload_n hx hb dX5_raise_0 rfl (lv_at hl 2 rfl) ?_
  refine lv_aload_n hx hb dX5_raise_1 rfl (lv_at hl 0 rfl) ?_
  refine va_get (D := D) (ci := 4) (v := .ref (Y 2)) (C := RX5) (T := TX5) (N := 2) hx hb hts inT_X5 hown hK.1 hP 0 rfl rfl 1 (by decide) (hts _ wfl_RX5_15) (fun _ h9 => h9) rfl dX5_raise_2 ?_
  refine lv_iload_n hx hb dX5_raise_5 rfl (lv_at hl 1 rfl) ?_
  refine va_iald (D := D) (f := (g 1)) hx hb hK.1 hP 2 1 rfl rfl h1 dX5_raise_6 ?_
  refine lv_icmp_gt (tgt := 12) hx hb dX5_raise_7 (by decide) (fun c_1 => ?_) (fun c_1 => ?_)
  · refine lv_aload_n hx hb dX5_raise_12 rfl (lv_at hl 0 rfl) ?_
    refine va_get (D := D) (ci := 4) (v := .ref (Y 2)) (C := RX5) (T := TX5) (N := 2) hx hb hts inT_X5 hown hK.1 hP 0 rfl rfl 1 (by decide) (hts _ wfl_RX5_15) (fun _ h9 => h9) rfl dX5_raise_13 ?_
    refine lv_iload_n hx hb dX5_raise_16 rfl (lv_at hl 1 rfl) ?_
    refine lv_iload_n hx hb dX5_raise_17 rfl (lv_at hl 2 rfl) ?_
    obtain ⟨z_2, hz_2⟩ : ∃ q, q = (upd (g 1) (a1).toNatClampNeg a2) := ⟨_, rfl⟩
    refine va_iast (D := D) (f := (g 1)) hx hb hK.1 hP hD hS 2 1 rfl rfl h1 dX5_raise_18 (fun H locs hP hD hS => ?_)
    have hP : va_P D vwCl (wWy cyI Y (va_up g 1 (upd (g 1) (a1).toNatClampNeg a2))) H := hP
    have hD : va_D A0 (wWy cyI Y (va_up g 1 (upd (g 1) (a1).toNatClampNeg a2))) := hD
    rw [← hz_2] at hP hD
    refine lv_iconst (v := 1) hx hb dX5_raise_19 (by decide) ?_
    have e9 : (pX5_raise g a1 a2) = (1, (va_up g 1 z_2)) := by simp only [pX5_raise, ← hz_2, if_pos c_1]
    have e9_0 : (pX5_raise g a1 a2).1 = 1 := by rw [e9]
    have e9_1 : (pX5_raise g a1 a2).2 = (va_up g 1 z_2) := by rw [e9]
    exact W.zret (ty := .boolean) (v := 1) hx hb hr (by rfl) (fun t ht hW => ⟨⟨by rw [e9_0], by rw [e9_1, ht]; exact hP⟩, hS.F ht⟩) hS.2.2 dX5_raise_20
  · refine lv_iconst (v := 0) hx hb dX5_raise_10 (by decide) ?_
    have e9 : (pX5_raise g a1 a2) = (0, g) := by simp only [pX5_raise, if_neg c_1]
    have e9_0 : (pX5_raise g a1 a2).1 = 0 := by rw [e9]
    have e9_1 : (pX5_raise g a1 a2).2 = g := by rw [e9]
    exact W.zret (ty := .boolean) (v := 0) hx hb hr (by rfl) (fun t ht hW => ⟨⟨by rw [e9_0], by rw [e9_1, ht]; exact hP⟩, hS.F ht⟩) hS.2.2 dX5_raise_11
theorem z_X5_raise (g : (Nat → Nat → Int32)) (a1 : Int32) (a2 : Int32) : (pX5_raise g a1 a2).1 = 0 ∨ (pX5_raise g a1 a2).1 = 1 := by
  unfold pX5_raise
  (repeat' split) <;> first | with_reducible exact Or.inl rfl | with_reducible exact Or.inr rfl
theorem bV_X5_raise : BV RX5 yX5_raise cX5_raise 3 (some .boolean) 2 := ⟨wcd_X5_raise, wim_X5_raise, wse_X5_raise, win_RX5, by decide +kernel⟩
def pX5_spread_L4 (g : (Nat → Nat → Int32)) (u : (Nat → Nat → Int32)) (w : (Nat → Int32)) : Nat → Int32 × (Nat → Nat → Int32) := fo (fun i x_i => (if (pX4_isGangway (nI i)) = 0 then (x_i.1, x_i.2) else (if x_i.1 = 0 then (if (pX5_raise x_i.2 (pX4_greaterRoof (nI i)) (if ((u 0) i) < ((x_i.2 1) ((pX4_lesserRoof (nI i))).toNatClampNeg) then ((u 0) i) else ((x_i.2 1) ((pX4_lesserRoof (nI i))).toNatClampNeg))).1 = 0 then (if (pX5_raise (pX5_raise x_i.2 (pX4_greaterRoof (nI i)) (if ((u 0) i) < ((x_i.2 1) ((pX4_lesserRoof (nI i))).toNatClampNeg) then ((u 0) i) else ((x_i.2 1) ((pX4_lesserRoof (nI i))).toNatClampNeg))).2 (pX4_lesserRoof (nI i)) (if ((u 0) i) < (((pX5_raise x_i.2 (pX4_greaterRoof (nI i)) (if ((u 0) i) < ((x_i.2 1) ((pX4_lesserRoof (nI i))).toNatClampNeg) then ((u 0) i) else ((x_i.2 1) ((pX4_lesserRoof (nI i))).toNatClampNeg))).2 1) ((pX4_greaterRoof (nI i))).toNatClampNeg) then ((u 0) i) else (((pX5_raise x_i.2 (pX4_greaterRoof (nI i)) (if ((u 0) i) < ((x_i.2 1) ((pX4_lesserRoof (nI i))).toNatClampNeg) then ((u 0) i) else ((x_i.2 1) ((pX4_lesserRoof (nI i))).toNatClampNeg))).2 1) ((pX4_greaterRoof (nI i))).toNatClampNeg))).1 = 0 then (0, (pX5_raise (pX5_raise x_i.2 (pX4_greaterRoof (nI i)) (if ((u 0) i) < ((x_i.2 1) ((pX4_lesserRoof (nI i))).toNatClampNeg) then ((u 0) i) else ((x_i.2 1) ((pX4_lesserRoof (nI i))).toNatClampNeg))).2 (pX4_lesserRoof (nI i)) (if ((u 0) i) < (((pX5_raise x_i.2 (pX4_greaterRoof (nI i)) (if ((u 0) i) < ((x_i.2 1) ((pX4_lesserRoof (nI i))).toNatClampNeg) then ((u 0) i) else ((x_i.2 1) ((pX4_lesserRoof (nI i))).toNatClampNeg))).2 1) ((pX4_greaterRoof (nI i))).toNatClampNeg) then ((u 0) i) else (((pX5_raise x_i.2 (pX4_greaterRoof (nI i)) (if ((u 0) i) < ((x_i.2 1) ((pX4_lesserRoof (nI i))).toNatClampNeg) then ((u 0) i) else ((x_i.2 1) ((pX4_lesserRoof (nI i))).toNatClampNeg))).2 1) ((pX4_greaterRoof (nI i))).toNatClampNeg))).2) else (1, (pX5_raise (pX5_raise x_i.2 (pX4_greaterRoof (nI i)) (if ((u 0) i) < ((x_i.2 1) ((pX4_lesserRoof (nI i))).toNatClampNeg) then ((u 0) i) else ((x_i.2 1) ((pX4_lesserRoof (nI i))).toNatClampNeg))).2 (pX4_lesserRoof (nI i)) (if ((u 0) i) < (((pX5_raise x_i.2 (pX4_greaterRoof (nI i)) (if ((u 0) i) < ((x_i.2 1) ((pX4_lesserRoof (nI i))).toNatClampNeg) then ((u 0) i) else ((x_i.2 1) ((pX4_lesserRoof (nI i))).toNatClampNeg))).2 1) ((pX4_greaterRoof (nI i))).toNatClampNeg) then ((u 0) i) else (((pX5_raise x_i.2 (pX4_greaterRoof (nI i)) (if ((u 0) i) < ((x_i.2 1) ((pX4_lesserRoof (nI i))).toNatClampNeg) then ((u 0) i) else ((x_i.2 1) ((pX4_lesserRoof (nI i))).toNatClampNeg))).2 1) ((pX4_greaterRoof (nI i))).toNatClampNeg))).2)) else (1, (pX5_raise (pX5_raise x_i.2 (pX4_greaterRoof (nI i)) (if ((u 0) i) < ((x_i.2 1) ((pX4_lesserRoof (nI i))).toNatClampNeg) then ((u 0) i) else ((x_i.2 1) ((pX4_lesserRoof (nI i))).toNatClampNeg))).2 (pX4_lesserRoof (nI i)) (if ((u 0) i) < (((pX5_raise x_i.2 (pX4_greaterRoof (nI i)) (if ((u 0) i) < ((x_i.2 1) ((pX4_lesserRoof (nI i))).toNatClampNeg) then ((u 0) i) else ((x_i.2 1) ((pX4_lesserRoof (nI i))).toNatClampNeg))).2 1) ((pX4_greaterRoof (nI i))).toNatClampNeg) then ((u 0) i) else (((pX5_raise x_i.2 (pX4_greaterRoof (nI i)) (if ((u 0) i) < ((x_i.2 1) ((pX4_lesserRoof (nI i))).toNatClampNeg) then ((u 0) i) else ((x_i.2 1) ((pX4_lesserRoof (nI i))).toNatClampNeg))).2 1) ((pX4_greaterRoof (nI i))).toNatClampNeg))).2)) else (1, (pX5_raise (pX5_raise x_i.2 (pX4_greaterRoof (nI i)) (if ((u 0) i) < ((x_i.2 1) ((pX4_lesserRoof (nI i))).toNatClampNeg) then ((u 0) i) else ((x_i.2 1) ((pX4_lesserRoof (nI i))).toNatClampNeg))).2 (pX4_lesserRoof (nI i)) (if ((u 0) i) < (((pX5_raise x_i.2 (pX4_greaterRoof (nI i)) (if ((u 0) i) < ((x_i.2 1) ((pX4_lesserRoof (nI i))).toNatClampNeg) then ((u 0) i) else ((x_i.2 1) ((pX4_lesserRoof (nI i))).toNatClampNeg))).2 1) ((pX4_greaterRoof (nI i))).toNatClampNeg) then ((u 0) i) else (((pX5_raise x_i.2 (pX4_greaterRoof (nI i)) (if ((u 0) i) < ((x_i.2 1) ((pX4_lesserRoof (nI i))).toNatClampNeg) then ((u 0) i) else ((x_i.2 1) ((pX4_lesserRoof (nI i))).toNatClampNeg))).2 1) ((pX4_greaterRoof (nI i))).toNatClampNeg))).2)))) (0, g)
theorem pX5_spread_L4_s (g : (Nat → Nat → Int32)) (u : (Nat → Nat → Int32)) (w : (Nat → Int32)) (i : Nat) : pX5_spread_L4 g u w (i + 1) = (if (pX4_isGangway (nI i)) = 0 then ((pX5_spread_L4 g u w i).1, (pX5_spread_L4 g u w i).2) else (if (pX5_spread_L4 g u w i).1 = 0 then (if (pX5_raise (pX5_spread_L4 g u w i).2 (pX4_greaterRoof (nI i)) (if ((u 0) i) < (((pX5_spread_L4 g u w i).2 1) ((pX4_lesserRoof (nI i))).toNatClampNeg) then ((u 0) i) else (((pX5_spread_L4 g u w i).2 1) ((pX4_lesserRoof (nI i))).toNatClampNeg))).1 = 0 then (if (pX5_raise (pX5_raise (pX5_spread_L4 g u w i).2 (pX4_greaterRoof (nI i)) (if ((u 0) i) < (((pX5_spread_L4 g u w i).2 1) ((pX4_lesserRoof (nI i))).toNatClampNeg) then ((u 0) i) else (((pX5_spread_L4 g u w i).2 1) ((pX4_lesserRoof (nI i))).toNatClampNeg))).2 (pX4_lesserRoof (nI i)) (if ((u 0) i) < (((pX5_raise (pX5_spread_L4 g u w i).2 (pX4_greaterRoof (nI i)) (if ((u 0) i) < (((pX5_spread_L4 g u w i).2 1) ((pX4_lesserRoof (nI i))).toNatClampNeg) then ((u 0) i) else (((pX5_spread_L4 g u w i).2 1) ((pX4_lesserRoof (nI i))).toNatClampNeg))).2 1) ((pX4_greaterRoof (nI i))).toNatClampNeg) then ((u 0) i) else (((pX5_raise (pX5_spread_L4 g u w i).2 (pX4_greaterRoof (nI i)) (if ((u 0) i) < (((pX5_spread_L4 g u w i).2 1) ((pX4_lesserRoof (nI i))).toNatClampNeg) then ((u 0) i) else (((pX5_spread_L4 g u w i).2 1) ((pX4_lesserRoof (nI i))).toNatClampNeg))).2 1) ((pX4_greaterRoof (nI i))).toNatClampNeg))).1 = 0 then (0, (pX5_raise (pX5_raise (pX5_spread_L4 g u w i).2 (pX4_greaterRoof (nI i)) (if ((u 0) i) < (((pX5_spread_L4 g u w i).2 1) ((pX4_lesserRoof (nI i))).toNatClampNeg) then ((u 0) i) else (((pX5_spread_L4 g u w i).2 1) ((pX4_lesserRoof (nI i))).toNatClampNeg))).2 (pX4_lesserRoof (nI i)) (if ((u 0) i) < (((pX5_raise (pX5_spread_L4 g u w i).2 (pX4_greaterRoof (nI i)) (if ((u 0) i) < (((pX5_spread_L4 g u w i).2 1) ((pX4_lesserRoof (nI i))).toNatClampNeg) then ((u 0) i) else (((pX5_spread_L4 g u w i).2 1) ((pX4_lesserRoof (nI i))).toNatClampNeg))).2 1) ((pX4_greaterRoof (nI i))).toNatClampNeg) then ((u 0) i) else (((pX5_raise (pX5_spread_L4 g u w i).2 (pX4_greaterRoof (nI i)) (if ((u 0) i) < (((pX5_spread_L4 g u w i).2 1) ((pX4_lesserRoof (nI i))).toNatClampNeg) then ((u 0) i) else (((pX5_spread_L4 g u w i).2 1) ((pX4_lesserRoof (nI i))).toNatClampNeg))).2 1) ((pX4_greaterRoof (nI i))).toNatClampNeg))).2) else (1, (pX5_raise (pX5_raise (pX5_spread_L4 g u w i).2 (pX4_greaterRoof (nI i)) (if ((u 0) i) < (((pX5_spread_L4 g u w i).2 1) ((pX4_lesserRoof (nI i))).toNatClampNeg) then ((u 0) i) else (((pX5_spread_L4 g u w i).2 1) ((pX4_lesserRoof (nI i))).toNatClampNeg))).2 (pX4_lesserRoof (nI i)) (if ((u 0) i) < (((pX5_raise (pX5_spread_L4 g u w i).2 (pX4_greaterRoof (nI i)) (if ((u 0) i) < (((pX5_spread_L4 g u w i).2 1) ((pX4_lesserRoof (nI i))).toNatClampNeg) then ((u 0) i) else (((pX5_spread_L4 g u w i).2 1) ((pX4_lesserRoof (nI i))).toNatClampNeg))).2 1) ((pX4_greaterRoof (nI i))).toNatClampNeg) then ((u 0) i) else (((pX5_raise (pX5_spread_L4 g u w i).2 (pX4_greaterRoof (nI i)) (if ((u 0) i) < (((pX5_spread_L4 g u w i).2 1) ((pX4_lesserRoof (nI i))).toNatClampNeg) then ((u 0) i) else (((pX5_spread_L4 g u w i).2 1) ((pX4_lesserRoof (nI i))).toNatClampNeg))).2 1) ((pX4_greaterRoof (nI i))).toNatClampNeg))).2)) else (1, (pX5_raise (pX5_raise (pX5_spread_L4 g u w i).2 (pX4_greaterRoof (nI i)) (if ((u 0) i) < (((pX5_spread_L4 g u w i).2 1) ((pX4_lesserRoof (nI i))).toNatClampNeg) then ((u 0) i) else (((pX5_spread_L4 g u w i).2 1) ((pX4_lesserRoof (nI i))).toNatClampNeg))).2 (pX4_lesserRoof (nI i)) (if ((u 0) i) < (((pX5_raise (pX5_spread_L4 g u w i).2 (pX4_greaterRoof (nI i)) (if ((u 0) i) < (((pX5_spread_L4 g u w i).2 1) ((pX4_lesserRoof (nI i))).toNatClampNeg) then ((u 0) i) else (((pX5_spread_L4 g u w i).2 1) ((pX4_lesserRoof (nI i))).toNatClampNeg))).2 1) ((pX4_greaterRoof (nI i))).toNatClampNeg) then ((u 0) i) else (((pX5_raise (pX5_spread_L4 g u w i).2 (pX4_greaterRoof (nI i)) (if ((u 0) i) < (((pX5_spread_L4 g u w i).2 1) ((pX4_lesserRoof (nI i))).toNatClampNeg) then ((u 0) i) else (((pX5_spread_L4 g u w i).2 1) ((pX4_lesserRoof (nI i))).toNatClampNeg))).2 1) ((pX4_greaterRoof (nI i))).toNatClampNeg))).2)) else (1, (pX5_raise (pX5_raise (pX5_spread_L4 g u w i).2 (pX4_greaterRoof (nI i)) (if ((u 0) i) < (((pX5_spread_L4 g u w i).2 1) ((pX4_lesserRoof (nI i))).toNatClampNeg) then ((u 0) i) else (((pX5_spread_L4 g u w i).2 1) ((pX4_lesserRoof (nI i))).toNatClampNeg))).2 (pX4_lesserRoof (nI i)) (if ((u 0) i) < (((pX5_raise (pX5_spread_L4 g u w i).2 (pX4_greaterRoof (nI i)) (if ((u 0) i) < (((pX5_spread_L4 g u w i).2 1) ((pX4_lesserRoof (nI i))).toNatClampNeg) then ((u 0) i) else (((pX5_spread_L4 g u w i).2 1) ((pX4_lesserRoof (nI i))).toNatClampNeg))).2 1) ((pX4_greaterRoof (nI i))).toNatClampNeg) then ((u 0) i) else (((pX5_raise (pX5_spread_L4 g u w i).2 (pX4_greaterRoof (nI i)) (if ((u 0) i) < (((pX5_spread_L4 g u w i).2 1) ((pX4_lesserRoof (nI i))).toNatClampNeg) then ((u 0) i) else (((pX5_spread_L4 g u w i).2 1) ((pX4_lesserRoof (nI i))).toNatClampNeg))).2 1) ((pX4_greaterRoof (nI i))).toNatClampNeg))).2))) := rfl
theorem pX5_spread_L4_0 (g : (Nat → Nat → Int32)) (u : (Nat → Nat → Int32)) (w : (Nat → Int32)) : pX5_spread_L4 g u w 0 = (0, g) := rfl
def pX5_spread (g : (Nat → Nat → Int32)) (u : (Nat → Nat → Int32)) (w : (Nat → Int32)) : Int32 × (Nat → Nat → Int32) := ((pX5_spread_L4 g u w 28).1, (pX5_spread_L4 g u w 28).2)
set_option maxHeartbeats 4000000 in
set_option maxRecDepth 100000 in
theorem kX5_spread (l : Launch) (D : va_G) (cyC cyI cyO : ClassId) (Y : Nat → Nat) (A : Nat → Nat) (g : (Nat → Nat → Int32)) (u : (Nat → Nat → Int32)) (w : (Nat → Int32)) : MU l yX5_spread (Ty yX5_spread cX5_spread 8 (some .boolean)) ({ frames := 2, cells := 0, slots := 0, locals := 42 } : Room) D cyC cyI cyO (wWy cyI Y g ++ (wC cyI A u w)) [.ref (Y 0), .ref (A 0)] (some (.int (pX5_spread g u w).1)) (wWy cyI Y (pX5_spread g u w).2 ++ (wC cyI A u w)) := by
  intro sz
  refine Met.ofW (cc := cX5_spread) (maxL := 8) (ret := (some .boolean)) (by decide) rfl ?_
  intro p e s m args below meth cd s₁ B hml hv
  obtain ⟨rfl, hsz, hP, hK, hD0⟩ := hv
  have hx := B.exec
  have hb := B.bytes
  have hr := B.returns
  have hts : ∀ w ∈ TB, w.before ([.ref (Y 0), .ref (A 0)] : List Value).toArray s = true := fun w h => atoms_spec (ws := (Ty yX5_spread cX5_spread 8 (some .boolean))) B.pre w (List.mem_cons_of_mem _ h)
  have hown : s.vm.findClass RX5 = some m.cls := findClass_of_methodNamed B.named
  have hlocks := B.notSynchronized
  subst hsz
  have hD := hD0.self (sz := s.heap.size)
  have hA : ∀ q : Nat, s.heap.size ≤ q → (va_A (wWy cyI Y g ++ (wC cyI A u w)) s.heap.size) q := fun q h => Or.inr h
  generalize hAe : va_A (wWy cyI Y g ++ (wC cyI A u w)) s.heap.size = A0 at hD hA ⊢
  have hS : va_S A0 s.heap s.heap [] := va_S.rf
  have hl := lv_entry ([.ref (Y 0), .ref (A 0)]) (n := 8) (Nat.le_of_ble_eq_true rfl)
  rw [lg_entry_eq]
  generalize (lg_sl ([.ref (Y 0), .ref (A 0)]) ++ List.replicate (8 - (lg_sl ([.ref (Y 0), .ref (A 0)])).length) Slot.unset).toArray = ls at hl ⊢
  have hl : lv_has ls 8 [(0, .ref (Y 0)), (1, .ref (A 0))] := hl
  refine lv_iconst (v := 0) hx hb dX5_spread_0 (by decide) ?_
  refine lv_istore_n (lv' := [(2, .int 0), (0, .ref (Y 0)), (1, .ref (A 0))]) hx hb dX5_spread_1 rfl hl (by decide) rfl (fun ls hl => ?_)
  refine lv_iconst (v := 0) hx hb dX5_spread_2 (by decide) ?_
  refine lv_istore_n (lv' := [(3, .int 0), (2, .int 0), (0, .ref (Y 0)), (1, .ref (A 0))]) hx hb dX5_spread_3 rfl hl (by decide) rfl (fun ls hl => ?_)
  have key_4 : ∀ k i : Nat, i + k = 28 → ((pX5_spread_L4 g u w i).1 = 0 ∨ (pX5_spread_L4 g u w i).1 = 1) → ∀ (H : Heap) (locs : List Loc), va_P D vwCl (wWy cyI Y (pX5_spread_L4 g u w i).2 ++ (wC cyI A u w)) H → va_D A0 (wWy cyI Y (pX5_spread_L4 g u w i).2 ++ (wC cyI A u w)) → va_S A0 s.heap H locs → ∀ (ls : Array Slot), lv_has ls 8 [(0, .ref (Y 0)), (1, .ref (A 0)), (2, .int (pX5_spread_L4 g u w i).1), (3, .int (nI i))] → W p l e (headSpec (Ty yX5_spread cX5_spread 8 (some .boolean)) ({ frames := 2, cells := 0, slots := 0, locals := 42 } : Room)).room s m ([.ref (Y 0), .ref (A 0)] : List Value).toArray below meth cd H locs 0 0 (MQ below (MQQ (some (.int (pX5_spread g u w).1)) D (wWy cyI Y (pX5_spread g u w).2 ++ (wC cyI A u w)) A0) ([.ref (Y 0), .ref (A 0)] : List Value).toArray s 0 0 A0) (F0 m 4 ls []) := by
    intro k
    induction k with
    | zero =>
      intro i hi hz01 H locs hP hD hS ls hl
      obtain rfl : i = 28 := hi
      obtain ⟨z_1, hz_1⟩ : ∃ q, q = (pX5_spread_L4 g u w 28) := ⟨_, rfl⟩
      rw [← hz_1] at hl hP hD hz01
      refine lv_iload_n hx hb dX5_spread_4 rfl (lv_at hl 3 rfl) ?_
      refine lv_bipush (v := 28) hx hb dX5_spread_5 (by decide) ?_
      refine lv_icmp_ge (tgt := 103) hx hb dX5_spread_7 (by decide) (fun c_2 => ?_) (fun c_2 => absurd (le_of (C := 28) (N := 28) (by decide)) c_2)
      refine lv_iload_n hx hb dX5_spread_103 rfl (lv_at hl 2 rfl) ?_
      have e9 : (pX5_spread g u w) = (z_1.1, z_1.2) := by simp only [pX5_spread, ← hz_1]
      have e9_0 : (pX5_spread g u w).1 = z_1.1 := by rw [e9]
      have e9_1 : (pX5_spread g u w).2 = z_1.2 := by rw [e9]
      exact W.zret (ty := .boolean) (v := z_1.1) hx hb hr (nz hz01) (fun t ht hW => ⟨⟨by rw [e9_0], by rw [e9_1, ht]; exact hP⟩, hS.F ht⟩) hS.2.2 dX5_spread_104
    | succ k ih_4 =>
      intro i hi hz01 H locs hP hD hS ls hl
      have hlt : i < 28 := by omega
      refine lv_iload_n hx hb dX5_spread_4 rfl (lv_at hl 3 rfl) ?_
      refine lv_bipush (v := 28) hx hb dX5_spread_5 (by decide) ?_
      refine lv_icmp_ge (tgt := 103) hx hb dX5_spread_7 (by decide) (fun c_3 => absurd c_3 (nle_of (C := 28) (N := 28) (by decide) hlt (by decide))) (fun c_3 => ?_)
      refine lv_iload_n hx hb dX5_spread_10 rfl (lv_at hl 3 rfl) ?_
      refine rS (As := [.int (nI i)]) (rest := []) hx hb hml hown hts hl.1 (kX4_isGangway l D cyC cyI cyO (nI i)) bS_X4_isGangway  wml_RX5_22 ⟨rfl, rfl⟩ ⟨Nat.le_of_ble_eq_true rfl, Nat.le_of_ble_eq_true rfl, Nat.zero_le _, Nat.zero_le _⟩ [] rfl hP hK rfl rfl (Nat.le_of_ble_eq_true rfl) dX5_spread_11 ?_
      refine lv_if_eq (tgt := 97) hx hb dX5_spread_14 (by decide) (fun c_4 => ?_) (fun c_4 => ?_)
      · refine lv_iinc (v := (nI (i + 1))) (lv' := [(3, .int (nI (i + 1))), (0, .ref (Y 0)), (1, .ref (A 0)), (2, .int (pX5_spread_L4 g u w i).1)]) hx hb dX5_spread_97 hl (k := 3) rfl (nI_succ i).symm (by decide) rfl (fun ls hl => ?_)
        refine lv_goto (tgt := 4) hx hb dX5_spread_100 (by decide) ?_
        have e8 : pX5_spread_L4 g u w (i + 1) = ((pX5_spread_L4 g u w i).1, (pX5_spread_L4 g u w i).2) := by rw [pX5_spread_L4_s] <;> simp only [if_pos c_4]
        exact ih_4 (i + 1) (by omega) (by rw [e8]; first | exact Or.inl rfl | exact Or.inr rfl | exact hz01) _ _ (by rw [e8]; exact hP) (by rw [e8]; exact hD) hS ls (by rw [e8]; exact lv_sub hl [1, 2, 3, 0] rfl)
      · refine lv_iload_n hx hb dX5_spread_17 rfl (lv_at hl 3 rfl) ?_
        refine rS (As := [.int (nI i)]) (rest := []) hx hb hml hown hts hl.1 (kX4_lesserRoof l D cyC cyI cyO (nI i)) bS_X4_lesserRoof  wml_RX5_37 ⟨rfl, rfl⟩ ⟨Nat.le_of_ble_eq_true rfl, Nat.le_of_ble_eq_true rfl, Nat.zero_le _, Nat.zero_le _⟩ [] rfl hP hK rfl rfl (Nat.le_of_ble_eq_true rfl) dX5_spread_18 ?_
        refine lv_istore (lv' := [(4, .int (pX4_lesserRoof (nI i))), (0, .ref (Y 0)), (1, .ref (A 0)), (2, .int (pX5_spread_L4 g u w i).1), (3, .int (nI i))]) hx hb dX5_spread_21 hl (by decide) rfl (fun ls hl => ?_)
        refine lv_iload_n hx hb dX5_spread_23 rfl (lv_at hl 4 rfl) ?_
        refine rS (As := [.int (nI i)]) (rest := []) hx hb hml hown hts hl.1 (kX4_greaterRoof l D cyC cyI cyO (nI i)) bS_X4_greaterRoof  wml_RX5_33 ⟨rfl, rfl⟩ ⟨Nat.le_of_ble_eq_true rfl, Nat.le_of_ble_eq_true rfl, Nat.zero_le _, Nat.zero_le _⟩ [] rfl hP hK rfl rfl (Nat.le_of_ble_eq_true rfl) dX5_spread_24 ?_
        refine lv_istore (lv' := [(5, .int (pX4_greaterRoof (nI i))), (4, .int (pX4_lesserRoof (nI i))), (0, .ref (Y 0)), (1, .ref (A 0)), (2, .int (pX5_spread_L4 g u w i).1), (3, .int (nI i))]) hx hb dX5_spread_27 hl (by decide) rfl (fun ls hl => ?_)
        refine lv_aload_n hx hb dX5_spread_29 rfl (lv_at hl 2 rfl) ?_
        refine lv_iload hx hb dX5_spread_30 (lv_at hl 0 rfl) ?_
        refine lv_aload_n hx hb dX5_spread_32 rfl (lv_at hl 2 rfl) ?_
        refine va_get (D := D) (ci := 4) (v := .ref (Y 2)) (C := RX5) (T := TX5) (N := 2) hx hb hts inT_X5 hown hK.1 hP 0 rfl rfl 1 (by decide) (hts _ wfl_RX5_15) (fun _ h9 => h9) rfl dX5_spread_33 ?_
        refine lv_iload hx hb dX5_spread_36 (lv_at hl 1 rfl) ?_
        refine va_iald (D := D) (f := ((pX5_spread_L4 g u w i).2 1)) hx hb hK.1 hP 2 1 rfl rfl (lr_in hlt c_4) dX5_spread_38 ?_
        refine lv_aload_n hx hb dX5_spread_39 rfl (lv_at hl 3 rfl) ?_
        refine va_get (D := D) (ci := 0) (v := .ref (A 1)) (C := RX0) (T := TX0) (N := 19) hx hb hts inT_X0 hown hK.1 hP 3 rfl rfl 0 (by decide) (hts _ wfl_RX5_28) (fun _ h9 => h9) rfl dX5_spread_40 ?_
        refine lv_iload_n hx hb dX5_spread_43 rfl (lv_at hl 5 rfl) ?_
        refine va_iald (D := D) (f := (u 0)) hx hb hK.1 hP 4 1 rfl rfl (vp_in_nI (Nat.lt_of_lt_of_le hlt (by decide)) (by decide)) dX5_spread_44 ?_
        refine W.eq (g2 := F0 m _ ls [.int ((u 0) i), .int (((pX5_spread_L4 g u w i).2 1) ((pX4_lesserRoof (nI i))).toNatClampNeg), .int (pX4_greaterRoof (nI i)), .ref (Y 0)]) (by rw [nI_clamp (Nat.lt_trans hlt (by decide))] <;> rfl) ?_
        refine va_mmin hx hb (hml.trans hl.1.symm) hown (hts _ wml_RX5_54) (hts _ wst_J9_min_7cf53) (hts _ win_RJ9) (hts _ wcd_J9_min_7cf53) (Nat.le_of_ble_eq_true rfl) (Nat.le_of_ble_eq_true rfl) (Nat.zero_le _) (Nat.zero_le _) dX5_spread_45 ?_
        obtain ⟨z_5, hz_5⟩ : ∃ q, q = (pX5_raise (pX5_spread_L4 g u w i).2 (pX4_greaterRoof (nI i)) (if ((u 0) i) < (((pX5_spread_L4 g u w i).2 1) ((pX4_lesserRoof (nI i))).toNatClampNeg) then ((u 0) i) else (((pX5_spread_L4 g u w i).2 1) ((pX4_lesserRoof (nI i))).toNatClampNeg))) := ⟨_, rfl⟩
        refine mV (ws := (wWy cyI Y (pX5_spread_L4 g u w i).2 ++ (wC cyI A u w))) (ws' := (wWy cyI Y z_5.2 ++ (wC cyI A u w))) (As := [.int (pX4_greaterRoof (nI i)), .int (if ((u 0) i) < (((pX5_spread_L4 g u w i).2 1) ((pX4_lesserRoof (nI i))).toNatClampNeg) then ((u 0) i) else (((pX5_spread_L4 g u w i).2 1) ((pX4_lesserRoof (nI i))).toNatClampNeg))]) (rest := []) hx hb hml hown hts hl.1 (WS := (wWy cyI Y (pX5_spread_L4 g u w i).2)) (WS' := (wWy cyI Y z_5.2)) (ro := (some (.int z_5.1))) (by rw [hz_5]; exact kX5_raise l D cyC cyI cyO Y (pX5_spread_L4 g u w i).2 (pX4_greaterRoof (nI i)) (if ((u 0) i) < (((pX5_spread_L4 g u w i).2 1) ((pX4_lesserRoof (nI i))).toNatClampNeg) then ((u 0) i) else (((pX5_spread_L4 g u w i).2 1) ((pX4_lesserRoof (nI i))).toNatClampNeg)) (gr_in hlt c_4)) bV_X5_raise  wml_RX5_60 ⟨rfl, rfl⟩ ⟨Nat.le_of_ble_eq_true rfl, Nat.le_of_ble_eq_true rfl, Nat.zero_le _, Nat.zero_le _⟩ [0, 1, 2] rfl rfl rfl rfl rfl hP hD hS hA hK 0 rfl rfl rfl rfl rfl (Nat.le_of_ble_eq_true rfl) dX5_spread_48 (fun H locs hP hD hS => ?_)
        refine lv_istore (lv' := [(6, .int z_5.1), (5, .int (pX4_greaterRoof (nI i))), (4, .int (pX4_lesserRoof (nI i))), (0, .ref (Y 0)), (1, .ref (A 0)), (2, .int (pX5_spread_L4 g u w i).1), (3, .int (nI i))]) hx hb dX5_spread_51 hl (by decide) rfl (fun ls hl => ?_)
        refine lv_aload_n hx hb dX5_spread_53 rfl (lv_at hl 3 rfl) ?_
        refine lv_iload hx hb dX5_spread_54 (lv_at hl 2 rfl) ?_
        refine lv_aload_n hx hb dX5_spread_56 rfl (lv_at hl 3 rfl) ?_
        refine va_get (D := D) (ci := 4) (v := .ref (Y 2)) (C := RX5) (T := TX5) (N := 2) hx hb hts inT_X5 hown hK.1 hP 0 rfl rfl 1 (by decide) (hts _ wfl_RX5_15) (fun _ h9 => h9) rfl dX5_spread_57 ?_
        refine lv_iload hx hb dX5_spread_60 (lv_at hl 1 rfl) ?_
        refine va_iald (D := D) (f := (z_5.2 1)) hx hb hK.1 hP 2 1 rfl rfl (gr_in hlt c_4) dX5_spread_62 ?_
        refine lv_aload_n hx hb dX5_spread_63 rfl (lv_at hl 4 rfl) ?_
        refine va_get (D := D) (ci := 0) (v := .ref (A 1)) (C := RX0) (T := TX0) (N := 19) hx hb hts inT_X0 hown hK.1 hP 3 rfl rfl 0 (by decide) (hts _ wfl_RX5_28) (fun _ h9 => h9) rfl dX5_spread_64 ?_
        refine lv_iload_n hx hb dX5_spread_67 rfl (lv_at hl 6 rfl) ?_
        refine va_iald (D := D) (f := (u 0)) hx hb hK.1 hP 4 1 rfl rfl (vp_in_nI (Nat.lt_of_lt_of_le hlt (by decide)) (by decide)) dX5_spread_68 ?_
        refine W.eq (g2 := F0 m _ ls [.int ((u 0) i), .int ((z_5.2 1) ((pX4_greaterRoof (nI i))).toNatClampNeg), .int (pX4_lesserRoof (nI i)), .ref (Y 0)]) (by rw [nI_clamp (Nat.lt_trans hlt (by decide))] <;> rfl) ?_
        refine va_mmin hx hb (hml.trans hl.1.symm) hown (hts _ wml_RX5_54) (hts _ wst_J9_min_7cf53) (hts _ win_RJ9) (hts _ wcd_J9_min_7cf53) (Nat.le_of_ble_eq_true rfl) (Nat.le_of_ble_eq_true rfl) (Nat.zero_le _) (Nat.zero_le _) dX5_spread_69 ?_
        obtain ⟨z_6, hz_6⟩ : ∃ q, q = (pX5_raise z_5.2 (pX4_lesserRoof (nI i)) (if ((u 0) i) < ((z_5.2 1) ((pX4_greaterRoof (nI i))).toNatClampNeg) then ((u 0) i) else ((z_5.2 1) ((pX4_greaterRoof (nI i))).toNatClampNeg))) := ⟨_, rfl⟩
        refine mV (ws := (wWy cyI Y z_5.2 ++ (wC cyI A u w))) (ws' := (wWy cyI Y z_6.2 ++ (wC cyI A u w))) (As := [.int (pX4_lesserRoof (nI i)), .int (if ((u 0) i) < ((z_5.2 1) ((pX4_greaterRoof (nI i))).toNatClampNeg) then ((u 0) i) else ((z_5.2 1) ((pX4_greaterRoof (nI i))).toNatClampNeg))]) (rest := []) hx hb hml hown hts hl.1 (WS := (wWy cyI Y z_5.2)) (WS' := (wWy cyI Y z_6.2)) (ro := (some (.int z_6.1))) (by rw [hz_6]; exact kX5_raise l D cyC cyI cyO Y z_5.2 (pX4_lesserRoof (nI i)) (if ((u 0) i) < ((z_5.2 1) ((pX4_greaterRoof (nI i))).toNatClampNeg) then ((u 0) i) else ((z_5.2 1) ((pX4_greaterRoof (nI i))).toNatClampNeg)) (lr_in hlt c_4)) bV_X5_raise  wml_RX5_60 ⟨rfl, rfl⟩ ⟨Nat.le_of_ble_eq_true rfl, Nat.le_of_ble_eq_true rfl, Nat.zero_le _, Nat.zero_le _⟩ [0, 1, 2] rfl rfl rfl rfl rfl hP hD hS hA hK 0 rfl rfl rfl rfl rfl (Nat.le_of_ble_eq_true rfl) dX5_spread_72 (fun H locs hP hD hS => ?_)
        refine lv_istore (lv' := [(7, .int z_6.1), (6, .int z_5.1), (5, .int (pX4_greaterRoof (nI i))), (4, .int (pX4_lesserRoof (nI i))), (0, .ref (Y 0)), (1, .ref (A 0)), (2, .int (pX5_spread_L4 g u w i).1), (3, .int (nI i))]) hx hb dX5_spread_75 hl (by decide) rfl (fun ls hl => ?_)
        refine lv_iload_n hx hb dX5_spread_77 rfl (lv_at hl 6 rfl) ?_
        refine lv_if_ne (tgt := 91) hx hb dX5_spread_78 (by decide) (fun c_7 => ?_) (fun c_7 => ?_)
        · refine lv_iconst (v := 1) hx hb dX5_spread_91 (by decide) ?_
          refine lv_goto (tgt := 96) hx hb dX5_spread_92 (by decide) ?_
          refine lv_istore_n (lv' := [(2, .int 1), (7, .int z_6.1), (6, .int z_5.1), (5, .int (pX4_greaterRoof (nI i))), (4, .int (pX4_lesserRoof (nI i))), (0, .ref (Y 0)), (1, .ref (A 0)), (3, .int (nI i))]) hx hb dX5_spread_96 rfl hl (by decide) rfl (fun ls hl => ?_)
          refine lv_iinc (v := (nI (i + 1))) (lv' := [(3, .int (nI (i + 1))), (2, .int 1), (7, .int z_6.1), (6, .int z_5.1), (5, .int (pX4_greaterRoof (nI i))), (4, .int (pX4_lesserRoof (nI i))), (0, .ref (Y 0)), (1, .ref (A 0))]) hx hb dX5_spread_97 hl (k := 7) rfl (nI_succ i).symm (by decide) rfl (fun ls hl => ?_)
          refine lv_goto (tgt := 4) hx hb dX5_spread_100 (by decide) ?_
          have e8 : pX5_spread_L4 g u w (i + 1) = (1, z_6.2) := by rw [pX5_spread_L4_s] <;> simp only [← hz_5, ← hz_6, if_neg c_4, if_neg c_7]
          exact ih_4 (i + 1) (by omega) (by rw [e8]; first | exact Or.inl rfl | exact Or.inr rfl | exact hz01) _ _ (by rw [e8]; exact hP) (by rw [e8]; exact hD) hS ls (by rw [e8]; exact lv_sub hl [6, 7, 1, 0] rfl)
        · refine lv_iload hx hb dX5_spread_81 (lv_at hl 1 rfl) ?_
          refine lv_if_ne (tgt := 91) hx hb dX5_spread_83 (by decide) (fun c_8 => ?_) (fun c_8 => ?_)
          · refine lv_iconst (v := 1) hx hb dX5_spread_91 (by decide) ?_
            refine lv_goto (tgt := 96) hx hb dX5_spread_92 (by decide) ?_
            refine lv_istore_n (lv' := [(2, .int 1), (7, .int z_6.1), (6, .int z_5.1), (5, .int (pX4_greaterRoof (nI i))), (4, .int (pX4_lesserRoof (nI i))), (0, .ref (Y 0)), (1, .ref (A 0)), (3, .int (nI i))]) hx hb dX5_spread_96 rfl hl (by decide) rfl (fun ls hl => ?_)
            refine lv_iinc (v := (nI (i + 1))) (lv' := [(3, .int (nI (i + 1))), (2, .int 1), (7, .int z_6.1), (6, .int z_5.1), (5, .int (pX4_greaterRoof (nI i))), (4, .int (pX4_lesserRoof (nI i))), (0, .ref (Y 0)), (1, .ref (A 0))]) hx hb dX5_spread_97 hl (k := 7) rfl (nI_succ i).symm (by decide) rfl (fun ls hl => ?_)
            refine lv_goto (tgt := 4) hx hb dX5_spread_100 (by decide) ?_
            have e8 : pX5_spread_L4 g u w (i + 1) = (1, z_6.2) := by rw [pX5_spread_L4_s] <;> simp only [← hz_5, ← hz_6, if_neg c_4, if_pos c_7, if_neg c_8]
            exact ih_4 (i + 1) (by omega) (by rw [e8]; first | exact Or.inl rfl | exact Or.inr rfl | exact hz01) _ _ (by rw [e8]; exact hP) (by rw [e8]; exact hD) hS ls (by rw [e8]; exact lv_sub hl [6, 7, 1, 0] rfl)
          · refine lv_iload hx hb dX5_spread_86 (lv_at hl 0 rfl) ?_
            refine lv_if_eq (tgt := 95) hx hb dX5_spread_88 (by decide) (fun c_9 => ?_) (fun c_9 => ?_)
            · refine lv_iconst (v := 0) hx hb dX5_spread_95 (by decide) ?_
              refine lv_istore_n (lv' := [(2, .int 0), (7, .int z_6.1), (6, .int z_5.1), (5, .int (pX4_greaterRoof (nI i))), (4, .int (pX4_lesserRoof (nI i))), (0, .ref (Y 0)), (1, .ref (A 0)), (3, .int (nI i))]) hx hb dX5_spread_96 rfl hl (by decide) rfl (fun ls hl => ?_)
              refine lv_iinc (v := (nI (i + 1))) (lv' := [(3, .int (nI (i + 1))), (2, .int 0), (7, .int z_6.1), (6, .int z_5.1), (5, .int (pX4_greaterRoof (nI i))), (4, .int (pX4_lesserRoof (nI i))), (0, .ref (Y 0)), (1, .ref (A 0))]) hx hb dX5_spread_97 hl (k := 7) rfl (nI_succ i).symm (by decide) rfl (fun ls hl => ?_)
              refine lv_goto (tgt := 4) hx hb dX5_spread_100 (by decide) ?_
              have e8 : pX5_spread_L4 g u w (i + 1) = (0, z_6.2) := by rw [pX5_spread_L4_s] <;> simp only [← hz_5, ← hz_6, if_neg c_4, if_pos c_7, if_pos c_8, if_pos c_9]
              exact ih_4 (i + 1) (by omega) (by rw [e8]; first | exact Or.inl rfl | exact Or.inr rfl | exact hz01) _ _ (by rw [e8]; exact hP) (by rw [e8]; exact hD) hS ls (by rw [e8]; exact lv_sub hl [6, 7, 1, 0] rfl)
            · refine lv_iconst (v := 1) hx hb dX5_spread_91 (by decide) ?_
              refine lv_goto (tgt := 96) hx hb dX5_spread_92 (by decide) ?_
              refine lv_istore_n (lv' := [(2, .int 1), (7, .int z_6.1), (6, .int z_5.1), (5, .int (pX4_greaterRoof (nI i))), (4, .int (pX4_lesserRoof (nI i))), (0, .ref (Y 0)), (1, .ref (A 0)), (3, .int (nI i))]) hx hb dX5_spread_96 rfl hl (by decide) rfl (fun ls hl => ?_)
              refine lv_iinc (v := (nI (i + 1))) (lv' := [(3, .int (nI (i + 1))), (2, .int 1), (7, .int z_6.1), (6, .int z_5.1), (5, .int (pX4_greaterRoof (nI i))), (4, .int (pX4_lesserRoof (nI i))), (0, .ref (Y 0)), (1, .ref (A 0))]) hx hb dX5_spread_97 hl (k := 7) rfl (nI_succ i).symm (by decide) rfl (fun ls hl => ?_)
              refine lv_goto (tgt := 4) hx hb dX5_spread_100 (by decide) ?_
              have e8 : pX5_spread_L4 g u w (i + 1) = (1, z_6.2) := by rw [pX5_spread_L4_s] <;> simp only [← hz_5, ← hz_6, if_neg c_4, if_pos c_7, if_pos c_8, if_neg c_9]
              exact ih_4 (i + 1) (by omega) (by rw [e8]; first | exact Or.inl rfl | exact Or.inr rfl | exact hz01) _ _ (by rw [e8]; exact hP) (by rw [e8]; exact hD) hS ls (by rw [e8]; exact lv_sub hl [6, 7, 1, 0] rfl)
  exact key_4 28 0 (Nat.zero_add 28) (Or.inl rfl) _ _ (hP) (hD) hS ls (lv_sub hl [2, 3, 1, 0] rfl)
theorem bV_X5_spread : BV RX5 yX5_spread cX5_spread 8 (some .boolean) 1 := ⟨wcd_X5_spread, wim_X5_spread, wse_X5_spread, win_RX5, by decide +kernel⟩
def pX5_strongestByJoining_L11 (g : (Nat → Nat → Int32)) (u : (Nat → Nat → Int32)) (w : (Nat → Int32)) (a2 : Int32) (a3 : Int32) : Nat → (Nat → Nat → Int32) := fo (fun i x_i => (va_up x_i 0 (upd (x_i 0) i (nI i)))) g
theorem pX5_strongestByJoining_L11_s (g : (Nat → Nat → Int32)) (u : (Nat → Nat → Int32)) (w : (Nat → Int32)) (a2 : Int32) (a3 : Int32) (i : Nat) : pX5_strongestByJoining_L11 g u w a2 a3 (i + 1) = (va_up (pX5_strongestByJoining_L11 g u w a2 a3 i) 0 (upd ((pX5_strongestByJoining_L11 g u w a2 a3 i) 0) i (nI i))) := rfl
theorem pX5_strongestByJoining_L11_0 (g : (Nat → Nat → Int32)) (u : (Nat → Nat → Int32)) (w : (Nat → Int32)) (a2 : Int32) (a3 : Int32) : pX5_strongestByJoining_L11 g u w a2 a3 0 = g := rfl
def pX5_strongestByJoining (g : (Nat → Nat → Int32)) (u : (Nat → Nat → Int32)) (w : (Nat → Int32)) (a2 : Int32) (a3 : Int32) : Int32 × (Nat → Nat → Int32) := (if a2 = a3 then (10, g) else (if (((pX5_joinOver (pX5_strongestByJoining_L11 g u w a2 a3 16) u w 9) 0) (a2).toNatClampNeg) = (((pX5_joinOver (pX5_strongestByJoining_L11 g u w a2 a3 16) u w 9) 0) (a3).toNatClampNeg) then (9, (pX5_joinOver (pX5_strongestByJoining_L11 g u w a2 a3 16) u w 9)) else (if (((pX5_joinOver (pX5_joinOver (pX5_strongestByJoining_L11 g u w a2 a3 16) u w 9) u w 8) 0) (a2).toNatClampNeg) = (((pX5_joinOver (pX5_joinOver (pX5_strongestByJoining_L11 g u w a2 a3 16) u w 9) u w 8) 0) (a3).toNatClampNeg) then (8, (pX5_joinOver (pX5_joinOver (pX5_strongestByJoining_L11 g u w a2 a3 16) u w 9) u w 8)) else (if (((pX5_joinOver (pX5_joinOver (pX5_joinOver (pX5_strongestByJoining_L11 g u w a2 a3 16) u w 9) u w 8) u w 7) 0) (a2).toNatClampNeg) = (((pX5_joinOver (pX5_joinOver (pX5_joinOver (pX5_strongestByJoining_L11 g u w a2 a3 16) u w 9) u w 8) u w 7) 0) (a3).toNatClampNeg) then (7, (pX5_joinOver (pX5_joinOver (pX5_joinOver (pX5_strongestByJoining_L11 g u w a2 a3 16) u w 9) u w 8) u w 7)) else (if (((pX5_joinOver (pX5_joinOver (pX5_joinOver (pX5_joinOver (pX5_strongestByJoining_L11 g u w a2 a3 16) u w 9) u w 8) u w 7) u w 6) 0) (a2).toNatClampNeg) = (((pX5_joinOver (pX5_joinOver (pX5_joinOver (pX5_joinOver (pX5_strongestByJoining_L11 g u w a2 a3 16) u w 9) u w 8) u w 7) u w 6) 0) (a3).toNatClampNeg) then (6, (pX5_joinOver (pX5_joinOver (pX5_joinOver (pX5_joinOver (pX5_strongestByJoining_L11 g u w a2 a3 16) u w 9) u w 8) u w 7) u w 6)) else (if (((pX5_joinOver (pX5_joinOver (pX5_joinOver (pX5_joinOver (pX5_joinOver (pX5_strongestByJoining_L11 g u w a2 a3 16) u w 9) u w 8) u w 7) u w 6) u w 5) 0) (a2).toNatClampNeg) = (((pX5_joinOver (pX5_joinOver (pX5_joinOver (pX5_joinOver (pX5_joinOver (pX5_strongestByJoining_L11 g u w a2 a3 16) u w 9) u w 8) u w 7) u w 6) u w 5) 0) (a3).toNatClampNeg) then (5, (pX5_joinOver (pX5_joinOver (pX5_joinOver (pX5_joinOver (pX5_joinOver (pX5_strongestByJoining_L11 g u w a2 a3 16) u w 9) u w 8) u w 7) u w 6) u w 5)) else (if (((pX5_joinOver (pX5_joinOver (pX5_joinOver (pX5_joinOver (pX5_joinOver (pX5_joinOver (pX5_strongestByJoining_L11 g u w a2 a3 16) u w 9) u w 8) u w 7) u w 6) u w 5) u w 4) 0) (a2).toNatClampNeg) = (((pX5_joinOver (pX5_joinOver (pX5_joinOver (pX5_joinOver (pX5_joinOver (pX5_joinOver (pX5_strongestByJoining_L11 g u w a2 a3 16) u w 9) u w 8) u w 7) u w 6) u w 5) u w 4) 0) (a3).toNatClampNeg) then (4, (pX5_joinOver (pX5_joinOver (pX5_joinOver (pX5_joinOver (pX5_joinOver (pX5_joinOver (pX5_strongestByJoining_L11 g u w a2 a3 16) u w 9) u w 8) u w 7) u w 6) u w 5) u w 4)) else (if (((pX5_joinOver (pX5_joinOver (pX5_joinOver (pX5_joinOver (pX5_joinOver (pX5_joinOver (pX5_joinOver (pX5_strongestByJoining_L11 g u w a2 a3 16) u w 9) u w 8) u w 7) u w 6) u w 5) u w 4) u w 3) 0) (a2).toNatClampNeg) = (((pX5_joinOver (pX5_joinOver (pX5_joinOver (pX5_joinOver (pX5_joinOver (pX5_joinOver (pX5_joinOver (pX5_strongestByJoining_L11 g u w a2 a3 16) u w 9) u w 8) u w 7) u w 6) u w 5) u w 4) u w 3) 0) (a3).toNatClampNeg) then (3, (pX5_joinOver (pX5_joinOver (pX5_joinOver (pX5_joinOver (pX5_joinOver (pX5_joinOver (pX5_joinOver (pX5_strongestByJoining_L11 g u w a2 a3 16) u w 9) u w 8) u w 7) u w 6) u w 5) u w 4) u w 3)) else (if (((pX5_joinOver (pX5_joinOver (pX5_joinOver (pX5_joinOver (pX5_joinOver (pX5_joinOver (pX5_joinOver (pX5_joinOver (pX5_strongestByJoining_L11 g u w a2 a3 16) u w 9) u w 8) u w 7) u w 6) u w 5) u w 4) u w 3) u w 2) 0) (a2).toNatClampNeg) = (((pX5_joinOver (pX5_joinOver (pX5_joinOver (pX5_joinOver (pX5_joinOver (pX5_joinOver (pX5_joinOver (pX5_joinOver (pX5_strongestByJoining_L11 g u w a2 a3 16) u w 9) u w 8) u w 7) u w 6) u w 5) u w 4) u w 3) u w 2) 0) (a3).toNatClampNeg) then (2, (pX5_joinOver (pX5_joinOver (pX5_joinOver (pX5_joinOver (pX5_joinOver (pX5_joinOver (pX5_joinOver (pX5_joinOver (pX5_strongestByJoining_L11 g u w a2 a3 16) u w 9) u w 8) u w 7) u w 6) u w 5) u w 4) u w 3) u w 2)) else (if (((pX5_joinOver (pX5_joinOver (pX5_joinOver (pX5_joinOver (pX5_joinOver (pX5_joinOver (pX5_joinOver (pX5_joinOver (pX5_joinOver (pX5_strongestByJoining_L11 g u w a2 a3 16) u w 9) u w 8) u w 7) u w 6) u w 5) u w 4) u w 3) u w 2) u w 1) 0) (a2).toNatClampNeg) = (((pX5_joinOver (pX5_joinOver (pX5_joinOver (pX5_joinOver (pX5_joinOver (pX5_joinOver (pX5_joinOver (pX5_joinOver (pX5_joinOver (pX5_strongestByJoining_L11 g u w a2 a3 16) u w 9) u w 8) u w 7) u w 6) u w 5) u w 4) u w 3) u w 2) u w 1) 0) (a3).toNatClampNeg) then (1, (pX5_joinOver (pX5_joinOver (pX5_joinOver (pX5_joinOver (pX5_joinOver (pX5_joinOver (pX5_joinOver (pX5_joinOver (pX5_joinOver (pX5_strongestByJoining_L11 g u w a2 a3 16) u w 9) u w 8) u w 7) u w 6) u w 5) u w 4) u w 3) u w 2) u w 1)) else ((-4), (pX5_joinOver (pX5_joinOver (pX5_joinOver (pX5_joinOver (pX5_joinOver (pX5_joinOver (pX5_joinOver (pX5_joinOver (pX5_joinOver (pX5_strongestByJoining_L11 g u w a2 a3 16) u w 9) u w 8) u w 7) u w 6) u w 5) u w 4) u w 3) u w 2) u w 1))))))))))))
set_option maxHeartbeats 4000000 in
set_option maxRecDepth 100000 in
theorem kX5_strongestByJoining (l : Launch) (D : va_G) (cyC cyI cyO : ClassId) (Y : Nat → Nat) (A : Nat → Nat) (g : (Nat → Nat → Int32)) (u : (Nat → Nat → Int32)) (w : (Nat → Int32)) (a2 : Int32) (a3 : Int32) (h1 : vp_in a2 16) (h2 : vp_in a3 16) : MU l yX5_strongestByJoining (Ty yX5_strongestByJoining cX5_strongestByJoining 5 (some .int)) ({ frames := 3, cells := 0, slots := 0, locals := 65 } : Room) D cyC cyI cyO (wWy cyI Y g ++ (wC cyI A u w)) [.ref (Y 0), .ref (A 0), .int a2, .int a3] (some (.int (pX5_strongestByJoining g u w a2 a3).1)) (wWy cyI Y (pX5_strongestByJoining g u w a2 a3).2 ++ (wC cyI A u w)) := by
  intro sz
  refine Met.ofW (cc := cX5_strongestByJoining) (maxL := 5) (ret := (some .int)) (by decide) rfl ?_
  intro p e s m args below meth cd s₁ B hml hv
  obtain ⟨rfl, hsz, hP, hK, hD0⟩ := hv
  have hx := B.exec
  have hb := B.bytes
  have hr := B.returns
  have hts : ∀ w ∈ TB, w.before ([.ref (Y 0), .ref (A 0), .int a2, .int a3] : List Value).toArray s = true := fun w h => atoms_spec (ws := (Ty yX5_strongestByJoining cX5_strongestByJoining 5 (some .int))) B.pre w (List.mem_cons_of_mem _ h)
  have hown : s.vm.findClass RX5 = some m.cls := findClass_of_methodNamed B.named
  have hlocks := B.notSynchronized
  subst hsz
  have hD := hD0.self (sz := s.heap.size)
  have hA : ∀ q : Nat, s.heap.size ≤ q → (va_A (wWy cyI Y g ++ (wC cyI A u w)) s.heap.size) q := fun q h => Or.inr h
  generalize hAe : va_A (wWy cyI Y g ++ (wC cyI A u w)) s.heap.size = A0 at hD hA ⊢
  have hS : va_S A0 s.heap s.heap [] := va_S.rf
  have hl := lv_entry ([.ref (Y 0), .ref (A 0), .int a2, .int a3]) (n := 5) (Nat.le_of_ble_eq_true rfl)
  rw [lg_entry_eq]
  generalize (lg_sl ([.ref (Y 0), .ref (A 0), .int a2, .int a3]) ++ List.replicate (5 - (lg_sl ([.ref (Y 0), .ref (A 0), .int a2, .int a3])).length) Slot.unset).toArray = ls at hl ⊢
  have hl : lv_has ls 5 [(0, .ref (Y 0)), (1, .ref (A 0)), (2, .int a2), (3, .int a3)] := hl
  refine lv_iload_n hx hb dX5_strongestByJoining_0 rfl (lv_at hl 2 rfl) ?_
  refine lv_iload_n hx hb dX5_strongestByJoining_1 rfl (lv_at hl 3 rfl) ?_
  refine lv_icmp_ne (tgt := 8) hx hb dX5_strongestByJoining_2 (by decide) (fun c_1 => ?_) (fun c_1 => ?_)
  · refine lv_iconst (v := 0) hx hb dX5_strongestByJoining_8 (by decide) ?_
    refine lv_istore (lv' := [(4, .int 0), (0, .ref (Y 0)), (1, .ref (A 0)), (2, .int a2), (3, .int a3)]) hx hb dX5_strongestByJoining_9 hl (by decide) rfl (fun ls hl => ?_)
    have key_11 : ∀ k i : Nat, i + k = 16 → ∀ (H : Heap) (locs : List Loc), va_P D vwCl (wWy cyI Y (pX5_strongestByJoining_L11 g u w a2 a3 i) ++ (wC cyI A u w)) H → va_D A0 (wWy cyI Y (pX5_strongestByJoining_L11 g u w a2 a3 i) ++ (wC cyI A u w)) → va_S A0 s.heap H locs → ∀ (ls : Array Slot), lv_has ls 5 [(0, .ref (Y 0)), (1, .ref (A 0)), (2, .int a2), (3, .int a3), (4, .int (nI i))] → W p l e (headSpec (Ty yX5_strongestByJoining cX5_strongestByJoining 5 (some .int)) ({ frames := 3, cells := 0, slots := 0, locals := 65 } : Room)).room s m ([.ref (Y 0), .ref (A 0), .int a2, .int a3] : List Value).toArray below meth cd H locs 0 0 (MQ below (MQQ (some (.int (pX5_strongestByJoining g u w a2 a3).1)) D (wWy cyI Y (pX5_strongestByJoining g u w a2 a3).2 ++ (wC cyI A u w)) A0) ([.ref (Y 0), .ref (A 0), .int a2, .int a3] : List Value).toArray s 0 0 A0) (F0 m 11 ls []) := by
      intro k
      induction k with
      | zero =>
        intro i hi H locs hP hD hS ls hl
        obtain rfl : i = 16 := hi
        obtain ⟨z_2, hz_2⟩ : ∃ q, q = (pX5_strongestByJoining_L11 g u w a2 a3 16) := ⟨_, rfl⟩
        rw [← hz_2] at hP hD
        refine lv_iload hx hb dX5_strongestByJoining_11 (lv_at hl 4 rfl) ?_
        refine lv_bipush (v := 16) hx hb dX5_strongestByJoining_13 (by decide) ?_
        refine lv_icmp_ge (tgt := 33) hx hb dX5_strongestByJoining_15 (by decide) (fun c_3 => ?_) (fun c_3 => absurd (le_of (C := 16) (N := 16) (by decide)) c_3)
        refine lv_bipush (v := 9) hx hb dX5_strongestByJoining_33 (by decide) ?_
        refine lv_istore (lv' := [(4, .int 9), (0, .ref (Y 0)), (1, .ref (A 0)), (2, .int a2), (3, .int a3)]) hx hb dX5_strongestByJoining_35 hl (by decide) rfl (fun ls hl => ?_)
        refine lv_iload hx hb dX5_strongestByJoining_37 (lv_at hl 0 rfl) ?_
        refine lv_if_le (tgt := 73) hx hb dX5_strongestByJoining_39 (by decide) (fun c_4 => absurd c_4 (by decide)) (fun c_4 => ?_)
        refine lv_aload_n hx hb dX5_strongestByJoining_42 rfl (lv_at hl 1 rfl) ?_
        refine lv_aload_n hx hb dX5_strongestByJoining_43 rfl (lv_at hl 2 rfl) ?_
        refine lv_iload hx hb dX5_strongestByJoining_44 (lv_at hl 0 rfl) ?_
        obtain ⟨z_5, hz_5⟩ : ∃ q, q = (pX5_joinOver z_2 u w 9) := ⟨_, rfl⟩
        refine mV (ws := (wWy cyI Y z_2 ++ (wC cyI A u w))) (ws' := (wWy cyI Y z_5 ++ (wC cyI A u w))) (As := [.ref (A 0), .int 9]) (rest := []) hx hb hml hown hts hl.1 (WS := (wWy cyI Y z_2 ++ (wC cyI A u w))) (WS' := (wWy cyI Y z_5 ++ (wC cyI A u w))) (ro := none) (by rw [hz_5]; exact kX5_joinOver l D cyC cyI cyO Y A z_2 u w 9) bV_X5_joinOver  wml_RX5_18 ⟨rfl, rfl⟩ ⟨Nat.le_of_ble_eq_true rfl, Nat.le_of_ble_eq_true rfl, Nat.zero_le _, Nat.zero_le _⟩ [0, 1, 2, 3, 4, 5, 6, 7, 8, 9, 10, 11] rfl rfl rfl rfl rfl hP hD hS hA hK 0 rfl rfl rfl rfl rfl (Nat.le_of_ble_eq_true rfl) dX5_strongestByJoining_46 (fun H locs hP hD hS => ?_)
        refine lv_aload_n hx hb dX5_strongestByJoining_49 rfl (lv_at hl 1 rfl) ?_
        refine va_get (D := D) (ci := 4) (v := .ref (Y 1)) (C := RX5) (T := TX5) (N := 2) hx hb hts inT_X5 hown hK.1 hP 0 rfl rfl 0 (by decide) (hts _ wfl_RX5_9) (fun _ h9 => h9) rfl dX5_strongestByJoining_50 ?_
        refine lv_iload_n hx hb dX5_strongestByJoining_53 rfl (lv_at hl 3 rfl) ?_
        refine va_iald (D := D) (f := (z_5 0)) hx hb hK.1 hP 1 1 rfl rfl h1 dX5_strongestByJoining_54 ?_
        refine lv_aload_n hx hb dX5_strongestByJoining_55 rfl (lv_at hl 1 rfl) ?_
        refine va_get (D := D) (ci := 4) (v := .ref (Y 1)) (C := RX5) (T := TX5) (N := 2) hx hb hts inT_X5 hown hK.1 hP 0 rfl rfl 0 (by decide) (hts _ wfl_RX5_9) (fun _ h9 => h9) rfl dX5_strongestByJoining_56 ?_
        refine lv_iload_n hx hb dX5_strongestByJoining_59 rfl (lv_at hl 4 rfl) ?_
        refine va_iald (D := D) (f := (z_5 0)) hx hb hK.1 hP 1 1 rfl rfl h2 dX5_strongestByJoining_60 ?_
        refine lv_icmp_ne (tgt := 67) hx hb dX5_strongestByJoining_61 (by decide) (fun c_6 => ?_) (fun c_6 => ?_)
        · refine lv_iinc (v := 8) (lv' := [(4, .int 8), (0, .ref (Y 0)), (1, .ref (A 0)), (2, .int a2), (3, .int a3)]) hx hb dX5_strongestByJoining_67 hl (k := 0) rfl (by decide) (by decide) rfl (fun ls hl => ?_)
          refine lv_goto (tgt := 37) hx hb dX5_strongestByJoining_70 (by decide) ?_
          refine lv_iload hx hb dX5_strongestByJoining_37 (lv_at hl 0 rfl) ?_
          refine lv_if_le (tgt := 73) hx hb dX5_strongestByJoining_39 (by decide) (fun c_7 => absurd c_7 (by decide)) (fun c_7 => ?_)
          refine lv_aload_n hx hb dX5_strongestByJoining_42 rfl (lv_at hl 1 rfl) ?_
          refine lv_aload_n hx hb dX5_strongestByJoining_43 rfl (lv_at hl 2 rfl) ?_
          refine lv_iload hx hb dX5_strongestByJoining_44 (lv_at hl 0 rfl) ?_
          obtain ⟨z_8, hz_8⟩ : ∃ q, q = (pX5_joinOver z_5 u w 8) := ⟨_, rfl⟩
          refine mV (ws := (wWy cyI Y z_5 ++ (wC cyI A u w))) (ws' := (wWy cyI Y z_8 ++ (wC cyI A u w))) (As := [.ref (A 0), .int 8]) (rest := []) hx hb hml hown hts hl.1 (WS := (wWy cyI Y z_5 ++ (wC cyI A u w))) (WS' := (wWy cyI Y z_8 ++ (wC cyI A u w))) (ro := none) (by rw [hz_8]; exact kX5_joinOver l D cyC cyI cyO Y A z_5 u w 8) bV_X5_joinOver  wml_RX5_18 ⟨rfl, rfl⟩ ⟨Nat.le_of_ble_eq_true rfl, Nat.le_of_ble_eq_true rfl, Nat.zero_le _, Nat.zero_le _⟩ [0, 1, 2, 3, 4, 5, 6, 7, 8, 9, 10, 11] rfl rfl rfl rfl rfl hP hD hS hA hK 0 rfl rfl rfl rfl rfl (Nat.le_of_ble_eq_true rfl) dX5_strongestByJoining_46 (fun H locs hP hD hS => ?_)
          refine lv_aload_n hx hb dX5_strongestByJoining_49 rfl (lv_at hl 1 rfl) ?_
          refine va_get (D := D) (ci := 4) (v := .ref (Y 1)) (C := RX5) (T := TX5) (N := 2) hx hb hts inT_X5 hown hK.1 hP 0 rfl rfl 0 (by decide) (hts _ wfl_RX5_9) (fun _ h9 => h9) rfl dX5_strongestByJoining_50 ?_
          refine lv_iload_n hx hb dX5_strongestByJoining_53 rfl (lv_at hl 3 rfl) ?_
          refine va_iald (D := D) (f := (z_8 0)) hx hb hK.1 hP 1 1 rfl rfl h1 dX5_strongestByJoining_54 ?_
          refine lv_aload_n hx hb dX5_strongestByJoining_55 rfl (lv_at hl 1 rfl) ?_
          refine va_get (D := D) (ci := 4) (v := .ref (Y 1)) (C := RX5) (T := TX5) (N := 2) hx hb hts inT_X5 hown hK.1 hP 0 rfl rfl 0 (by decide) (hts _ wfl_RX5_9) (fun _ h9 => h9) rfl dX5_strongestByJoining_56 ?_
          refine lv_iload_n hx hb dX5_strongestByJoining_59 rfl (lv_at hl 4 rfl) ?_
          refine va_iald (D := D) (f := (z_8 0)) hx hb hK.1 hP 1 1 rfl rfl h2 dX5_strongestByJoining_60 ?_
          refine lv_icmp_ne (tgt := 67) hx hb dX5_strongestByJoining_61 (by decide) (fun c_9 => ?_) (fun c_9 => ?_)
          · refine lv_iinc (v := 7) (lv' := [(4, .int 7), (0, .ref (Y 0)), (1, .ref (A 0)), (2, .int a2), (3, .int a3)]) hx hb dX5_strongestByJoining_67 hl (k := 0) rfl (by decide) (by decide) rfl (fun ls hl => ?_)
            refine lv_goto (tgt := 37) hx hb dX5_strongestByJoining_70 (by decide) ?_
            refine lv_iload hx hb dX5_strongestByJoining_37 (lv_at hl 0 rfl) ?_
            refine lv_if_le (tgt := 73) hx hb dX5_strongestByJoining_39 (by decide) (fun c_10 => absurd c_10 (by decide)) (fun c_10 => ?_)
            refine lv_aload_n hx hb dX5_strongestByJoining_42 rfl (lv_at hl 1 rfl) ?_
            refine lv_aload_n hx hb dX5_strongestByJoining_43 rfl (lv_at hl 2 rfl) ?_
            refine lv_iload hx hb dX5_strongestByJoining_44 (lv_at hl 0 rfl) ?_
            obtain ⟨z_11, hz_11⟩ : ∃ q, q = (pX5_joinOver z_8 u w 7) := ⟨_, rfl⟩
            refine mV (ws := (wWy cyI Y z_8 ++ (wC cyI A u w))) (ws' := (wWy cyI Y z_11 ++ (wC cyI A u w))) (As := [.ref (A 0), .int 7]) (rest := []) hx hb hml hown hts hl.1 (WS := (wWy cyI Y z_8 ++ (wC cyI A u w))) (WS' := (wWy cyI Y z_11 ++ (wC cyI A u w))) (ro := none) (by rw [hz_11]; exact kX5_joinOver l D cyC cyI cyO Y A z_8 u w 7) bV_X5_joinOver  wml_RX5_18 ⟨rfl, rfl⟩ ⟨Nat.le_of_ble_eq_true rfl, Nat.le_of_ble_eq_true rfl, Nat.zero_le _, Nat.zero_le _⟩ [0, 1, 2, 3, 4, 5, 6, 7, 8, 9, 10, 11] rfl rfl rfl rfl rfl hP hD hS hA hK 0 rfl rfl rfl rfl rfl (Nat.le_of_ble_eq_true rfl) dX5_strongestByJoining_46 (fun H locs hP hD hS => ?_)
            refine lv_aload_n hx hb dX5_strongestByJoining_49 rfl (lv_at hl 1 rfl) ?_
            refine va_get (D := D) (ci := 4) (v := .ref (Y 1)) (C := RX5) (T := TX5) (N := 2) hx hb hts inT_X5 hown hK.1 hP 0 rfl rfl 0 (by decide) (hts _ wfl_RX5_9) (fun _ h9 => h9) rfl dX5_strongestByJoining_50 ?_
            refine lv_iload_n hx hb dX5_strongestByJoining_53 rfl (lv_at hl 3 rfl) ?_
            refine va_iald (D := D) (f := (z_11 0)) hx hb hK.1 hP 1 1 rfl rfl h1 dX5_strongestByJoining_54 ?_
            refine lv_aload_n hx hb dX5_strongestByJoining_55 rfl (lv_at hl 1 rfl) ?_
            refine va_get (D := D) (ci := 4) (v := .ref (Y 1)) (C := RX5) (T := TX5) (N := 2) hx hb hts inT_X5 hown hK.1 hP 0 rfl rfl 0 (by decide) (hts _ wfl_RX5_9) (fun _ h9 => h9) rfl dX5_strongestByJoining_56 ?_
            refine lv_iload_n hx hb dX5_strongestByJoining_59 rfl (lv_at hl 4 rfl) ?_
            refine va_iald (D := D) (f := (z_11 0)) hx hb hK.1 hP 1 1 rfl rfl h2 dX5_strongestByJoining_60 ?_
            refine lv_icmp_ne (tgt := 67) hx hb dX5_strongestByJoining_61 (by decide) (fun c_12 => ?_) (fun c_12 => ?_)
            · refine lv_iinc (v := 6) (lv' := [(4, .int 6), (0, .ref (Y 0)), (1, .ref (A 0)), (2, .int a2), (3, .int a3)]) hx hb dX5_strongestByJoining_67 hl (k := 0) rfl (by decide) (by decide) rfl (fun ls hl => ?_)
              refine lv_goto (tgt := 37) hx hb dX5_strongestByJoining_70 (by decide) ?_
              refine lv_iload hx hb dX5_strongestByJoining_37 (lv_at hl 0 rfl) ?_
              refine lv_if_le (tgt := 73) hx hb dX5_strongestByJoining_39 (by decide) (fun c_13 => absurd c_13 (by decide)) (fun c_13 => ?_)
              refine lv_aload_n hx hb dX5_strongestByJoining_42 rfl (lv_at hl 1 rfl) ?_
              refine lv_aload_n hx hb dX5_strongestByJoining_43 rfl (lv_at hl 2 rfl) ?_
              refine lv_iload hx hb dX5_strongestByJoining_44 (lv_at hl 0 rfl) ?_
              obtain ⟨z_14, hz_14⟩ : ∃ q, q = (pX5_joinOver z_11 u w 6) := ⟨_, rfl⟩
              refine mV (ws := (wWy cyI Y z_11 ++ (wC cyI A u w))) (ws' := (wWy cyI Y z_14 ++ (wC cyI A u w))) (As := [.ref (A 0), .int 6]) (rest := []) hx hb hml hown hts hl.1 (WS := (wWy cyI Y z_11 ++ (wC cyI A u w))) (WS' := (wWy cyI Y z_14 ++ (wC cyI A u w))) (ro := none) (by rw [hz_14]; exact kX5_joinOver l D cyC cyI cyO Y A z_11 u w 6) bV_X5_joinOver  wml_RX5_18 ⟨rfl, rfl⟩ ⟨Nat.le_of_ble_eq_true rfl, Nat.le_of_ble_eq_true rfl, Nat.zero_le _, Nat.zero_le _⟩ [0, 1, 2, 3, 4, 5, 6, 7, 8, 9, 10, 11] rfl rfl rfl rfl rfl hP hD hS hA hK 0 rfl rfl rfl rfl rfl (Nat.le_of_ble_eq_true rfl) dX5_strongestByJoining_46 (fun H locs hP hD hS => ?_)
              refine lv_aload_n hx hb dX5_strongestByJoining_49 rfl (lv_at hl 1 rfl) ?_
              refine va_get (D := D) (ci := 4) (v := .ref (Y 1)) (C := RX5) (T := TX5) (N := 2) hx hb hts inT_X5 hown hK.1 hP 0 rfl rfl 0 (by decide) (hts _ wfl_RX5_9) (fun _ h9 => h9) rfl dX5_strongestByJoining_50 ?_
              refine lv_iload_n hx hb dX5_strongestByJoining_53 rfl (lv_at hl 3 rfl) ?_
              refine va_iald (D := D) (f := (z_14 0)) hx hb hK.1 hP 1 1 rfl rfl h1 dX5_strongestByJoining_54 ?_
              refine lv_aload_n hx hb dX5_strongestByJoining_55 rfl (lv_at hl 1 rfl) ?_
              refine va_get (D := D) (ci := 4) (v := .ref (Y 1)) (C := RX5) (T := TX5) (N := 2) hx hb hts inT_X5 hown hK.1 hP 0 rfl rfl 0 (by decide) (hts _ wfl_RX5_9) (fun _ h9 => h9) rfl dX5_strongestByJoining_56 ?_
              refine lv_iload_n hx hb dX5_strongestByJoining_59 rfl (lv_at hl 4 rfl) ?_
              refine va_iald (D := D) (f := (z_14 0)) hx hb hK.1 hP 1 1 rfl rfl h2 dX5_strongestByJoining_60 ?_
              refine lv_icmp_ne (tgt := 67) hx hb dX5_strongestByJoining_61 (by decide) (fun c_15 => ?_) (fun c_15 => ?_)
              · refine lv_iinc (v := 5) (lv' := [(4, .int 5), (0, .ref (Y 0)), (1, .ref (A 0)), (2, .int a2), (3, .int a3)]) hx hb dX5_strongestByJoining_67 hl (k := 0) rfl (by decide) (by decide) rfl (fun ls hl => ?_)
                refine lv_goto (tgt := 37) hx hb dX5_strongestByJoining_70 (by decide) ?_
                refine lv_iload hx hb dX5_strongestByJoining_37 (lv_at hl 0 rfl) ?_
                refine lv_if_le (tgt := 73) hx hb dX5_strongestByJoining_39 (by decide) (fun c_16 => absurd c_16 (by decide)) (fun c_16 => ?_)
                refine lv_aload_n hx hb dX5_strongestByJoining_42 rfl (lv_at hl 1 rfl) ?_
                refine lv_aload_n hx hb dX5_strongestByJoining_43 rfl (lv_at hl 2 rfl) ?_
                refine lv_iload hx hb dX5_strongestByJoining_44 (lv_at hl 0 rfl) ?_
                obtain ⟨z_17, hz_17⟩ : ∃ q, q = (pX5_joinOver z_14 u w 5) := ⟨_, rfl⟩
                refine mV (ws := (wWy cyI Y z_14 ++ (wC cyI A u w))) (ws' := (wWy cyI Y z_17 ++ (wC cyI A u w))) (As := [.ref (A 0), .int 5]) (rest := []) hx hb hml hown hts hl.1 (WS := (wWy cyI Y z_14 ++ (wC cyI A u w))) (WS' := (wWy cyI Y z_17 ++ (wC cyI A u w))) (ro := none) (by rw [hz_17]; exact kX5_joinOver l D cyC cyI cyO Y A z_14 u w 5) bV_X5_joinOver  wml_RX5_18 ⟨rfl, rfl⟩ ⟨Nat.le_of_ble_eq_true rfl, Nat.le_of_ble_eq_true rfl, Nat.zero_le _, Nat.zero_le _⟩ [0, 1, 2, 3, 4, 5, 6, 7, 8, 9, 10, 11] rfl rfl rfl rfl rfl hP hD hS hA hK 0 rfl rfl rfl rfl rfl (Nat.le_of_ble_eq_true rfl) dX5_strongestByJoining_46 (fun H locs hP hD hS => ?_)
                refine lv_aload_n hx hb dX5_strongestByJoining_49 rfl (lv_at hl 1 rfl) ?_
                refine va_get (D := D) (ci := 4) (v := .ref (Y 1)) (C := RX5) (T := TX5) (N := 2) hx hb hts inT_X5 hown hK.1 hP 0 rfl rfl 0 (by decide) (hts _ wfl_RX5_9) (fun _ h9 => h9) rfl dX5_strongestByJoining_50 ?_
                refine lv_iload_n hx hb dX5_strongestByJoining_53 rfl (lv_at hl 3 rfl) ?_
                refine va_iald (D := D) (f := (z_17 0)) hx hb hK.1 hP 1 1 rfl rfl h1 dX5_strongestByJoining_54 ?_
                refine lv_aload_n hx hb dX5_strongestByJoining_55 rfl (lv_at hl 1 rfl) ?_
                refine va_get (D := D) (ci := 4) (v := .ref (Y 1)) (C := RX5) (T := TX5) (N := 2) hx hb hts inT_X5 hown hK.1 hP 0 rfl rfl 0 (by decide) (hts _ wfl_RX5_9) (fun _ h9 => h9) rfl dX5_strongestByJoining_56 ?_
                refine lv_iload_n hx hb dX5_strongestByJoining_59 rfl (lv_at hl 4 rfl) ?_
                refine va_iald (D := D) (f := (z_17 0)) hx hb hK.1 hP 1 1 rfl rfl h2 dX5_strongestByJoining_60 ?_
                refine lv_icmp_ne (tgt := 67) hx hb dX5_strongestByJoining_61 (by decide) (fun c_18 => ?_) (fun c_18 => ?_)
                · refine lv_iinc (v := 4) (lv' := [(4, .int 4), (0, .ref (Y 0)), (1, .ref (A 0)), (2, .int a2), (3, .int a3)]) hx hb dX5_strongestByJoining_67 hl (k := 0) rfl (by decide) (by decide) rfl (fun ls hl => ?_)
                  refine lv_goto (tgt := 37) hx hb dX5_strongestByJoining_70 (by decide) ?_
                  refine lv_iload hx hb dX5_strongestByJoining_37 (lv_at hl 0 rfl) ?_
                  refine lv_if_le (tgt := 73) hx hb dX5_strongestByJoining_39 (by decide) (fun c_19 => absurd c_19 (by decide)) (fun c_19 => ?_)
                  refine lv_aload_n hx hb dX5_strongestByJoining_42 rfl (lv_at hl 1 rfl) ?_
                  refine lv_aload_n hx hb dX5_strongestByJoining_43 rfl (lv_at hl 2 rfl) ?_
                  refine lv_iload hx hb dX5_strongestByJoining_44 (lv_at hl 0 rfl) ?_
                  obtain ⟨z_20, hz_20⟩ : ∃ q, q = (pX5_joinOver z_17 u w 4) := ⟨_, rfl⟩
                  refine mV (ws := (wWy cyI Y z_17 ++ (wC cyI A u w))) (ws' := (wWy cyI Y z_20 ++ (wC cyI A u w))) (As := [.ref (A 0), .int 4]) (rest := []) hx hb hml hown hts hl.1 (WS := (wWy cyI Y z_17 ++ (wC cyI A u w))) (WS' := (wWy cyI Y z_20 ++ (wC cyI A u w))) (ro := none) (by rw [hz_20]; exact kX5_joinOver l D cyC cyI cyO Y A z_17 u w 4) bV_X5_joinOver  wml_RX5_18 ⟨rfl, rfl⟩ ⟨Nat.le_of_ble_eq_true rfl, Nat.le_of_ble_eq_true rfl, Nat.zero_le _, Nat.zero_le _⟩ [0, 1, 2, 3, 4, 5, 6, 7, 8, 9, 10, 11] rfl rfl rfl rfl rfl hP hD hS hA hK 0 rfl rfl rfl rfl rfl (Nat.le_of_ble_eq_true rfl) dX5_strongestByJoining_46 (fun H locs hP hD hS => ?_)
                  refine lv_aload_n hx hb dX5_strongestByJoining_49 rfl (lv_at hl 1 rfl) ?_
                  refine va_get (D := D) (ci := 4) (v := .ref (Y 1)) (C := RX5) (T := TX5) (N := 2) hx hb hts inT_X5 hown hK.1 hP 0 rfl rfl 0 (by decide) (hts _ wfl_RX5_9) (fun _ h9 => h9) rfl dX5_strongestByJoining_50 ?_
                  refine lv_iload_n hx hb dX5_strongestByJoining_53 rfl (lv_at hl 3 rfl) ?_
                  refine va_iald (D := D) (f := (z_20 0)) hx hb hK.1 hP 1 1 rfl rfl h1 dX5_strongestByJoining_54 ?_
                  refine lv_aload_n hx hb dX5_strongestByJoining_55 rfl (lv_at hl 1 rfl) ?_
                  refine va_get (D := D) (ci := 4) (v := .ref (Y 1)) (C := RX5) (T := TX5) (N := 2) hx hb hts inT_X5 hown hK.1 hP 0 rfl rfl 0 (by decide) (hts _ wfl_RX5_9) (fun _ h9 => h9) rfl dX5_strongestByJoining_56 ?_
                  refine lv_iload_n hx hb dX5_strongestByJoining_59 rfl (lv_at hl 4 rfl) ?_
                  refine va_iald (D := D) (f := (z_20 0)) hx hb hK.1 hP 1 1 rfl rfl h2 dX5_strongestByJoining_60 ?_
                  refine lv_icmp_ne (tgt := 67) hx hb dX5_strongestByJoining_61 (by decide) (fun c_21 => ?_) (fun c_21 => ?_)
                  · refine lv_iinc (v := 3) (lv' := [(4, .int 3), (0, .ref (Y 0)), (1, .ref (A 0)), (2, .int a2), (3, .int a3)]) hx hb dX5_strongestByJoining_67 hl (k := 0) rfl (by decide) (by decide) rfl (fun ls hl => ?_)
                    refine lv_goto (tgt := 37) hx hb dX5_strongestByJoining_70 (by decide) ?_
                    refine lv_iload hx hb dX5_strongestByJoining_37 (lv_at hl 0 rfl) ?_
                    refine lv_if_le (tgt := 73) hx hb dX5_strongestByJoining_39 (by decide) (fun c_22 => absurd c_22 (by decide)) (fun c_22 => ?_)
                    refine lv_aload_n hx hb dX5_strongestByJoining_42 rfl (lv_at hl 1 rfl) ?_
                    refine lv_aload_n hx hb dX5_strongestByJoining_43 rfl (lv_at hl 2 rfl) ?_
                    refine lv_iload hx hb dX5_strongestByJoining_44 (lv_at hl 0 rfl) ?_
                    obtain ⟨z_23, hz_23⟩ : ∃ q, q = (pX5_joinOver z_20 u w 3) := ⟨_, rfl⟩
                    refine mV (ws := (wWy cyI Y z_20 ++ (wC cyI A u w))) (ws' := (wWy cyI Y z_23 ++ (wC cyI A u w))) (As := [.ref (A 0), .int 3]) (rest := []) hx hb hml hown hts hl.1 (WS := (wWy cyI Y z_20 ++ (wC cyI A u w))) (WS' := (wWy cyI Y z_23 ++ (wC cyI A u w))) (ro := none) (by rw [hz_23]; exact kX5_joinOver l D cyC cyI cyO Y A z_20 u w 3) bV_X5_joinOver  wml_RX5_18 ⟨rfl, rfl⟩ ⟨Nat.le_of_ble_eq_true rfl, Nat.le_of_ble_eq_true rfl, Nat.zero_le _, Nat.zero_le _⟩ [0, 1, 2, 3, 4, 5, 6, 7, 8, 9, 10, 11] rfl rfl rfl rfl rfl hP hD hS hA hK 0 rfl rfl rfl rfl rfl (Nat.le_of_ble_eq_true rfl) dX5_strongestByJoining_46 (fun H locs hP hD hS => ?_)
                    refine lv_aload_n hx hb dX5_strongestByJoining_49 rfl (lv_at hl 1 rfl) ?_
                    refine va_get (D := D) (ci := 4) (v := .ref (Y 1)) (C := RX5) (T := TX5) (N := 2) hx hb hts inT_X5 hown hK.1 hP 0 rfl rfl 0 (by decide) (hts _ wfl_RX5_9) (fun _ h9 => h9) rfl dX5_strongestByJoining_50 ?_
                    refine lv_iload_n hx hb dX5_strongestByJoining_53 rfl (lv_at hl 3 rfl) ?_
                    refine va_iald (D := D) (f := (z_23 0)) hx hb hK.1 hP 1 1 rfl rfl h1 dX5_strongestByJoining_54 ?_
                    refine lv_aload_n hx hb dX5_strongestByJoining_55 rfl (lv_at hl 1 rfl) ?_
                    refine va_get (D := D) (ci := 4) (v := .ref (Y 1)) (C := RX5) (T := TX5) (N := 2) hx hb hts inT_X5 hown hK.1 hP 0 rfl rfl 0 (by decide) (hts _ wfl_RX5_9) (fun _ h9 => h9) rfl dX5_strongestByJoining_56 ?_
                    refine lv_iload_n hx hb dX5_strongestByJoining_59 rfl (lv_at hl 4 rfl) ?_
                    refine va_iald (D := D) (f := (z_23 0)) hx hb hK.1 hP 1 1 rfl rfl h2 dX5_strongestByJoining_60 ?_
                    refine lv_icmp_ne (tgt := 67) hx hb dX5_strongestByJoining_61 (by decide) (fun c_24 => ?_) (fun c_24 => ?_)
                    · refine lv_iinc (v := 2) (lv' := [(4, .int 2), (0, .ref (Y 0)), (1, .ref (A 0)), (2, .int a2), (3, .int a3)]) hx hb dX5_strongestByJoining_67 hl (k := 0) rfl (by decide) (by decide) rfl (fun ls hl => ?_)
                      refine lv_goto (tgt := 37) hx hb dX5_strongestByJoining_70 (by decide) ?_
                      refine lv_iload hx hb dX5_strongestByJoining_37 (lv_at hl 0 rfl) ?_
                      refine lv_if_le (tgt := 73) hx hb dX5_strongestByJoining_39 (by decide) (fun c_25 => absurd c_25 (by decide)) (fun c_25 => ?_)
                      refine lv_aload_n hx hb dX5_strongestByJoining_42 rfl (lv_at hl 1 rfl) ?_
                      refine lv_aload_n hx hb dX5_strongestByJoining_43 rfl (lv_at hl 2 rfl) ?_
                      refine lv_iload hx hb dX5_strongestByJoining_44 (lv_at hl 0 rfl) ?_
                      obtain ⟨z_26, hz_26⟩ : ∃ q, q = (pX5_joinOver z_23 u w 2) := ⟨_, rfl⟩
                      refine mV (ws := (wWy cyI Y z_23 ++ (wC cyI A u w))) (ws' := (wWy cyI Y z_26 ++ (wC cyI A u w))) (As := [.ref (A 0), .int 2]) (rest := []) hx hb hml hown hts hl.1 (WS := (wWy cyI Y z_23 ++ (wC cyI A u w))) (WS' := (wWy cyI Y z_26 ++ (wC cyI A u w))) (ro := none) (by rw [hz_26]; exact kX5_joinOver l D cyC cyI cyO Y A z_23 u w 2) bV_X5_joinOver  wml_RX5_18 ⟨rfl, rfl⟩ ⟨Nat.le_of_ble_eq_true rfl, Nat.le_of_ble_eq_true rfl, Nat.zero_le _, Nat.zero_le _⟩ [0, 1, 2, 3, 4, 5, 6, 7, 8, 9, 10, 11] rfl rfl rfl rfl rfl hP hD hS hA hK 0 rfl rfl rfl rfl rfl (Nat.le_of_ble_eq_true rfl) dX5_strongestByJoining_46 (fun H locs hP hD hS => ?_)
                      refine lv_aload_n hx hb dX5_strongestByJoining_49 rfl (lv_at hl 1 rfl) ?_
                      refine va_get (D := D) (ci := 4) (v := .ref (Y 1)) (C := RX5) (T := TX5) (N := 2) hx hb hts inT_X5 hown hK.1 hP 0 rfl rfl 0 (by decide) (hts _ wfl_RX5_9) (fun _ h9 => h9) rfl dX5_strongestByJoining_50 ?_
                      refine lv_iload_n hx hb dX5_strongestByJoining_53 rfl (lv_at hl 3 rfl) ?_
                      refine va_iald (D := D) (f := (z_26 0)) hx hb hK.1 hP 1 1 rfl rfl h1 dX5_strongestByJoining_54 ?_
                      refine lv_aload_n hx hb dX5_strongestByJoining_55 rfl (lv_at hl 1 rfl) ?_
                      refine va_get (D := D) (ci := 4) (v := .ref (Y 1)) (C := RX5) (T := TX5) (N := 2) hx hb hts inT_X5 hown hK.1 hP 0 rfl rfl 0 (by decide) (hts _ wfl_RX5_9) (fun _ h9 => h9) rfl dX5_strongestByJoining_56 ?_
                      refine lv_iload_n hx hb dX5_strongestByJoining_59 rfl (lv_at hl 4 rfl) ?_
                      refine va_iald (D := D) (f := (z_26 0)) hx hb hK.1 hP 1 1 rfl rfl h2 dX5_strongestByJoining_60 ?_
                      refine lv_icmp_ne (tgt := 67) hx hb dX5_strongestByJoining_61 (by decide) (fun c_27 => ?_) (fun c_27 => ?_)
                      · refine lv_iinc (v := 1) (lv' := [(4, .int 1), (0, .ref (Y 0)), (1, .ref (A 0)), (2, .int a2), (3, .int a3)]) hx hb dX5_strongestByJoining_67 hl (k := 0) rfl (by decide) (by decide) rfl (fun ls hl => ?_)
                        refine lv_goto (tgt := 37) hx hb dX5_strongestByJoining_70 (by decide) ?_
                        refine lv_iload hx hb dX5_strongestByJoining_37 (lv_at hl 0 rfl) ?_
                        refine lv_if_le (tgt := 73) hx hb dX5_strongestByJoining_39 (by decide) (fun c_28 => absurd c_28 (by decide)) (fun c_28 => ?_)
                        refine lv_aload_n hx hb dX5_strongestByJoining_42 rfl (lv_at hl 1 rfl) ?_
                        refine lv_aload_n hx hb dX5_strongestByJoining_43 rfl (lv_at hl 2 rfl) ?_
                        refine lv_iload hx hb dX5_strongestByJoining_44 (lv_at hl 0 rfl) ?_
                        obtain ⟨z_29, hz_29⟩ : ∃ q, q = (pX5_joinOver z_26 u w 1) := ⟨_, rfl⟩
                        refine mV (ws := (wWy cyI Y z_26 ++ (wC cyI A u w))) (ws' := (wWy cyI Y z_29 ++ (wC cyI A u w))) (As := [.ref (A 0), .int 1]) (rest := []) hx hb hml hown hts hl.1 (WS := (wWy cyI Y z_26 ++ (wC cyI A u w))) (WS' := (wWy cyI Y z_29 ++ (wC cyI A u w))) (ro := none) (by rw [hz_29]; exact kX5_joinOver l D cyC cyI cyO Y A z_26 u w 1) bV_X5_joinOver  wml_RX5_18 ⟨rfl, rfl⟩ ⟨Nat.le_of_ble_eq_true rfl, Nat.le_of_ble_eq_true rfl, Nat.zero_le _, Nat.zero_le _⟩ [0, 1, 2, 3, 4, 5, 6, 7, 8, 9, 10, 11] rfl rfl rfl rfl rfl hP hD hS hA hK 0 rfl rfl rfl rfl rfl (Nat.le_of_ble_eq_true rfl) dX5_strongestByJoining_46 (fun H locs hP hD hS => ?_)
                        refine lv_aload_n hx hb dX5_strongestByJoining_49 rfl (lv_at hl 1 rfl) ?_
                        refine va_get (D := D) (ci := 4) (v := .ref (Y 1)) (C := RX5) (T := TX5) (N := 2) hx hb hts inT_X5 hown hK.1 hP 0 rfl rfl 0 (by decide) (hts _ wfl_RX5_9) (fun _ h9 => h9) rfl dX5_strongestByJoining_50 ?_
                        refine lv_iload_n hx hb dX5_strongestByJoining_53 rfl (lv_at hl 3 rfl) ?_
                        refine va_iald (D := D) (f := (z_29 0)) hx hb hK.1 hP 1 1 rfl rfl h1 dX5_strongestByJoining_54 ?_
                        refine lv_aload_n hx hb dX5_strongestByJoining_55 rfl (lv_at hl 1 rfl) ?_
                        refine va_get (D := D) (ci := 4) (v := .ref (Y 1)) (C := RX5) (T := TX5) (N := 2) hx hb hts inT_X5 hown hK.1 hP 0 rfl rfl 0 (by decide) (hts _ wfl_RX5_9) (fun _ h9 => h9) rfl dX5_strongestByJoining_56 ?_
                        refine lv_iload_n hx hb dX5_strongestByJoining_59 rfl (lv_at hl 4 rfl) ?_
                        refine va_iald (D := D) (f := (z_29 0)) hx hb hK.1 hP 1 1 rfl rfl h2 dX5_strongestByJoining_60 ?_
                        refine lv_icmp_ne (tgt := 67) hx hb dX5_strongestByJoining_61 (by decide) (fun c_30 => ?_) (fun c_30 => ?_)
                        · refine lv_iinc (v := 0) (lv' := [(4, .int 0), (0, .ref (Y 0)), (1, .ref (A 0)), (2, .int a2), (3, .int a3)]) hx hb dX5_strongestByJoining_67 hl (k := 0) rfl (by decide) (by decide) rfl (fun ls hl => ?_)
                          refine lv_goto (tgt := 37) hx hb dX5_strongestByJoining_70 (by decide) ?_
                          refine lv_iload hx hb dX5_strongestByJoining_37 (lv_at hl 0 rfl) ?_
                          refine lv_if_le (tgt := 73) hx hb dX5_strongestByJoining_39 (by decide) (fun c_31 => ?_) (fun c_31 => absurd (by decide) c_31)
                          refine lv_bipush (v := (-4)) hx hb dX5_strongestByJoining_73 (by decide) ?_
                          have e9 : (pX5_strongestByJoining g u w a2 a3) = ((-4), z_29) := by simp only [pX5_strongestByJoining, ← hz_2, ← hz_5, ← hz_8, ← hz_11, ← hz_14, ← hz_17, ← hz_20, ← hz_23, ← hz_26, ← hz_29, if_neg c_1, if_neg c_6, if_neg c_9, if_neg c_12, if_neg c_15, if_neg c_18, if_neg c_21, if_neg c_24, if_neg c_27, if_neg c_30]
                          have e9_0 : (pX5_strongestByJoining g u w a2 a3).1 = (-4) := by rw [e9]
                          have e9_1 : (pX5_strongestByJoining g u w a2 a3).2 = z_29 := by rw [e9]
                          exact W.iret (v := (-4)) hx hb hr (fun t ht hW => ⟨⟨by rw [e9_0], by rw [e9_1, ht]; exact hP⟩, hS.F ht⟩) hS.2.2 dX5_strongestByJoining_75
                        · refine lv_iload hx hb dX5_strongestByJoining_64 (lv_at hl 0 rfl) ?_
                          have e9 : (pX5_strongestByJoining g u w a2 a3) = (1, z_29) := by simp only [pX5_strongestByJoining, ← hz_2, ← hz_5, ← hz_8, ← hz_11, ← hz_14, ← hz_17, ← hz_20, ← hz_23, ← hz_26, ← hz_29, if_neg c_1, if_neg c_6, if_neg c_9, if_neg c_12, if_neg c_15, if_neg c_18, if_neg c_21, if_neg c_24, if_neg c_27, if_pos c_30]
                          have e9_0 : (pX5_strongestByJoining g u w a2 a3).1 = 1 := by rw [e9]
                          have e9_1 : (pX5_strongestByJoining g u w a2 a3).2 = z_29 := by rw [e9]
                          exact W.iret (v := 1) hx hb hr (fun t ht hW => ⟨⟨by rw [e9_0], by rw [e9_1, ht]; exact hP⟩, hS.F ht⟩) hS.2.2 dX5_strongestByJoining_66
                      · refine lv_iload hx hb dX5_strongestByJoining_64 (lv_at hl 0 rfl) ?_
                        have e9 : (pX5_strongestByJoining g u w a2 a3) = (2, z_26) := by simp only [pX5_strongestByJoining, ← hz_2, ← hz_5, ← hz_8, ← hz_11, ← hz_14, ← hz_17, ← hz_20, ← hz_23, ← hz_26, if_neg c_1, if_neg c_6, if_neg c_9, if_neg c_12, if_neg c_15, if_neg c_18, if_neg c_21, if_neg c_24, if_pos c_27]
                        have e9_0 : (pX5_strongestByJoining g u w a2 a3).1 = 2 := by rw [e9]
                        have e9_1 : (pX5_strongestByJoining g u w a2 a3).2 = z_26 := by rw [e9]
                        exact W.iret (v := 2) hx hb hr (fun t ht hW => ⟨⟨by rw [e9_0], by rw [e9_1, ht]; exact hP⟩, hS.F ht⟩) hS.2.2 dX5_strongestByJoining_66
                    · refine lv_iload hx hb dX5_strongestByJoining_64 (lv_at hl 0 rfl) ?_
                      have e9 : (pX5_strongestByJoining g u w a2 a3) = (3, z_23) := by simp only [pX5_strongestByJoining, ← hz_2, ← hz_5, ← hz_8, ← hz_11, ← hz_14, ← hz_17, ← hz_20, ← hz_23, if_neg c_1, if_neg c_6, if_neg c_9, if_neg c_12, if_neg c_15, if_neg c_18, if_neg c_21, if_pos c_24]
                      have e9_0 : (pX5_strongestByJoining g u w a2 a3).1 = 3 := by rw [e9]
                      have e9_1 : (pX5_strongestByJoining g u w a2 a3).2 = z_23 := by rw [e9]
                      exact W.iret (v := 3) hx hb hr (fun t ht hW => ⟨⟨by rw [e9_0], by rw [e9_1, ht]; exact hP⟩, hS.F ht⟩) hS.2.2 dX5_strongestByJoining_66
                  · refine lv_iload hx hb dX5_strongestByJoining_64 (lv_at hl 0 rfl) ?_
                    have e9 : (pX5_strongestByJoining g u w a2 a3) = (4, z_20) := by simp only [pX5_strongestByJoining, ← hz_2, ← hz_5, ← hz_8, ← hz_11, ← hz_14, ← hz_17, ← hz_20, if_neg c_1, if_neg c_6, if_neg c_9, if_neg c_12, if_neg c_15, if_neg c_18, if_pos c_21]
                    have e9_0 : (pX5_strongestByJoining g u w a2 a3).1 = 4 := by rw [e9]
                    have e9_1 : (pX5_strongestByJoining g u w a2 a3).2 = z_20 := by rw [e9]
                    exact W.iret (v := 4) hx hb hr (fun t ht hW => ⟨⟨by rw [e9_0], by rw [e9_1, ht]; exact hP⟩, hS.F ht⟩) hS.2.2 dX5_strongestByJoining_66
                · refine lv_iload hx hb dX5_strongestByJoining_64 (lv_at hl 0 rfl) ?_
                  have e9 : (pX5_strongestByJoining g u w a2 a3) = (5, z_17) := by simp only [pX5_strongestByJoining, ← hz_2, ← hz_5, ← hz_8, ← hz_11, ← hz_14, ← hz_17, if_neg c_1, if_neg c_6, if_neg c_9, if_neg c_12, if_neg c_15, if_pos c_18]
                  have e9_0 : (pX5_strongestByJoining g u w a2 a3).1 = 5 := by rw [e9]
                  have e9_1 : (pX5_strongestByJoining g u w a2 a3).2 = z_17 := by rw [e9]
                  exact W.iret (v := 5) hx hb hr (fun t ht hW => ⟨⟨by rw [e9_0], by rw [e9_1, ht]; exact hP⟩, hS.F ht⟩) hS.2.2 dX5_strongestByJoining_66
              · refine lv_iload hx hb dX5_strongestByJoining_64 (lv_at hl 0 rfl) ?_
                have e9 : (pX5_strongestByJoining g u w a2 a3) = (6, z_14) := by simp only [pX5_strongestByJoining, ← hz_2, ← hz_5, ← hz_8, ← hz_11, ← hz_14, if_neg c_1, if_neg c_6, if_neg c_9, if_neg c_12, if_pos c_15]
                have e9_0 : (pX5_strongestByJoining g u w a2 a3).1 = 6 := by rw [e9]
                have e9_1 : (pX5_strongestByJoining g u w a2 a3).2 = z_14 := by rw [e9]
                exact W.iret (v := 6) hx hb hr (fun t ht hW => ⟨⟨by rw [e9_0], by rw [e9_1, ht]; exact hP⟩, hS.F ht⟩) hS.2.2 dX5_strongestByJoining_66
            · refine lv_iload hx hb dX5_strongestByJoining_64 (lv_at hl 0 rfl) ?_
              have e9 : (pX5_strongestByJoining g u w a2 a3) = (7, z_11) := by simp only [pX5_strongestByJoining, ← hz_2, ← hz_5, ← hz_8, ← hz_11, if_neg c_1, if_neg c_6, if_neg c_9, if_pos c_12]
              have e9_0 : (pX5_strongestByJoining g u w a2 a3).1 = 7 := by rw [e9]
              have e9_1 : (pX5_strongestByJoining g u w a2 a3).2 = z_11 := by rw [e9]
              exact W.iret (v := 7) hx hb hr (fun t ht hW => ⟨⟨by rw [e9_0], by rw [e9_1, ht]; exact hP⟩, hS.F ht⟩) hS.2.2 dX5_strongestByJoining_66
          · refine lv_iload hx hb dX5_strongestByJoining_64 (lv_at hl 0 rfl) ?_
            have e9 : (pX5_strongestByJoining g u w a2 a3) = (8, z_8) := by simp only [pX5_strongestByJoining, ← hz_2, ← hz_5, ← hz_8, if_neg c_1, if_neg c_6, if_pos c_9]
            have e9_0 : (pX5_strongestByJoining g u w a2 a3).1 = 8 := by rw [e9]
            have e9_1 : (pX5_strongestByJoining g u w a2 a3).2 = z_8 := by rw [e9]
            exact W.iret (v := 8) hx hb hr (fun t ht hW => ⟨⟨by rw [e9_0], by rw [e9_1, ht]; exact hP⟩, hS.F ht⟩) hS.2.2 dX5_strongestByJoining_66
        · refine lv_iload hx hb dX5_strongestByJoining_64 (lv_at hl 0 rfl) ?_
          have e9 : (pX5_strongestByJoining g u w a2 a3) = (9, z_5) := by simp only [pX5_strongestByJoining, ← hz_2, ← hz_5, if_neg c_1, if_pos c_6]
          have e9_0 : (pX5_strongestByJoining g u w a2 a3).1 = 9 := by rw [e9]
          have e9_1 : (pX5_strongestByJoining g u w a2 a3).2 = z_5 := by rw [e9]
          exact W.iret (v := 9) hx hb hr (fun t ht hW => ⟨⟨by rw [e9_0], by rw [e9_1, ht]; exact hP⟩, hS.F ht⟩) hS.2.2 dX5_strongestByJoining_66
      | succ k ih_11 =>
        intro i hi H locs hP hD hS ls hl
        have hlt : i < 16 := by omega
        refine lv_iload hx hb dX5_strongestByJoining_11 (lv_at hl 4 rfl) ?_
        refine lv_bipush (v := 16) hx hb dX5_strongestByJoining_13 (by decide) ?_
        refine lv_icmp_ge (tgt := 33) hx hb dX5_strongestByJoining_15 (by decide) (fun c_32 => absurd c_32 (nle_of (C := 16) (N := 16) (by decide) hlt (by decide))) (fun c_32 => ?_)
        refine lv_aload_n hx hb dX5_strongestByJoining_18 rfl (lv_at hl 0 rfl) ?_
        refine va_get (D := D) (ci := 4) (v := .ref (Y 1)) (C := RX5) (T := TX5) (N := 2) hx hb hts inT_X5 hown hK.1 hP 0 rfl rfl 0 (by decide) (hts _ wfl_RX5_9) (fun _ h9 => h9) rfl dX5_strongestByJoining_19 ?_
        refine lv_iload hx hb dX5_strongestByJoining_22 (lv_at hl 4 rfl) ?_
        refine lv_iload hx hb dX5_strongestByJoining_24 (lv_at hl 4 rfl) ?_
        obtain ⟨z_33, hz_33⟩ : ∃ q, q = (upd ((pX5_strongestByJoining_L11 g u w a2 a3 i) 0) i (nI i)) := ⟨_, rfl⟩
        refine va_iast (D := D) (f := ((pX5_strongestByJoining_L11 g u w a2 a3 i) 0)) hx hb hK.1 hP hD hS 1 1 rfl rfl (vp_in_nI (Nat.lt_of_lt_of_le hlt (by decide)) (by decide)) dX5_strongestByJoining_26 (fun H locs hP hD hS => ?_)
        rw [nI_clamp (Nat.lt_trans hlt (by decide))] at hP hD
        have hP : va_P D vwCl (wWy cyI Y (va_up (pX5_strongestByJoining_L11 g u w a2 a3 i) 0 (upd ((pX5_strongestByJoining_L11 g u w a2 a3 i) 0) i (nI i))) ++ (wC cyI A u w)) H := hP
        have hD : va_D A0 (wWy cyI Y (va_up (pX5_strongestByJoining_L11 g u w a2 a3 i) 0 (upd ((pX5_strongestByJoining_L11 g u w a2 a3 i) 0) i (nI i))) ++ (wC cyI A u w)) := hD
        rw [← hz_33] at hP hD
        refine lv_iinc (v := (nI (i + 1))) (lv' := [(4, .int (nI (i + 1))), (0, .ref (Y 0)), (1, .ref (A 0)), (2, .int a2), (3, .int a3)]) hx hb dX5_strongestByJoining_27 hl (k := 4) rfl (nI_succ i).symm (by decide) rfl (fun ls hl => ?_)
        refine lv_goto (tgt := 11) hx hb dX5_strongestByJoining_30 (by decide) ?_
        have e8 : pX5_strongestByJoining_L11 g u w a2 a3 (i + 1) = (va_up (pX5_strongestByJoining_L11 g u w a2 a3 i) 0 z_33) := by rw [pX5_strongestByJoining_L11_s] <;> simp only [← hz_33, if_neg c_1]
        exact ih_11 (i + 1) (by omega) _ _ (by rw [e8]; exact hP) (by rw [e8]; exact hD) hS ls (lv_sub hl [1, 2, 3, 4, 0] rfl)
    exact key_11 16 0 (Nat.zero_add 16) _ _ (hP) (hD) hS ls (lv_sub hl [1, 2, 3, 4, 0] rfl)
  · refine lv_bipush (v := 10) hx hb dX5_strongestByJoining_5 (by decide) ?_
    have e9 : (pX5_strongestByJoining g u w a2 a3) = (10, g) := by simp only [pX5_strongestByJoining, if_pos c_1]
    have e9_0 : (pX5_strongestByJoining g u w a2 a3).1 = 10 := by rw [e9]
    have e9_1 : (pX5_strongestByJoining g u w a2 a3).2 = g := by rw [e9]
    exact W.iret (v := 10) hx hb hr (fun t ht hW => ⟨⟨by rw [e9_0], by rw [e9_1, ht]; exact hP⟩, hS.F ht⟩) hS.2.2 dX5_strongestByJoining_7
theorem bV_X5_strongestByJoining : BV RX5 yX5_strongestByJoining cX5_strongestByJoining 5 (some .int) 3 := ⟨wcd_X5_strongestByJoining, wim_X5_strongestByJoining, wse_X5_strongestByJoining, win_RX5, by decide +kernel⟩
def pX5_strongestBySpreading_L22 (g : (Nat → Nat → Int32)) (u : (Nat → Nat → Int32)) (w : (Nat → Int32)) (a2 : Int32) (a3 : Int32) : Nat → Nat → Int32 → (Nat → Nat → Int32) → Int32 × (Nat → Nat → Int32)
  | 0, i, x0_4, u0_0 => (if ((u0_0 1) (a3).toNatClampNeg) ≤ 0 then ((-4), u0_0) else (((u0_0 1) (a3).toNatClampNeg), u0_0))
  | k + 1, i, x0_4, u0_0 => (if x0_4 = 0 then (if ((u0_0 1) (a3).toNatClampNeg) ≤ 0 then ((-4), u0_0) else (((u0_0 1) (a3).toNatClampNeg), u0_0)) else (pX5_strongestBySpreading_L22 g u w a2 a3 k (i + 1) (pX5_spread u0_0 u w).1 (pX5_spread u0_0 u w).2))
theorem pX5_strongestBySpreading_L22_0 (g : (Nat → Nat → Int32)) (u : (Nat → Nat → Int32)) (w : (Nat → Int32)) (a2 : Int32) (a3 : Int32) (i : Nat) (x0_4 : Int32) (u0_0 : (Nat → Nat → Int32)) : pX5_strongestBySpreading_L22 g u w a2 a3 0 i x0_4 u0_0 = (if ((u0_0 1) (a3).toNatClampNeg) ≤ 0 then ((-4), u0_0) else (((u0_0 1) (a3).toNatClampNeg), u0_0)) := rfl
theorem pX5_strongestBySpreading_L22_s (g : (Nat → Nat → Int32)) (u : (Nat → Nat → Int32)) (w : (Nat → Int32)) (a2 : Int32) (a3 : Int32) (k i : Nat) (x0_4 : Int32) (u0_0 : (Nat → Nat → Int32)) : pX5_strongestBySpreading_L22 g u w a2 a3 (k + 1) i x0_4 u0_0 = (if x0_4 = 0 then (if ((u0_0 1) (a3).toNatClampNeg) ≤ 0 then ((-4), u0_0) else (((u0_0 1) (a3).toNatClampNeg), u0_0)) else (pX5_strongestBySpreading_L22 g u w a2 a3 k (i + 1) (pX5_spread u0_0 u w).1 (pX5_spread u0_0 u w).2)) := rfl
def pX5_strongestBySpreading (g : (Nat → Nat → Int32)) (u : (Nat → Nat → Int32)) (w : (Nat → Int32)) (a2 : Int32) (a3 : Int32) : Int32 × (Nat → Nat → Int32) := (pX5_strongestBySpreading_L22 g u w a2 a3 16 0 1 (va_up g 1 (upd ((pJ7_fill_53178_16 (fun _ => (g 1)) 0) 0) (a2).toNatClampNeg (10 : Int32))))
set_option maxHeartbeats 4000000 in
set_option maxRecDepth 100000 in
theorem kX5_strongestBySpreading (l : Launch) (D : va_G) (cyC cyI cyO : ClassId) (Y : Nat → Nat) (A : Nat → Nat) (g : (Nat → Nat → Int32)) (u : (Nat → Nat → Int32)) (w : (Nat → Int32)) (a2 : Int32) (a3 : Int32) (h1 : vp_in a2 16) (h2 : vp_in a3 16) : MU l yX5_strongestBySpreading (Ty yX5_strongestBySpreading cX5_strongestBySpreading 6 (some .int)) ({ frames := 3, cells := 0, slots := 0, locals := 69 } : Room) D cyC cyI cyO (wWy cyI Y g ++ (wC cyI A u w)) [.ref (Y 0), .ref (A 0), .int a2, .int a3] (some (.int (pX5_strongestBySpreading g u w a2 a3).1)) (wWy cyI Y (pX5_strongestBySpreading g u w a2 a3).2 ++ (wC cyI A u w)) := by
  intro sz
  refine Met.ofW (cc := cX5_strongestBySpreading) (maxL := 6) (ret := (some .int)) (by decide) rfl ?_
  intro p e s m args below meth cd s₁ B hml hv
  obtain ⟨rfl, hsz, hP, hK, hD0⟩ := hv
  have hx := B.exec
  have hb := B.bytes
  have hr := B.returns
  have hts : ∀ w ∈ TB, w.before ([.ref (Y 0), .ref (A 0), .int a2, .int a3] : List Value).toArray s = true := fun w h => atoms_spec (ws := (Ty yX5_strongestBySpreading cX5_strongestBySpreading 6 (some .int))) B.pre w (List.mem_cons_of_mem _ h)
  have hown : s.vm.findClass RX5 = some m.cls := findClass_of_methodNamed B.named
  have hlocks := B.notSynchronized
  subst hsz
  have hD := hD0.self (sz := s.heap.size)
  have hA : ∀ q : Nat, s.heap.size ≤ q → (va_A (wWy cyI Y g ++ (wC cyI A u w)) s.heap.size) q := fun q h => Or.inr h
  generalize hAe : va_A (wWy cyI Y g ++ (wC cyI A u w)) s.heap.size = A0 at hD hA ⊢
  have hS : va_S A0 s.heap s.heap [] := va_S.rf
  have hl := lv_entry ([.ref (Y 0), .ref (A 0), .int a2, .int a3]) (n := 6) (Nat.le_of_ble_eq_true rfl)
  rw [lg_entry_eq]
  generalize (lg_sl ([.ref (Y 0), .ref (A 0), .int a2, .int a3]) ++ List.replicate (6 - (lg_sl ([.ref (Y 0), .ref (A 0), .int a2, .int a3])).length) Slot.unset).toArray = ls at hl ⊢
  have hl : lv_has ls 6 [(0, .ref (Y 0)), (1, .ref (A 0)), (2, .int a2), (3, .int a3)] := hl
  refine lv_aload_n hx hb dX5_strongestBySpreading_0 rfl (lv_at hl 0 rfl) ?_
  refine va_get (D := D) (ci := 4) (v := .ref (Y 2)) (C := RX5) (T := TX5) (N := 2) hx hb hts inT_X5 hown hK.1 hP 0 rfl rfl 1 (by decide) (hts _ wfl_RX5_15) (fun _ h9 => h9) rfl dX5_strongestBySpreading_1 ?_
  refine lv_iconst (v := 0) hx hb dX5_strongestBySpreading_4 (by decide) ?_
  obtain ⟨z_1, hz_1⟩ : ∃ q, q = (pJ7_fill_53178_16 (fun _ => (g 1)) 0) := ⟨_, rfl⟩
  refine mS (ws := (wWy cyI Y g ++ (wC cyI A u w))) (ws' := (wWy cyI Y (va_up g 1 (z_1 0)) ++ (wC cyI A u w))) (As := [.ref (Y 2), .int 0]) (rest := []) hx hb hml hown hts hl.1 (WS := (wQ cyI 16 (fun _ => (Y 2)) (fun _ => (g 1)))) (WS' := (wQ cyI 16 (fun _ => (Y 2)) z_1)) (ro := none) (by rw [hz_1]; exact kJ7_fill_53178_16 l D cyC cyI cyO (fun _ => (Y 2)) (fun _ => (g 1)) 0) bS_J7_fill_53178  wml_RX5_44 ⟨rfl, rfl⟩ ⟨Nat.le_of_ble_eq_true rfl, Nat.le_of_ble_eq_true rfl, Nat.zero_le _, Nat.zero_le _⟩ [2] rfl rfl rfl rfl rfl hP hD hS hA hK rfl rfl (Nat.le_of_ble_eq_true rfl) dX5_strongestBySpreading_5 (fun H locs hP hD hS => ?_)
  refine lv_aload_n hx hb dX5_strongestBySpreading_8 rfl (lv_at hl 0 rfl) ?_
  refine va_get (D := D) (ci := 4) (v := .ref (Y 2)) (C := RX5) (T := TX5) (N := 2) hx hb hts inT_X5 hown hK.1 hP 0 rfl rfl 1 (by decide) (hts _ wfl_RX5_15) (fun _ h9 => h9) rfl dX5_strongestBySpreading_9 ?_
  refine lv_iload_n hx hb dX5_strongestBySpreading_12 rfl (lv_at hl 2 rfl) ?_
  refine lv_bipush (v := 10) hx hb dX5_strongestBySpreading_13 (by decide) ?_
  obtain ⟨z_2, hz_2⟩ : ∃ q, q = (upd (z_1 0) (a2).toNatClampNeg (10 : Int32)) := ⟨_, rfl⟩
  refine va_iast (D := D) (f := (z_1 0)) hx hb hK.1 hP hD hS 2 1 rfl rfl h1 dX5_strongestBySpreading_15 (fun H locs hP hD hS => ?_)
  have hP : va_P D vwCl (wWy cyI Y (va_up g 1 (upd (z_1 0) (a2).toNatClampNeg (10 : Int32))) ++ (wC cyI A u w)) H := hP
  have hD : va_D A0 (wWy cyI Y (va_up g 1 (upd (z_1 0) (a2).toNatClampNeg (10 : Int32))) ++ (wC cyI A u w)) := hD
  rw [← hz_2] at hP hD
  refine lv_iconst (v := 1) hx hb dX5_strongestBySpreading_16 (by decide) ?_
  refine lv_istore (lv' := [(4, .int 1), (0, .ref (Y 0)), (1, .ref (A 0)), (2, .int a2), (3, .int a3)]) hx hb dX5_strongestBySpreading_17 hl (by decide) rfl (fun ls hl => ?_)
  refine lv_iconst (v := 0) hx hb dX5_strongestBySpreading_19 (by decide) ?_
  refine lv_istore (lv' := [(5, .int 0), (4, .int 1), (0, .ref (Y 0)), (1, .ref (A 0)), (2, .int a2), (3, .int a3)]) hx hb dX5_strongestBySpreading_20 hl (by decide) rfl (fun ls hl => ?_)
  have key_22 : ∀ k i : Nat, i + k = 16 → ∀ (x0_4 : Int32) (u0_0 : (Nat → Nat → Int32)), pX5_strongestBySpreading_L22 g u w a2 a3 k i x0_4 u0_0 = (pX5_strongestBySpreading g u w a2 a3) → ∀ (H : Heap) (locs : List Loc), va_P D vwCl (wWy cyI Y u0_0 ++ (wC cyI A u w)) H → va_D A0 (wWy cyI Y u0_0 ++ (wC cyI A u w)) → va_S A0 s.heap H locs → ∀ (ls : Array Slot), lv_has ls 6 [(0, .ref (Y 0)), (1, .ref (A 0)), (2, .int a2), (3, .int a3), (4, .int x0_4), (5, .int (nI i))] → W p l e (headSpec (Ty yX5_strongestBySpreading cX5_strongestBySpreading 6 (some .int)) ({ frames := 3, cells := 0, slots := 0, locals := 69 } : Room)).room s m ([.ref (Y 0), .ref (A 0), .int a2, .int a3] : List Value).toArray below meth cd H locs 0 0 (MQ below (MQQ (some (.int (pX5_strongestBySpreading g u w a2 a3).1)) D (wWy cyI Y (pX5_strongestBySpreading g u w a2 a3).2 ++ (wC cyI A u w)) A0) ([.ref (Y 0), .ref (A 0), .int a2, .int a3] : List Value).toArray s 0 0 A0) (F0 m 22 ls []) := by
    intro k
    induction k with
    | zero =>
      intro i hi_22 x0_4 u0_0 hN_22 H locs hP hD hS ls hl
      obtain rfl : i = 16 := hi_22
      refine lv_iload hx hb dX5_strongestBySpreading_22 (lv_at hl 5 rfl) ?_
      refine lv_bipush (v := 16) hx hb dX5_strongestBySpreading_24 (by decide) ?_
      refine lv_icmp_ge (tgt := 47) hx hb dX5_strongestBySpreading_26 (by decide) (fun c_3 => ?_) (fun c_3 => absurd (le_of (C := 16) (N := 16) (by decide)) c_3)
      refine lv_aload_n hx hb dX5_strongestBySpreading_47 rfl (lv_at hl 0 rfl) ?_
      refine va_get (D := D) (ci := 4) (v := .ref (Y 2)) (C := RX5) (T := TX5) (N := 2) hx hb hts inT_X5 hown hK.1 hP 0 rfl rfl 1 (by decide) (hts _ wfl_RX5_15) (fun _ h9 => h9) rfl dX5_strongestBySpreading_48 ?_
      refine lv_iload_n hx hb dX5_strongestBySpreading_51 rfl (lv_at hl 3 rfl) ?_
      refine va_iald (D := D) (f := (u0_0 1)) hx hb hK.1 hP 2 1 rfl rfl h2 dX5_strongestBySpreading_52 ?_
      refine lv_if_le (tgt := 65) hx hb dX5_strongestBySpreading_53 (by decide) (fun c_4 => ?_) (fun c_4 => ?_)
      · refine lv_bipush (v := (-4)) hx hb dX5_strongestBySpreading_65 (by decide) ?_
        have e9 : (pX5_strongestBySpreading g u w a2 a3) = ((-4), u0_0) := by rw [← hN_22, pX5_strongestBySpreading_L22_0] <;> simp only [← hz_1, ← hz_2, if_pos c_4]
        have e9_0 : (pX5_strongestBySpreading g u w a2 a3).1 = (-4) := by rw [e9]
        have e9_1 : (pX5_strongestBySpreading g u w a2 a3).2 = u0_0 := by rw [e9]
        exact W.iret (v := (-4)) hx hb hr (fun t ht hW => ⟨⟨by rw [e9_0], by rw [e9_1, ht]; exact hP⟩, hS.F ht⟩) hS.2.2 dX5_strongestBySpreading_67
      · refine lv_aload_n hx hb dX5_strongestBySpreading_56 rfl (lv_at hl 0 rfl) ?_
        refine va_get (D := D) (ci := 4) (v := .ref (Y 2)) (C := RX5) (T := TX5) (N := 2) hx hb hts inT_X5 hown hK.1 hP 0 rfl rfl 1 (by decide) (hts _ wfl_RX5_15) (fun _ h9 => h9) rfl dX5_strongestBySpreading_57 ?_
        refine lv_iload_n hx hb dX5_strongestBySpreading_60 rfl (lv_at hl 3 rfl) ?_
        refine va_iald (D := D) (f := (u0_0 1)) hx hb hK.1 hP 2 1 rfl rfl h2 dX5_strongestBySpreading_61 ?_
        refine lv_goto (tgt := 67) hx hb dX5_strongestBySpreading_62 (by decide) ?_
        have e9 : (pX5_strongestBySpreading g u w a2 a3) = (((u0_0 1) (a3).toNatClampNeg), u0_0) := by rw [← hN_22, pX5_strongestBySpreading_L22_0] <;> simp only [← hz_1, ← hz_2, if_neg c_4]
        have e9_0 : (pX5_strongestBySpreading g u w a2 a3).1 = ((u0_0 1) (a3).toNatClampNeg) := by rw [e9]
        have e9_1 : (pX5_strongestBySpreading g u w a2 a3).2 = u0_0 := by rw [e9]
        exact W.iret (v := ((u0_0 1) (a3).toNatClampNeg)) hx hb hr (fun t ht hW => ⟨⟨by rw [e9_0], by rw [e9_1, ht]; exact hP⟩, hS.F ht⟩) hS.2.2 dX5_strongestBySpreading_67
    | succ k ih_22 =>
      intro i hi_22 x0_4 u0_0 hN_22 H locs hP hD hS ls hl
      have hlt : i < 16 := by omega
      refine lv_iload hx hb dX5_strongestBySpreading_22 (lv_at hl 5 rfl) ?_
      refine lv_bipush (v := 16) hx hb dX5_strongestBySpreading_24 (by decide) ?_
      refine lv_icmp_ge (tgt := 47) hx hb dX5_strongestBySpreading_26 (by decide) (fun c_5 => absurd c_5 (nle_of (C := 16) (N := 16) (by decide) hlt (by decide))) (fun c_5 => ?_)
      refine lv_iload hx hb dX5_strongestBySpreading_29 (lv_at hl 4 rfl) ?_
      refine lv_if_eq (tgt := 47) hx hb dX5_strongestBySpreading_31 (by decide) (fun c_6 => ?_) (fun c_6 => ?_)
      · refine lv_aload_n hx hb dX5_strongestBySpreading_47 rfl (lv_at hl 0 rfl) ?_
        refine va_get (D := D) (ci := 4) (v := .ref (Y 2)) (C := RX5) (T := TX5) (N := 2) hx hb hts inT_X5 hown hK.1 hP 0 rfl rfl 1 (by decide) (hts _ wfl_RX5_15) (fun _ h9 => h9) rfl dX5_strongestBySpreading_48 ?_
        refine lv_iload_n hx hb dX5_strongestBySpreading_51 rfl (lv_at hl 3 rfl) ?_
        refine va_iald (D := D) (f := (u0_0 1)) hx hb hK.1 hP 2 1 rfl rfl h2 dX5_strongestBySpreading_52 ?_
        refine lv_if_le (tgt := 65) hx hb dX5_strongestBySpreading_53 (by decide) (fun c_7 => ?_) (fun c_7 => ?_)
        · refine lv_bipush (v := (-4)) hx hb dX5_strongestBySpreading_65 (by decide) ?_
          have e9 : (pX5_strongestBySpreading g u w a2 a3) = ((-4), u0_0) := by rw [← hN_22, pX5_strongestBySpreading_L22_s] <;> simp only [← hz_1, ← hz_2, if_pos c_6, if_pos c_7]
          have e9_0 : (pX5_strongestBySpreading g u w a2 a3).1 = (-4) := by rw [e9]
          have e9_1 : (pX5_strongestBySpreading g u w a2 a3).2 = u0_0 := by rw [e9]
          exact W.iret (v := (-4)) hx hb hr (fun t ht hW => ⟨⟨by rw [e9_0], by rw [e9_1, ht]; exact hP⟩, hS.F ht⟩) hS.2.2 dX5_strongestBySpreading_67
        · refine lv_aload_n hx hb dX5_strongestBySpreading_56 rfl (lv_at hl 0 rfl) ?_
          refine va_get (D := D) (ci := 4) (v := .ref (Y 2)) (C := RX5) (T := TX5) (N := 2) hx hb hts inT_X5 hown hK.1 hP 0 rfl rfl 1 (by decide) (hts _ wfl_RX5_15) (fun _ h9 => h9) rfl dX5_strongestBySpreading_57 ?_
          refine lv_iload_n hx hb dX5_strongestBySpreading_60 rfl (lv_at hl 3 rfl) ?_
          refine va_iald (D := D) (f := (u0_0 1)) hx hb hK.1 hP 2 1 rfl rfl h2 dX5_strongestBySpreading_61 ?_
          refine lv_goto (tgt := 67) hx hb dX5_strongestBySpreading_62 (by decide) ?_
          have e9 : (pX5_strongestBySpreading g u w a2 a3) = (((u0_0 1) (a3).toNatClampNeg), u0_0) := by rw [← hN_22, pX5_strongestBySpreading_L22_s] <;> simp only [← hz_1, ← hz_2, if_pos c_6, if_neg c_7]
          have e9_0 : (pX5_strongestBySpreading g u w a2 a3).1 = ((u0_0 1) (a3).toNatClampNeg) := by rw [e9]
          have e9_1 : (pX5_strongestBySpreading g u w a2 a3).2 = u0_0 := by rw [e9]
          exact W.iret (v := ((u0_0 1) (a3).toNatClampNeg)) hx hb hr (fun t ht hW => ⟨⟨by rw [e9_0], by rw [e9_1, ht]; exact hP⟩, hS.F ht⟩) hS.2.2 dX5_strongestBySpreading_67
      · refine lv_aload_n hx hb dX5_strongestBySpreading_34 rfl (lv_at hl 0 rfl) ?_
        refine lv_aload_n hx hb dX5_strongestBySpreading_35 rfl (lv_at hl 1 rfl) ?_
        obtain ⟨z_8, hz_8⟩ : ∃ q, q = (pX5_spread u0_0 u w) := ⟨_, rfl⟩
        refine mV (ws := (wWy cyI Y u0_0 ++ (wC cyI A u w))) (ws' := (wWy cyI Y z_8.2 ++ (wC cyI A u w))) (As := [.ref (A 0)]) (rest := []) hx hb hml hown hts hl.1 (WS := (wWy cyI Y u0_0 ++ (wC cyI A u w))) (WS' := (wWy cyI Y z_8.2 ++ (wC cyI A u w))) (ro := (some (.int z_8.1))) (by rw [hz_8]; exact kX5_spread l D cyC cyI cyO Y A u0_0 u w) bV_X5_spread  wml_RX5_50 ⟨rfl, rfl⟩ ⟨Nat.le_of_ble_eq_true rfl, Nat.le_of_ble_eq_true rfl, Nat.zero_le _, Nat.zero_le _⟩ [0, 1, 2, 3, 4, 5, 6, 7, 8, 9, 10, 11] rfl rfl rfl rfl rfl hP hD hS hA hK 0 rfl rfl rfl rfl rfl (Nat.le_of_ble_eq_true rfl) dX5_strongestBySpreading_36 (fun H locs hP hD hS => ?_)
        refine lv_istore (lv' := [(4, .int z_8.1), (0, .ref (Y 0)), (1, .ref (A 0)), (2, .int a2), (3, .int a3), (5, .int (nI i))]) hx hb dX5_strongestBySpreading_39 hl (by decide) rfl (fun ls hl => ?_)
        refine lv_iinc (v := (nI (i + 1))) (lv' := [(5, .int (nI (i + 1))), (4, .int z_8.1), (0, .ref (Y 0)), (1, .ref (A 0)), (2, .int a2), (3, .int a3)]) hx hb dX5_strongestBySpreading_41 hl (k := 5) rfl (nI_succ i).symm (by decide) rfl (fun ls hl => ?_)
        refine lv_goto (tgt := 22) hx hb dX5_strongestBySpreading_44 (by decide) ?_
        exact ih_22 (i + 1) (by omega) z_8.1 z_8.2 (by rw [← hN_22, pX5_strongestBySpreading_L22_s] <;> simp only [← hz_1, ← hz_2, ← hz_8, if_neg c_6]) _ _ hP hD hS ls (lv_sub hl [2, 3, 4, 5, 1, 0] rfl)
  exact key_22 16 0 (Nat.zero_add 16) 1 (va_up g 1 z_2) (by simp only [pX5_strongestBySpreading, ← hz_1, ← hz_2]) _ _ hP hD hS ls (lv_sub hl [2, 3, 4, 5, 1, 0] rfl)
theorem bV_X5_strongestBySpreading : BV RX5 yX5_strongestBySpreading cX5_strongestBySpreading 6 (some .int) 3 := ⟨wcd_X5_strongestBySpreading, wim_X5_strongestBySpreading, wse_X5_strongestBySpreading, win_RX5, by decide +kernel⟩
def pX5_roofsFrom_L17 (g : (Nat → Nat → Int32)) (u : (Nat → Nat → Int32)) (w : (Nat → Int32)) (a2 : Int32) (i : Nat) (x_i : Int32) : Nat → Int32 := fo (fun i1 x_i1 => (if (pX0_isThere u w (nI i1)) = 0 then x_i1 else (if (x_i1 &&& (pX4_roofsOf (nI i1))) = 0 then x_i1 else (x_i1 ||| (pX4_roofsOf (nI i1)))))) x_i
theorem pX5_roofsFrom_L17_s (g : (Nat → Nat → Int32)) (u : (Nat → Nat → Int32)) (w : (Nat → Int32)) (a2 : Int32) (i : Nat) (x_i : Int32) (i1 : Nat) : pX5_roofsFrom_L17 g u w a2 i x_i (i1 + 1) = (if (pX0_isThere u w (nI i1)) = 0 then (pX5_roofsFrom_L17 g u w a2 i x_i i1) else (if ((pX5_roofsFrom_L17 g u w a2 i x_i i1) &&& (pX4_roofsOf (nI i1))) = 0 then (pX5_roofsFrom_L17 g u w a2 i x_i i1) else ((pX5_roofsFrom_L17 g u w a2 i x_i i1) ||| (pX4_roofsOf (nI i1))))) := rfl
theorem pX5_roofsFrom_L17_0 (g : (Nat → Nat → Int32)) (u : (Nat → Nat → Int32)) (w : (Nat → Int32)) (a2 : Int32) (i : Nat) (x_i : Int32) : pX5_roofsFrom_L17 g u w a2 i x_i 0 = x_i := rfl
def pX5_roofsFrom_L7 (g : (Nat → Nat → Int32)) (u : (Nat → Nat → Int32)) (w : (Nat → Int32)) (a2 : Int32) : Nat → Int32 := fo (fun i x_i => (pX5_roofsFrom_L17 g u w a2 i x_i 28)) ((1 : Int32) <<< (a2 &&& 31))
theorem pX5_roofsFrom_L7_s (g : (Nat → Nat → Int32)) (u : (Nat → Nat → Int32)) (w : (Nat → Int32)) (a2 : Int32) (i : Nat) : pX5_roofsFrom_L7 g u w a2 (i + 1) = (pX5_roofsFrom_L17 g u w a2 i (pX5_roofsFrom_L7 g u w a2 i) 28) := rfl
theorem pX5_roofsFrom_L7_0 (g : (Nat → Nat → Int32)) (u : (Nat → Nat → Int32)) (w : (Nat → Int32)) (a2 : Int32) : pX5_roofsFrom_L7 g u w a2 0 = ((1 : Int32) <<< (a2 &&& 31)) := rfl
def pX5_roofsFrom (g : (Nat → Nat → Int32)) (u : (Nat → Nat → Int32)) (w : (Nat → Int32)) (a2 : Int32) : Int32 := (pX5_roofsFrom_L7 g u w a2 16)
set_option maxHeartbeats 4000000 in
set_option maxRecDepth 100000 in
theorem kX5_roofsFrom (l : Launch) (D : va_G) (cyC cyI cyO : ClassId) (Y : Nat → Nat) (A : Nat → Nat) (g : (Nat → Nat → Int32)) (u : (Nat → Nat → Int32)) (w : (Nat → Int32)) (a2 : Int32) : RO l yX5_roofsFrom (Ty yX5_roofsFrom cX5_roofsFrom 7 (some .int)) ({ frames := 3, cells := 0, slots := 0, locals := 60 } : Room) D cyC cyI cyO (wWy cyI Y g ++ (wC cyI A u w)) [.ref (Y 0), .ref (A 0), .int a2] (pX5_roofsFrom g u w a2) := by
  refine Met.ofW (cc := cX5_roofsFrom) (maxL := 7) (ret := (some .int)) (by decide) rfl ?_
  intro p e s m args below meth cd s₁ B hml hv
  obtain ⟨rfl, hP, hK⟩ := hv
  have hx := B.exec
  have hb := B.bytes
  have hr := B.returns
  have hts : ∀ w ∈ TB, w.before ([.ref (Y 0), .ref (A 0), .int a2] : List Value).toArray s = true := fun w h => atoms_spec (ws := (Ty yX5_roofsFrom cX5_roofsFrom 7 (some .int))) B.pre w (List.mem_cons_of_mem _ h)
  have hown : s.vm.findClass RX5 = some m.cls := findClass_of_methodNamed B.named
  have hlocks := B.notSynchronized
  have hl := lv_entry ([.ref (Y 0), .ref (A 0), .int a2]) (n := 7) (Nat.le_of_ble_eq_true rfl)
  rw [lg_entry_eq]
  generalize (lg_sl ([.ref (Y 0), .ref (A 0), .int a2]) ++ List.replicate (7 - (lg_sl ([.ref (Y 0), .ref (A 0), .int a2])).length) Slot.unset).toArray = ls at hl ⊢
  have hl : lv_has ls 7 [(0, .ref (Y 0)), (1, .ref (A 0)), (2, .int a2)] := hl
  refine lv_iconst (v := 1) hx hb dX5_roofsFrom_0 (by decide) ?_
  refine lv_iload_n hx hb dX5_roofsFrom_1 rfl (lv_at hl 2 rfl) ?_
  refine lv_ishl hx hb dX5_roofsFrom_2 ?_
  refine lv_istore_n (lv' := [(3, .int ((1 : Int32) <<< (a2 &&& 31))), (0, .ref (Y 0)), (1, .ref (A 0)), (2, .int a2)]) hx hb dX5_roofsFrom_3 rfl hl (by decide) rfl (fun ls hl => ?_)
  refine lv_iconst (v := 0) hx hb dX5_roofsFrom_4 (by decide) ?_
  refine lv_istore (lv' := [(4, .int 0), (3, .int ((1 : Int32) <<< (a2 &&& 31))), (0, .ref (Y 0)), (1, .ref (A 0)), (2, .int a2)]) hx hb dX5_roofsFrom_5 hl (by decide) rfl (fun ls hl => ?_)
  have key_7 : ∀ k i : Nat, i + k = 16 → ∀ (ls : Array Slot), lv_has ls 7 [(0, .ref (Y 0)), (1, .ref (A 0)), (2, .int a2), (3, .int (pX5_roofsFrom_L7 g u w a2 i)), (4, .int (nI i))] → W p l e (headSpec (Ty yX5_roofsFrom cX5_roofsFrom 7 (some .int)) ({ frames := 3, cells := 0, slots := 0, locals := 60 } : Room)).room s m ([.ref (Y 0), .ref (A 0), .int a2] : List Value).toArray below meth cd s.heap [] 0 0 (MQ below (vp_Si (fun x => x = (pX5_roofsFrom g u w a2))) ([.ref (Y 0), .ref (A 0), .int a2] : List Value).toArray s 0 0 (fun _ => False)) (F0 m 7 ls []) := by
    intro k
    induction k with
    | zero =>
      intro i hi ls hl
      obtain rfl : i = 16 := hi
      obtain ⟨z_1, hz_1⟩ : ∃ q, q = (pX5_roofsFrom_L7 g u w a2 16) := ⟨_, rfl⟩
      rw [← hz_1] at hl
      refine lv_iload hx hb dX5_roofsFrom_7 (lv_at hl 4 rfl) ?_
      refine lv_bipush (v := 16) hx hb dX5_roofsFrom_9 (by decide) ?_
      refine lv_icmp_ge (tgt := 64) hx hb dX5_roofsFrom_11 (by decide) (fun c_2 => ?_) (fun c_2 => absurd (le_of (C := 16) (N := 16) (by decide)) c_2)
      refine lv_iload_n hx hb dX5_roofsFrom_64 rfl (lv_at hl 3 rfl) ?_
      have e9 : z_1 = (pX5_roofsFrom g u w a2) := by simp only [pX5_roofsFrom, ← hz_1]
      exact W.iret (v := z_1) hx hb hr (fun t ht hW => ⟨_, rfl, e9, ht⟩) (fun _ h => absurd h List.not_mem_nil) dX5_roofsFrom_65
    | succ k ih_7 =>
      intro i hi ls hl
      have hlt : i < 16 := by omega
      refine lv_iload hx hb dX5_roofsFrom_7 (lv_at hl 4 rfl) ?_
      refine lv_bipush (v := 16) hx hb dX5_roofsFrom_9 (by decide) ?_
      refine lv_icmp_ge (tgt := 64) hx hb dX5_roofsFrom_11 (by decide) (fun c_3 => absurd c_3 (nle_of (C := 16) (N := 16) (by decide) hlt (by decide))) (fun c_3 => ?_)
      refine lv_iconst (v := 0) hx hb dX5_roofsFrom_14 (by decide) ?_
      refine lv_istore (lv' := [(5, .int 0), (0, .ref (Y 0)), (1, .ref (A 0)), (2, .int a2), (3, .int (pX5_roofsFrom_L7 g u w a2 i)), (4, .int (nI i))]) hx hb dX5_roofsFrom_15 hl (by decide) rfl (fun ls hl => ?_)
      have key_17 : ∀ k i1 : Nat, i1 + k = 28 → ∀ (ls : Array Slot), lv_has ls 7 [(0, .ref (Y 0)), (1, .ref (A 0)), (2, .int a2), (3, .int (pX5_roofsFrom_L17 g u w a2 i (pX5_roofsFrom_L7 g u w a2 i) i1)), (4, .int (nI i)), (5, .int (nI i1))] → W p l e (headSpec (Ty yX5_roofsFrom cX5_roofsFrom 7 (some .int)) ({ frames := 3, cells := 0, slots := 0, locals := 60 } : Room)).room s m ([.ref (Y 0), .ref (A 0), .int a2] : List Value).toArray below meth cd s.heap [] 0 0 (MQ below (vp_Si (fun x => x = (pX5_roofsFrom g u w a2))) ([.ref (Y 0), .ref (A 0), .int a2] : List Value).toArray s 0 0 (fun _ => False)) (F0 m 17 ls []) := by
        intro k
        induction k with
        | zero =>
          intro i1 hi1 ls hl
          obtain rfl : i1 = 28 := hi1
          obtain ⟨z_4, hz_4⟩ : ∃ q, q = (pX5_roofsFrom_L17 g u w a2 i (pX5_roofsFrom_L7 g u w a2 i) 28) := ⟨_, rfl⟩
          rw [← hz_4] at hl
          refine lv_iload hx hb dX5_roofsFrom_17 (lv_at hl 5 rfl) ?_
          refine lv_bipush (v := 28) hx hb dX5_roofsFrom_19 (by decide) ?_
          refine lv_icmp_ge (tgt := 58) hx hb dX5_roofsFrom_21 (by decide) (fun c_5 => ?_) (fun c_5 => absurd (le_of (C := 28) (N := 28) (by decide)) c_5)
          refine lv_iinc (v := (nI (i + 1))) (lv' := [(4, .int (nI (i + 1))), (0, .ref (Y 0)), (1, .ref (A 0)), (2, .int a2), (3, .int z_4), (5, .int (nI 28))]) hx hb dX5_roofsFrom_58 hl (k := 4) rfl (nI_succ i).symm (by decide) rfl (fun ls hl => ?_)
          refine lv_goto (tgt := 7) hx hb dX5_roofsFrom_61 (by decide) ?_
          have e8 : pX5_roofsFrom_L7 g u w a2 (i + 1) = z_4 := by rw [pX5_roofsFrom_L7_s] <;> simp only [← hz_4]
          exact ih_7 (i + 1) (by omega) ls (by rw [e8]; exact lv_sub hl [1, 2, 3, 4, 0] rfl)
        | succ k ih_17 =>
          intro i1 hi1 ls hl
          have hlt1 : i1 < 28 := by omega
          refine lv_iload hx hb dX5_roofsFrom_17 (lv_at hl 5 rfl) ?_
          refine lv_bipush (v := 28) hx hb dX5_roofsFrom_19 (by decide) ?_
          refine lv_icmp_ge (tgt := 58) hx hb dX5_roofsFrom_21 (by decide) (fun c_6 => absurd c_6 (nle_of (C := 28) (N := 28) (by decide) hlt1 (by decide))) (fun c_6 => ?_)
          refine lv_iload hx hb dX5_roofsFrom_24 (lv_at hl 5 rfl) ?_
          refine rS (As := [.int (nI i1)]) (rest := []) hx hb hml hown hts hl.1 (kX4_roofsOf l D cyC cyI cyO (nI i1)) bS_X4_roofsOf  wml_RX5_64 ⟨rfl, rfl⟩ ⟨Nat.le_of_ble_eq_true rfl, Nat.le_of_ble_eq_true rfl, Nat.zero_le _, Nat.zero_le _⟩ [] rfl hP hK rfl rfl (Nat.le_of_ble_eq_true rfl) dX5_roofsFrom_26 ?_
          refine lv_istore (lv' := [(6, .int (pX4_roofsOf (nI i1))), (0, .ref (Y 0)), (1, .ref (A 0)), (2, .int a2), (3, .int (pX5_roofsFrom_L17 g u w a2 i (pX5_roofsFrom_L7 g u w a2 i) i1)), (4, .int (nI i)), (5, .int (nI i1))]) hx hb dX5_roofsFrom_29 hl (by decide) rfl (fun ls hl => ?_)
          refine lv_aload_n hx hb dX5_roofsFrom_31 rfl (lv_at hl 2 rfl) ?_
          refine lv_iload hx hb dX5_roofsFrom_32 (lv_at hl 6 rfl) ?_
          refine rV (As := [.int (nI i1)]) (rest := []) hx hb hml hown hts hl.1 (kX0_isThere l D cyC cyI cyO A u w (nI i1) (vp_in_nI (Nat.lt_of_lt_of_le hlt1 (by decide)) (by decide))) bV_X0_isThere  wml_RX5_67 ⟨rfl, rfl⟩ ⟨Nat.le_of_ble_eq_true rfl, Nat.le_of_ble_eq_true rfl, Nat.zero_le _, Nat.zero_le _⟩ [3, 4, 5, 6, 7, 8, 9, 10, 11] rfl hP hK 3 rfl rfl rfl rfl rfl (Nat.le_of_ble_eq_true rfl) dX5_roofsFrom_34 ?_
          refine lv_if_eq (tgt := 52) hx hb dX5_roofsFrom_37 (by decide) (fun c_7 => ?_) (fun c_7 => ?_)
          · refine lv_iinc (v := (nI (i1 + 1))) (lv' := [(5, .int (nI (i1 + 1))), (6, .int (pX4_roofsOf (nI i1))), (0, .ref (Y 0)), (1, .ref (A 0)), (2, .int a2), (3, .int (pX5_roofsFrom_L17 g u w a2 i (pX5_roofsFrom_L7 g u w a2 i) i1)), (4, .int (nI i))]) hx hb dX5_roofsFrom_52 hl (k := 6) rfl (nI_succ i1).symm (by decide) rfl (fun ls hl => ?_)
            refine lv_goto (tgt := 17) hx hb dX5_roofsFrom_55 (by decide) ?_
            have e8 : pX5_roofsFrom_L17 g u w a2 i (pX5_roofsFrom_L7 g u w a2 i) (i1 + 1) = (pX5_roofsFrom_L17 g u w a2 i (pX5_roofsFrom_L7 g u w a2 i) i1) := by rw [pX5_roofsFrom_L17_s] <;> simp only [if_pos c_7]
            exact ih_17 (i1 + 1) (by omega) ls (by rw [e8]; exact lv_sub hl [2, 3, 4, 5, 6, 0] rfl)
          · refine lv_iload_n hx hb dX5_roofsFrom_40 rfl (lv_at hl 4 rfl) ?_
            refine lv_iload hx hb dX5_roofsFrom_41 (lv_at hl 0 rfl) ?_
            refine lv_iand hx hb dX5_roofsFrom_43 ?_
            refine lv_if_eq (tgt := 52) hx hb dX5_roofsFrom_44 (by decide) (fun c_8 => ?_) (fun c_8 => ?_)
            · refine lv_iinc (v := (nI (i1 + 1))) (lv' := [(5, .int (nI (i1 + 1))), (6, .int (pX4_roofsOf (nI i1))), (0, .ref (Y 0)), (1, .ref (A 0)), (2, .int a2), (3, .int (pX5_roofsFrom_L17 g u w a2 i (pX5_roofsFrom_L7 g u w a2 i) i1)), (4, .int (nI i))]) hx hb dX5_roofsFrom_52 hl (k := 6) rfl (nI_succ i1).symm (by decide) rfl (fun ls hl => ?_)
              refine lv_goto (tgt := 17) hx hb dX5_roofsFrom_55 (by decide) ?_
              have e8 : pX5_roofsFrom_L17 g u w a2 i (pX5_roofsFrom_L7 g u w a2 i) (i1 + 1) = (pX5_roofsFrom_L17 g u w a2 i (pX5_roofsFrom_L7 g u w a2 i) i1) := by rw [pX5_roofsFrom_L17_s] <;> simp only [if_neg c_7, if_pos c_8]
              exact ih_17 (i1 + 1) (by omega) ls (by rw [e8]; exact lv_sub hl [2, 3, 4, 5, 6, 0] rfl)
            · refine lv_iload_n hx hb dX5_roofsFrom_47 rfl (lv_at hl 4 rfl) ?_
              refine lv_iload hx hb dX5_roofsFrom_48 (lv_at hl 0 rfl) ?_
              refine lv_ior hx hb dX5_roofsFrom_50 ?_
              refine lv_istore_n (lv' := [(3, .int ((pX5_roofsFrom_L17 g u w a2 i (pX5_roofsFrom_L7 g u w a2 i) i1) ||| (pX4_roofsOf (nI i1)))), (6, .int (pX4_roofsOf (nI i1))), (0, .ref (Y 0)), (1, .ref (A 0)), (2, .int a2), (4, .int (nI i)), (5, .int (nI i1))]) hx hb dX5_roofsFrom_51 rfl hl (by decide) rfl (fun ls hl => ?_)
              refine lv_iinc (v := (nI (i1 + 1))) (lv' := [(5, .int (nI (i1 + 1))), (3, .int ((pX5_roofsFrom_L17 g u w a2 i (pX5_roofsFrom_L7 g u w a2 i) i1) ||| (pX4_roofsOf (nI i1)))), (6, .int (pX4_roofsOf (nI i1))), (0, .ref (Y 0)), (1, .ref (A 0)), (2, .int a2), (4, .int (nI i))]) hx hb dX5_roofsFrom_52 hl (k := 6) rfl (nI_succ i1).symm (by decide) rfl (fun ls hl => ?_)
              refine lv_goto (tgt := 17) hx hb dX5_roofsFrom_55 (by decide) ?_
              have e8 : pX5_roofsFrom_L17 g u w a2 i (pX5_roofsFrom_L7 g u w a2 i) (i1 + 1) = ((pX5_roofsFrom_L17 g u w a2 i (pX5_roofsFrom_L7 g u w a2 i) i1) ||| (pX4_roofsOf (nI i1))) := by rw [pX5_roofsFrom_L17_s] <;> simp only [if_neg c_7, if_neg c_8]
              exact ih_17 (i1 + 1) (by omega) ls (by rw [e8]; exact lv_sub hl [3, 4, 5, 1, 6, 0] rfl)
      exact key_17 28 0 (Nat.zero_add 28) ls (lv_sub hl [1, 2, 3, 4, 5, 0] rfl)
  exact key_7 16 0 (Nat.zero_add 16) ls (lv_sub hl [2, 3, 4, 1, 0] rfl)
theorem bV_X5_roofsFrom : BV RX5 yX5_roofsFrom cX5_roofsFrom 7 (some .int) 2 := ⟨wcd_X5_roofsFrom, wim_X5_roofsFrom, wse_X5_roofsFrom, win_RX5, by decide +kernel⟩
def pX5_oneWalkFurther_L6 (g : (Nat → Nat → Int32)) (u : (Nat → Nat → Int32)) (w : (Nat → Int32)) (a2 : Int32) (a3 : Int32) : Nat → Int32 := fo (fun i x_i => (if (pX6_isIn a3 (pX4_lesserRoof (nI i))) = 0 then (if (pX6_isIn a3 (pX4_greaterRoof (nI i))) = 0 then x_i else (if (pX0_reasonNotToWalk u w a2 (nI i) (pX4_lesserRoof (nI i))) = 0 then (x_i ||| ((1 : Int32) <<< ((pX4_lesserRoof (nI i)) &&& 31))) else x_i)) else (if (pX0_reasonNotToWalk u w a2 (nI i) (pX4_greaterRoof (nI i))) = 0 then (if (pX6_isIn a3 (pX4_greaterRoof (nI i))) = 0 then (x_i ||| ((1 : Int32) <<< ((pX4_greaterRoof (nI i)) &&& 31))) else (if (pX0_reasonNotToWalk u w a2 (nI i) (pX4_lesserRoof (nI i))) = 0 then ((x_i ||| ((1 : Int32) <<< ((pX4_greaterRoof (nI i)) &&& 31))) ||| ((1 : Int32) <<< ((pX4_lesserRoof (nI i)) &&& 31))) else (x_i ||| ((1 : Int32) <<< ((pX4_greaterRoof (nI i)) &&& 31))))) else (if (pX6_isIn a3 (pX4_greaterRoof (nI i))) = 0 then x_i else (if (pX0_reasonNotToWalk u w a2 (nI i) (pX4_lesserRoof (nI i))) = 0 then (x_i ||| ((1 : Int32) <<< ((pX4_lesserRoof (nI i)) &&& 31))) else x_i))))) a3
theorem pX5_oneWalkFurther_L6_s (g : (Nat → Nat → Int32)) (u : (Nat → Nat → Int32)) (w : (Nat → Int32)) (a2 : Int32) (a3 : Int32) (i : Nat) : pX5_oneWalkFurther_L6 g u w a2 a3 (i + 1) = (if (pX6_isIn a3 (pX4_lesserRoof (nI i))) = 0 then (if (pX6_isIn a3 (pX4_greaterRoof (nI i))) = 0 then (pX5_oneWalkFurther_L6 g u w a2 a3 i) else (if (pX0_reasonNotToWalk u w a2 (nI i) (pX4_lesserRoof (nI i))) = 0 then ((pX5_oneWalkFurther_L6 g u w a2 a3 i) ||| ((1 : Int32) <<< ((pX4_lesserRoof (nI i)) &&& 31))) else (pX5_oneWalkFurther_L6 g u w a2 a3 i))) else (if (pX0_reasonNotToWalk u w a2 (nI i) (pX4_greaterRoof (nI i))) = 0 then (if (pX6_isIn a3 (pX4_greaterRoof (nI i))) = 0 then ((pX5_oneWalkFurther_L6 g u w a2 a3 i) ||| ((1 : Int32) <<< ((pX4_greaterRoof (nI i)) &&& 31))) else (if (pX0_reasonNotToWalk u w a2 (nI i) (pX4_lesserRoof (nI i))) = 0 then (((pX5_oneWalkFurther_L6 g u w a2 a3 i) ||| ((1 : Int32) <<< ((pX4_greaterRoof (nI i)) &&& 31))) ||| ((1 : Int32) <<< ((pX4_lesserRoof (nI i)) &&& 31))) else ((pX5_oneWalkFurther_L6 g u w a2 a3 i) ||| ((1 : Int32) <<< ((pX4_greaterRoof (nI i)) &&& 31))))) else (if (pX6_isIn a3 (pX4_greaterRoof (nI i))) = 0 then (pX5_oneWalkFurther_L6 g u w a2 a3 i) else (if (pX0_reasonNotToWalk u w a2 (nI i) (pX4_lesserRoof (nI i))) = 0 then ((pX5_oneWalkFurther_L6 g u w a2 a3 i) ||| ((1 : Int32) <<< ((pX4_lesserRoof (nI i)) &&& 31))) else (pX5_oneWalkFurther_L6 g u w a2 a3 i))))) := rfl
theorem pX5_oneWalkFurther_L6_0 (g : (Nat → Nat → Int32)) (u : (Nat → Nat → Int32)) (w : (Nat → Int32)) (a2 : Int32) (a3 : Int32) : pX5_oneWalkFurther_L6 g u w a2 a3 0 = a3 := rfl
def pX5_oneWalkFurther (g : (Nat → Nat → Int32)) (u : (Nat → Nat → Int32)) (w : (Nat → Int32)) (a2 : Int32) (a3 : Int32) : Int32 := (pX5_oneWalkFurther_L6 g u w a2 a3 28)
set_option maxHeartbeats 4000000 in
set_option maxRecDepth 100000 in
theorem kX5_oneWalkFurther (l : Launch) (D : va_G) (cyC cyI cyO : ClassId) (Y : Nat → Nat) (A : Nat → Nat) (g : (Nat → Nat → Int32)) (u : (Nat → Nat → Int32)) (w : (Nat → Int32)) (a2 : Int32) (a3 : Int32) (ho : vp_in a2 4) : RO l yX5_oneWalkFurther (Ty yX5_oneWalkFurther cX5_oneWalkFurther 8 (some .int)) ({ frames := 2, cells := 0, slots := 0, locals := 44 } : Room) D cyC cyI cyO (wWy cyI Y g ++ (wC cyI A u w)) [.ref (Y 0), .ref (A 0), .int a2, .int a3] (pX5_oneWalkFurther g u w a2 a3) := by
  refine Met.ofW (cc := cX5_oneWalkFurther) (maxL := 8) (ret := (some .int)) (by decide) rfl ?_
  intro p e s m args below meth cd s₁ B hml hv
  obtain ⟨rfl, hP, hK⟩ := hv
  have hx := B.exec
  have hb := B.bytes
  have hr := B.returns
  have hts : ∀ w ∈ TB, w.before ([.ref (Y 0), .ref (A 0), .int a2, .int a3] : List Value).toArray s = true := fun w h => atoms_spec (ws := (Ty yX5_oneWalkFurther cX5_oneWalkFurther 8 (some .int))) B.pre w (List.mem_cons_of_mem _ h)
  have hown : s.vm.findClass RX5 = some m.cls := findClass_of_methodNamed B.named
  have hlocks := B.notSynchronized
  have hl := lv_entry ([.ref (Y 0), .ref (A 0), .int a2, .int a3]) (n := 8) (Nat.le_of_ble_eq_true rfl)
  rw [lg_entry_eq]
  generalize (lg_sl ([.ref (Y 0), .ref (A 0), .int a2, .int a3]) ++ List.replicate (8 - (lg_sl ([.ref (Y 0), .ref (A 0), .int a2, .int a3])).length) Slot.unset).toArray = ls at hl ⊢
  have hl : lv_has ls 8 [(0, .ref (Y 0)), (1, .ref (A 0)), (2, .int a2), (3, .int a3)] := hl
  refine lv_iload_n hx hb dX5_oneWalkFurther_0 rfl (lv_at hl 3 rfl) ?_
  refine lv_istore (lv' := [(4, .int a3), (0, .ref (Y 0)), (1, .ref (A 0)), (2, .int a2), (3, .int a3)]) hx hb dX5_oneWalkFurther_1 hl (by decide) rfl (fun ls hl => ?_)
  refine lv_iconst (v := 0) hx hb dX5_oneWalkFurther_3 (by decide) ?_
  refine lv_istore (lv' := [(5, .int 0), (4, .int a3), (0, .ref (Y 0)), (1, .ref (A 0)), (2, .int a2), (3, .int a3)]) hx hb dX5_oneWalkFurther_4 hl (by decide) rfl (fun ls hl => ?_)
  have key_6 : ∀ k i : Nat, i + k = 28 → ∀ (ls : Array Slot), lv_has ls 8 [(0, .ref (Y 0)), (1, .ref (A 0)), (2, .int a2), (3, .int a3), (4, .int (pX5_oneWalkFurther_L6 g u w a2 a3 i)), (5, .int (nI i))] → W p l e (headSpec (Ty yX5_oneWalkFurther cX5_oneWalkFurther 8 (some .int)) ({ frames := 2, cells := 0, slots := 0, locals := 44 } : Room)).room s m ([.ref (Y 0), .ref (A 0), .int a2, .int a3] : List Value).toArray below meth cd s.heap [] 0 0 (MQ below (vp_Si (fun x => x = (pX5_oneWalkFurther g u w a2 a3))) ([.ref (Y 0), .ref (A 0), .int a2, .int a3] : List Value).toArray s 0 0 (fun _ => False)) (F0 m 6 ls []) := by
    intro k
    induction k with
    | zero =>
      intro i hi ls hl
      obtain rfl : i = 28 := hi
      obtain ⟨z_1, hz_1⟩ : ∃ q, q = (pX5_oneWalkFurther_L6 g u w a2 a3 28) := ⟨_, rfl⟩
      rw [← hz_1] at hl
      refine lv_iload hx hb dX5_oneWalkFurther_6 (lv_at hl 5 rfl) ?_
      refine lv_bipush (v := 28) hx hb dX5_oneWalkFurther_8 (by decide) ?_
      refine lv_icmp_ge (tgt := 93) hx hb dX5_oneWalkFurther_10 (by decide) (fun c_2 => ?_) (fun c_2 => absurd (le_of (C := 28) (N := 28) (by decide)) c_2)
      refine lv_iload hx hb dX5_oneWalkFurther_93 (lv_at hl 4 rfl) ?_
      have e9 : z_1 = (pX5_oneWalkFurther g u w a2 a3) := by simp only [pX5_oneWalkFurther, ← hz_1]
      exact W.iret (v := z_1) hx hb hr (fun t ht hW => ⟨_, rfl, e9, ht⟩) (fun _ h => absurd h List.not_mem_nil) dX5_oneWalkFurther_95
    | succ k ih_6 =>
      intro i hi ls hl
      have hlt : i < 28 := by omega
      refine lv_iload hx hb dX5_oneWalkFurther_6 (lv_at hl 5 rfl) ?_
      refine lv_bipush (v := 28) hx hb dX5_oneWalkFurther_8 (by decide) ?_
      refine lv_icmp_ge (tgt := 93) hx hb dX5_oneWalkFurther_10 (by decide) (fun c_3 => absurd c_3 (nle_of (C := 28) (N := 28) (by decide) hlt (by decide))) (fun c_3 => ?_)
      refine lv_iload hx hb dX5_oneWalkFurther_13 (lv_at hl 5 rfl) ?_
      refine rS (As := [.int (nI i)]) (rest := []) hx hb hml hown hts hl.1 (kX4_lesserRoof l D cyC cyI cyO (nI i)) bS_X4_lesserRoof  wml_RX5_37 ⟨rfl, rfl⟩ ⟨Nat.le_of_ble_eq_true rfl, Nat.le_of_ble_eq_true rfl, Nat.zero_le _, Nat.zero_le _⟩ [] rfl hP hK rfl rfl (Nat.le_of_ble_eq_true rfl) dX5_oneWalkFurther_15 ?_
      refine lv_istore (lv' := [(6, .int (pX4_lesserRoof (nI i))), (0, .ref (Y 0)), (1, .ref (A 0)), (2, .int a2), (3, .int a3), (4, .int (pX5_oneWalkFurther_L6 g u w a2 a3 i)), (5, .int (nI i))]) hx hb dX5_oneWalkFurther_18 hl (by decide) rfl (fun ls hl => ?_)
      refine lv_iload hx hb dX5_oneWalkFurther_20 (lv_at hl 6 rfl) ?_
      refine rS (As := [.int (nI i)]) (rest := []) hx hb hml hown hts hl.1 (kX4_greaterRoof l D cyC cyI cyO (nI i)) bS_X4_greaterRoof  wml_RX5_33 ⟨rfl, rfl⟩ ⟨Nat.le_of_ble_eq_true rfl, Nat.le_of_ble_eq_true rfl, Nat.zero_le _, Nat.zero_le _⟩ [] rfl hP hK rfl rfl (Nat.le_of_ble_eq_true rfl) dX5_oneWalkFurther_22 ?_
      refine lv_istore (lv' := [(7, .int (pX4_greaterRoof (nI i))), (6, .int (pX4_lesserRoof (nI i))), (0, .ref (Y 0)), (1, .ref (A 0)), (2, .int a2), (3, .int a3), (4, .int (pX5_oneWalkFurther_L6 g u w a2 a3 i)), (5, .int (nI i))]) hx hb dX5_oneWalkFurther_25 hl (by decide) rfl (fun ls hl => ?_)
      refine lv_iload_n hx hb dX5_oneWalkFurther_27 rfl (lv_at hl 5 rfl) ?_
      refine lv_iload hx hb dX5_oneWalkFurther_28 (lv_at hl 1 rfl) ?_
      refine rN (As := [.int a3, .int (pX4_lesserRoof (nI i))]) (rest := []) hx hb hml hown hts hl.1 (kX6_isIn l D cyC cyI cyO a3 (pX4_lesserRoof (nI i))) bS_X6_isIn  hK.2.2.2.2.2.2.2.1 ⟨rfl, rfl⟩ ⟨Nat.le_of_ble_eq_true rfl, Nat.le_of_ble_eq_true rfl, Nat.zero_le _, Nat.zero_le _⟩ [] rfl hP hK rfl rfl (Nat.le_of_ble_eq_true rfl) dX5_oneWalkFurther_30 ?_
      refine lv_if_eq (tgt := 57) hx hb dX5_oneWalkFurther_33 (by decide) (fun c_4 => ?_) (fun c_4 => ?_)
      · refine lv_iload_n hx hb dX5_oneWalkFurther_57 rfl (lv_at hl 5 rfl) ?_
        refine lv_iload hx hb dX5_oneWalkFurther_58 (lv_at hl 0 rfl) ?_
        refine rN (As := [.int a3, .int (pX4_greaterRoof (nI i))]) (rest := []) hx hb hml hown hts hl.1 (kX6_isIn l D cyC cyI cyO a3 (pX4_greaterRoof (nI i))) bS_X6_isIn  hK.2.2.2.2.2.2.2.1 ⟨rfl, rfl⟩ ⟨Nat.le_of_ble_eq_true rfl, Nat.le_of_ble_eq_true rfl, Nat.zero_le _, Nat.zero_le _⟩ [] rfl hP hK rfl rfl (Nat.le_of_ble_eq_true rfl) dX5_oneWalkFurther_60 ?_
        refine lv_if_eq (tgt := 87) hx hb dX5_oneWalkFurther_63 (by decide) (fun c_5 => ?_) (fun c_5 => ?_)
        · refine lv_iinc (v := (nI (i + 1))) (lv' := [(5, .int (nI (i + 1))), (7, .int (pX4_greaterRoof (nI i))), (6, .int (pX4_lesserRoof (nI i))), (0, .ref (Y 0)), (1, .ref (A 0)), (2, .int a2), (3, .int a3), (4, .int (pX5_oneWalkFurther_L6 g u w a2 a3 i))]) hx hb dX5_oneWalkFurther_87 hl (k := 7) rfl (nI_succ i).symm (by decide) rfl (fun ls hl => ?_)
          refine lv_goto (tgt := 6) hx hb dX5_oneWalkFurther_90 (by decide) ?_
          have e8 : pX5_oneWalkFurther_L6 g u w a2 a3 (i + 1) = (pX5_oneWalkFurther_L6 g u w a2 a3 i) := by rw [pX5_oneWalkFurther_L6_s] <;> simp only [if_pos c_4, if_pos c_5]
          exact ih_6 (i + 1) (by omega) ls (by rw [e8]; exact lv_sub hl [3, 4, 5, 6, 7, 0] rfl)
        · refine lv_aload_n hx hb dX5_oneWalkFurther_66 rfl (lv_at hl 3 rfl) ?_
          refine lv_iload_n hx hb dX5_oneWalkFurther_67 rfl (lv_at hl 4 rfl) ?_
          refine lv_iload hx hb dX5_oneWalkFurther_68 (lv_at hl 7 rfl) ?_
          refine lv_iload hx hb dX5_oneWalkFurther_70 (lv_at hl 1 rfl) ?_
          refine rV (As := [.int a2, .int (nI i), .int (pX4_lesserRoof (nI i))]) (rest := []) hx hb hml hown hts hl.1 (kX0_reasonNotToWalk l D cyC cyI cyO A u w a2 (nI i) (pX4_lesserRoof (nI i)) ho (vp_in_nI (Nat.lt_of_lt_of_le hlt (by decide)) (by decide))) bV_X0_reasonNotToWalk  wml_RX5_80 ⟨rfl, rfl⟩ ⟨Nat.le_of_ble_eq_true rfl, Nat.le_of_ble_eq_true rfl, Nat.zero_le _, Nat.zero_le _⟩ [3, 4, 5, 6, 7, 8, 9, 10, 11] rfl hP hK 3 rfl rfl rfl rfl rfl (Nat.le_of_ble_eq_true rfl) dX5_oneWalkFurther_72 ?_
          refine lv_if_ne (tgt := 87) hx hb dX5_oneWalkFurther_75 (by decide) (fun c_6 => ?_) (fun c_6 => ?_)
          · refine lv_iinc (v := (nI (i + 1))) (lv' := [(5, .int (nI (i + 1))), (7, .int (pX4_greaterRoof (nI i))), (6, .int (pX4_lesserRoof (nI i))), (0, .ref (Y 0)), (1, .ref (A 0)), (2, .int a2), (3, .int a3), (4, .int (pX5_oneWalkFurther_L6 g u w a2 a3 i))]) hx hb dX5_oneWalkFurther_87 hl (k := 7) rfl (nI_succ i).symm (by decide) rfl (fun ls hl => ?_)
            refine lv_goto (tgt := 6) hx hb dX5_oneWalkFurther_90 (by decide) ?_
            have e8 : pX5_oneWalkFurther_L6 g u w a2 a3 (i + 1) = (pX5_oneWalkFurther_L6 g u w a2 a3 i) := by rw [pX5_oneWalkFurther_L6_s] <;> simp only [if_pos c_4, if_neg c_5, if_neg c_6]
            exact ih_6 (i + 1) (by omega) ls (by rw [e8]; exact lv_sub hl [3, 4, 5, 6, 7, 0] rfl)
          · refine lv_iload hx hb dX5_oneWalkFurther_78 (lv_at hl 6 rfl) ?_
            refine lv_iconst (v := 1) hx hb dX5_oneWalkFurther_80 (by decide) ?_
            refine lv_iload hx hb dX5_oneWalkFurther_81 (lv_at hl 1 rfl) ?_
            refine lv_ishl hx hb dX5_oneWalkFurther_83 ?_
            refine lv_ior hx hb dX5_oneWalkFurther_84 ?_
            refine lv_istore (lv' := [(4, .int ((pX5_oneWalkFurther_L6 g u w a2 a3 i) ||| ((1 : Int32) <<< ((pX4_lesserRoof (nI i)) &&& 31)))), (7, .int (pX4_greaterRoof (nI i))), (6, .int (pX4_lesserRoof (nI i))), (0, .ref (Y 0)), (1, .ref (A 0)), (2, .int a2), (3, .int a3), (5, .int (nI i))]) hx hb dX5_oneWalkFurther_85 hl (by decide) rfl (fun ls hl => ?_)
            refine lv_iinc (v := (nI (i + 1))) (lv' := [(5, .int (nI (i + 1))), (4, .int ((pX5_oneWalkFurther_L6 g u w a2 a3 i) ||| ((1 : Int32) <<< ((pX4_lesserRoof (nI i)) &&& 31)))), (7, .int (pX4_greaterRoof (nI i))), (6, .int (pX4_lesserRoof (nI i))), (0, .ref (Y 0)), (1, .ref (A 0)), (2, .int a2), (3, .int a3)]) hx hb dX5_oneWalkFurther_87 hl (k := 7) rfl (nI_succ i).symm (by decide) rfl (fun ls hl => ?_)
            refine lv_goto (tgt := 6) hx hb dX5_oneWalkFurther_90 (by decide) ?_
            have e8 : pX5_oneWalkFurther_L6 g u w a2 a3 (i + 1) = ((pX5_oneWalkFurther_L6 g u w a2 a3 i) ||| ((1 : Int32) <<< ((pX4_lesserRoof (nI i)) &&& 31))) := by rw [pX5_oneWalkFurther_L6_s] <;> simp only [if_pos c_4, if_neg c_5, if_pos c_6]
            exact ih_6 (i + 1) (by omega) ls (by rw [e8]; exact lv_sub hl [4, 5, 6, 7, 1, 0] rfl)
      · refine lv_aload_n hx hb dX5_oneWalkFurther_36 rfl (lv_at hl 3 rfl) ?_
        refine lv_iload_n hx hb dX5_oneWalkFurther_37 rfl (lv_at hl 4 rfl) ?_
        refine lv_iload hx hb dX5_oneWalkFurther_38 (lv_at hl 7 rfl) ?_
        refine lv_iload hx hb dX5_oneWalkFurther_40 (lv_at hl 0 rfl) ?_
        refine rV (As := [.int a2, .int (nI i), .int (pX4_greaterRoof (nI i))]) (rest := []) hx hb hml hown hts hl.1 (kX0_reasonNotToWalk l D cyC cyI cyO A u w a2 (nI i) (pX4_greaterRoof (nI i)) ho (vp_in_nI (Nat.lt_of_lt_of_le hlt (by decide)) (by decide))) bV_X0_reasonNotToWalk  wml_RX5_80 ⟨rfl, rfl⟩ ⟨Nat.le_of_ble_eq_true rfl, Nat.le_of_ble_eq_true rfl, Nat.zero_le _, Nat.zero_le _⟩ [3, 4, 5, 6, 7, 8, 9, 10, 11] rfl hP hK 3 rfl rfl rfl rfl rfl (Nat.le_of_ble_eq_true rfl) dX5_oneWalkFurther_42 ?_
        refine lv_if_ne (tgt := 57) hx hb dX5_oneWalkFurther_45 (by decide) (fun c_7 => ?_) (fun c_7 => ?_)
        · refine lv_iload_n hx hb dX5_oneWalkFurther_57 rfl (lv_at hl 5 rfl) ?_
          refine lv_iload hx hb dX5_oneWalkFurther_58 (lv_at hl 0 rfl) ?_
          refine rN (As := [.int a3, .int (pX4_greaterRoof (nI i))]) (rest := []) hx hb hml hown hts hl.1 (kX6_isIn l D cyC cyI cyO a3 (pX4_greaterRoof (nI i))) bS_X6_isIn  hK.2.2.2.2.2.2.2.1 ⟨rfl, rfl⟩ ⟨Nat.le_of_ble_eq_true rfl, Nat.le_of_ble_eq_true rfl, Nat.zero_le _, Nat.zero_le _⟩ [] rfl hP hK rfl rfl (Nat.le_of_ble_eq_true rfl) dX5_oneWalkFurther_60 ?_
          refine lv_if_eq (tgt := 87) hx hb dX5_oneWalkFurther_63 (by decide) (fun c_8 => ?_) (fun c_8 => ?_)
          · refine lv_iinc (v := (nI (i + 1))) (lv' := [(5, .int (nI (i + 1))), (7, .int (pX4_greaterRoof (nI i))), (6, .int (pX4_lesserRoof (nI i))), (0, .ref (Y 0)), (1, .ref (A 0)), (2, .int a2), (3, .int a3), (4, .int (pX5_oneWalkFurther_L6 g u w a2 a3 i))]) hx hb dX5_oneWalkFurther_87 hl (k := 7) rfl (nI_succ i).symm (by decide) rfl (fun ls hl => ?_)
            refine lv_goto (tgt := 6) hx hb dX5_oneWalkFurther_90 (by decide) ?_
            have e8 : pX5_oneWalkFurther_L6 g u w a2 a3 (i + 1) = (pX5_oneWalkFurther_L6 g u w a2 a3 i) := by rw [pX5_oneWalkFurther_L6_s] <;> simp only [if_neg c_4, if_neg c_7, if_pos c_8]
            exact ih_6 (i + 1) (by omega) ls (by rw [e8]; exact lv_sub hl [3, 4, 5, 6, 7, 0] rfl)
          · refine lv_aload_n hx hb dX5_oneWalkFurther_66 rfl (lv_at hl 3 rfl) ?_
            refine lv_iload_n hx hb dX5_oneWalkFurther_67 rfl (lv_at hl 4 rfl) ?_
            refine lv_iload hx hb dX5_oneWalkFurther_68 (lv_at hl 7 rfl) ?_
            refine lv_iload hx hb dX5_oneWalkFurther_70 (lv_at hl 1 rfl) ?_
            refine rV (As := [.int a2, .int (nI i), .int (pX4_lesserRoof (nI i))]) (rest := []) hx hb hml hown hts hl.1 (kX0_reasonNotToWalk l D cyC cyI cyO A u w a2 (nI i) (pX4_lesserRoof (nI i)) ho (vp_in_nI (Nat.lt_of_lt_of_le hlt (by decide)) (by decide))) bV_X0_reasonNotToWalk  wml_RX5_80 ⟨rfl, rfl⟩ ⟨Nat.le_of_ble_eq_true rfl, Nat.le_of_ble_eq_true rfl, Nat.zero_le _, Nat.zero_le _⟩ [3, 4, 5, 6, 7, 8, 9, 10, 11] rfl hP hK 3 rfl rfl rfl rfl rfl (Nat.le_of_ble_eq_true rfl) dX5_oneWalkFurther_72 ?_
            refine lv_if_ne (tgt := 87) hx hb dX5_oneWalkFurther_75 (by decide) (fun c_9 => ?_) (fun c_9 => ?_)
            · refine lv_iinc (v := (nI (i + 1))) (lv' := [(5, .int (nI (i + 1))), (7, .int (pX4_greaterRoof (nI i))), (6, .int (pX4_lesserRoof (nI i))), (0, .ref (Y 0)), (1, .ref (A 0)), (2, .int a2), (3, .int a3), (4, .int (pX5_oneWalkFurther_L6 g u w a2 a3 i))]) hx hb dX5_oneWalkFurther_87 hl (k := 7) rfl (nI_succ i).symm (by decide) rfl (fun ls hl => ?_)
              refine lv_goto (tgt := 6) hx hb dX5_oneWalkFurther_90 (by decide) ?_
              have e8 : pX5_oneWalkFurther_L6 g u w a2 a3 (i + 1) = (pX5_oneWalkFurther_L6 g u w a2 a3 i) := by rw [pX5_oneWalkFurther_L6_s] <;> simp only [if_neg c_4, if_neg c_7, if_neg c_8, if_neg c_9]
              exact ih_6 (i + 1) (by omega) ls (by rw [e8]; exact lv_sub hl [3, 4, 5, 6, 7, 0] rfl)
            · refine lv_iload hx hb dX5_oneWalkFurther_78 (lv_at hl 6 rfl) ?_
              refine lv_iconst (v := 1) hx hb dX5_oneWalkFurther_80 (by decide) ?_
              refine lv_iload hx hb dX5_oneWalkFurther_81 (lv_at hl 1 rfl) ?_
              refine lv_ishl hx hb dX5_oneWalkFurther_83 ?_
              refine lv_ior hx hb dX5_oneWalkFurther_84 ?_
              refine lv_istore (lv' := [(4, .int ((pX5_oneWalkFurther_L6 g u w a2 a3 i) ||| ((1 : Int32) <<< ((pX4_lesserRoof (nI i)) &&& 31)))), (7, .int (pX4_greaterRoof (nI i))), (6, .int (pX4_lesserRoof (nI i))), (0, .ref (Y 0)), (1, .ref (A 0)), (2, .int a2), (3, .int a3), (5, .int (nI i))]) hx hb dX5_oneWalkFurther_85 hl (by decide) rfl (fun ls hl => ?_)
              refine lv_iinc (v := (nI (i + 1))) (lv' := [(5, .int (nI (i + 1))), (4, .int ((pX5_oneWalkFurther_L6 g u w a2 a3 i) ||| ((1 : Int32) <<< ((pX4_lesserRoof (nI i)) &&& 31)))), (7, .int (pX4_greaterRoof (nI i))), (6, .int (pX4_lesserRoof (nI i))), (0, .ref (Y 0)), (1, .ref (A 0)), (2, .int a2), (3, .int a3)]) hx hb dX5_oneWalkFurther_87 hl (k := 7) rfl (nI_succ i).symm (by decide) rfl (fun ls hl => ?_)
              refine lv_goto (tgt := 6) hx hb dX5_oneWalkFurther_90 (by decide) ?_
              have e8 : pX5_oneWalkFurther_L6 g u w a2 a3 (i + 1) = ((pX5_oneWalkFurther_L6 g u w a2 a3 i) ||| ((1 : Int32) <<< ((pX4_lesserRoof (nI i)) &&& 31))) := by rw [pX5_oneWalkFurther_L6_s] <;> simp only [if_neg c_4, if_neg c_7, if_neg c_8, if_pos c_9]
              exact ih_6 (i + 1) (by omega) ls (by rw [e8]; exact lv_sub hl [4, 5, 6, 7, 1, 0] rfl)
        · refine lv_iload hx hb dX5_oneWalkFurther_48 (lv_at hl 6 rfl) ?_
          refine lv_iconst (v := 1) hx hb dX5_oneWalkFurther_50 (by decide) ?_
          refine lv_iload hx hb dX5_oneWalkFurther_51 (lv_at hl 0 rfl) ?_
          refine lv_ishl hx hb dX5_oneWalkFurther_53 ?_
          refine lv_ior hx hb dX5_oneWalkFurther_54 ?_
          refine lv_istore (lv' := [(4, .int ((pX5_oneWalkFurther_L6 g u w a2 a3 i) ||| ((1 : Int32) <<< ((pX4_greaterRoof (nI i)) &&& 31)))), (7, .int (pX4_greaterRoof (nI i))), (6, .int (pX4_lesserRoof (nI i))), (0, .ref (Y 0)), (1, .ref (A 0)), (2, .int a2), (3, .int a3), (5, .int (nI i))]) hx hb dX5_oneWalkFurther_55 hl (by decide) rfl (fun ls hl => ?_)
          refine lv_iload_n hx hb dX5_oneWalkFurther_57 rfl (lv_at hl 6 rfl) ?_
          refine lv_iload hx hb dX5_oneWalkFurther_58 (lv_at hl 1 rfl) ?_
          refine rN (As := [.int a3, .int (pX4_greaterRoof (nI i))]) (rest := []) hx hb hml hown hts hl.1 (kX6_isIn l D cyC cyI cyO a3 (pX4_greaterRoof (nI i))) bS_X6_isIn  hK.2.2.2.2.2.2.2.1 ⟨rfl, rfl⟩ ⟨Nat.le_of_ble_eq_true rfl, Nat.le_of_ble_eq_true rfl, Nat.zero_le _, Nat.zero_le _⟩ [] rfl hP hK rfl rfl (Nat.le_of_ble_eq_true rfl) dX5_oneWalkFurther_60 ?_
          refine lv_if_eq (tgt := 87) hx hb dX5_oneWalkFurther_63 (by decide) (fun c_10 => ?_) (fun c_10 => ?_)
          · refine lv_iinc (v := (nI (i + 1))) (lv' := [(5, .int (nI (i + 1))), (4, .int ((pX5_oneWalkFurther_L6 g u w a2 a3 i) ||| ((1 : Int32) <<< ((pX4_greaterRoof (nI i)) &&& 31)))), (7, .int (pX4_greaterRoof (nI i))), (6, .int (pX4_lesserRoof (nI i))), (0, .ref (Y 0)), (1, .ref (A 0)), (2, .int a2), (3, .int a3)]) hx hb dX5_oneWalkFurther_87 hl (k := 7) rfl (nI_succ i).symm (by decide) rfl (fun ls hl => ?_)
            refine lv_goto (tgt := 6) hx hb dX5_oneWalkFurther_90 (by decide) ?_
            have e8 : pX5_oneWalkFurther_L6 g u w a2 a3 (i + 1) = ((pX5_oneWalkFurther_L6 g u w a2 a3 i) ||| ((1 : Int32) <<< ((pX4_greaterRoof (nI i)) &&& 31))) := by rw [pX5_oneWalkFurther_L6_s] <;> simp only [if_neg c_4, if_pos c_7, if_pos c_10]
            exact ih_6 (i + 1) (by omega) ls (by rw [e8]; exact lv_sub hl [4, 5, 6, 7, 1, 0] rfl)
          · refine lv_aload_n hx hb dX5_oneWalkFurther_66 rfl (lv_at hl 4 rfl) ?_
            refine lv_iload_n hx hb dX5_oneWalkFurther_67 rfl (lv_at hl 5 rfl) ?_
            refine lv_iload hx hb dX5_oneWalkFurther_68 (lv_at hl 7 rfl) ?_
            refine lv_iload hx hb dX5_oneWalkFurther_70 (lv_at hl 2 rfl) ?_
            refine rV (As := [.int a2, .int (nI i), .int (pX4_lesserRoof (nI i))]) (rest := []) hx hb hml hown hts hl.1 (kX0_reasonNotToWalk l D cyC cyI cyO A u w a2 (nI i) (pX4_lesserRoof (nI i)) ho (vp_in_nI (Nat.lt_of_lt_of_le hlt (by decide)) (by decide))) bV_X0_reasonNotToWalk  wml_RX5_80 ⟨rfl, rfl⟩ ⟨Nat.le_of_ble_eq_true rfl, Nat.le_of_ble_eq_true rfl, Nat.zero_le _, Nat.zero_le _⟩ [3, 4, 5, 6, 7, 8, 9, 10, 11] rfl hP hK 3 rfl rfl rfl rfl rfl (Nat.le_of_ble_eq_true rfl) dX5_oneWalkFurther_72 ?_
            refine lv_if_ne (tgt := 87) hx hb dX5_oneWalkFurther_75 (by decide) (fun c_11 => ?_) (fun c_11 => ?_)
            · refine lv_iinc (v := (nI (i + 1))) (lv' := [(5, .int (nI (i + 1))), (4, .int ((pX5_oneWalkFurther_L6 g u w a2 a3 i) ||| ((1 : Int32) <<< ((pX4_greaterRoof (nI i)) &&& 31)))), (7, .int (pX4_greaterRoof (nI i))), (6, .int (pX4_lesserRoof (nI i))), (0, .ref (Y 0)), (1, .ref (A 0)), (2, .int a2), (3, .int a3)]) hx hb dX5_oneWalkFurther_87 hl (k := 7) rfl (nI_succ i).symm (by decide) rfl (fun ls hl => ?_)
              refine lv_goto (tgt := 6) hx hb dX5_oneWalkFurther_90 (by decide) ?_
              have e8 : pX5_oneWalkFurther_L6 g u w a2 a3 (i + 1) = ((pX5_oneWalkFurther_L6 g u w a2 a3 i) ||| ((1 : Int32) <<< ((pX4_greaterRoof (nI i)) &&& 31))) := by rw [pX5_oneWalkFurther_L6_s] <;> simp only [if_neg c_4, if_pos c_7, if_neg c_10, if_neg c_11]
              exact ih_6 (i + 1) (by omega) ls (by rw [e8]; exact lv_sub hl [4, 5, 6, 7, 1, 0] rfl)
            · refine lv_iload hx hb dX5_oneWalkFurther_78 (lv_at hl 0 rfl) ?_
              refine lv_iconst (v := 1) hx hb dX5_oneWalkFurther_80 (by decide) ?_
              refine lv_iload hx hb dX5_oneWalkFurther_81 (lv_at hl 2 rfl) ?_
              refine lv_ishl hx hb dX5_oneWalkFurther_83 ?_
              refine lv_ior hx hb dX5_oneWalkFurther_84 ?_
              refine lv_istore (lv' := [(4, .int (((pX5_oneWalkFurther_L6 g u w a2 a3 i) ||| ((1 : Int32) <<< ((pX4_greaterRoof (nI i)) &&& 31))) ||| ((1 : Int32) <<< ((pX4_lesserRoof (nI i)) &&& 31)))), (7, .int (pX4_greaterRoof (nI i))), (6, .int (pX4_lesserRoof (nI i))), (0, .ref (Y 0)), (1, .ref (A 0)), (2, .int a2), (3, .int a3), (5, .int (nI i))]) hx hb dX5_oneWalkFurther_85 hl (by decide) rfl (fun ls hl => ?_)
              refine lv_iinc (v := (nI (i + 1))) (lv' := [(5, .int (nI (i + 1))), (4, .int (((pX5_oneWalkFurther_L6 g u w a2 a3 i) ||| ((1 : Int32) <<< ((pX4_greaterRoof (nI i)) &&& 31))) ||| ((1 : Int32) <<< ((pX4_lesserRoof (nI i)) &&& 31)))), (7, .int (pX4_greaterRoof (nI i))), (6, .int (pX4_lesserRoof (nI i))), (0, .ref (Y 0)), (1, .ref (A 0)), (2, .int a2), (3, .int a3)]) hx hb dX5_oneWalkFurther_87 hl (k := 7) rfl (nI_succ i).symm (by decide) rfl (fun ls hl => ?_)
              refine lv_goto (tgt := 6) hx hb dX5_oneWalkFurther_90 (by decide) ?_
              have e8 : pX5_oneWalkFurther_L6 g u w a2 a3 (i + 1) = (((pX5_oneWalkFurther_L6 g u w a2 a3 i) ||| ((1 : Int32) <<< ((pX4_greaterRoof (nI i)) &&& 31))) ||| ((1 : Int32) <<< ((pX4_lesserRoof (nI i)) &&& 31))) := by rw [pX5_oneWalkFurther_L6_s] <;> simp only [if_neg c_4, if_pos c_7, if_neg c_10, if_pos c_11]
              exact ih_6 (i + 1) (by omega) ls (by rw [e8]; exact lv_sub hl [4, 5, 6, 7, 1, 0] rfl)
  exact key_6 28 0 (Nat.zero_add 28) ls (lv_sub hl [2, 3, 4, 5, 1, 0] rfl)
theorem bV_X5_oneWalkFurther : BV RX5 yX5_oneWalkFurther cX5_oneWalkFurther 8 (some .int) 3 := ⟨wcd_X5_oneWalkFurther, wim_X5_oneWalkFurther, wse_X5_oneWalkFurther, win_RX5, by decide +kernel⟩
def pX5_fewestWalks_L13 (g : (Nat → Nat → Int32)) (u : (Nat → Nat → Int32)) (w : (Nat → Int32)) (a2 : Int32) (a3 : Int32) : Nat → Nat → Int32 → Int32
  | 0, i, x0_4 => (-4)
  | k + 1, i, x0_4 => (if (pX6_isIn x0_4 a3) = 0 then (pX5_fewestWalks_L13 g u w a2 a3 k (i + 1) (pX5_oneWalkFurther g u w a2 x0_4)) else (nI i))
theorem pX5_fewestWalks_L13_0 (g : (Nat → Nat → Int32)) (u : (Nat → Nat → Int32)) (w : (Nat → Int32)) (a2 : Int32) (a3 : Int32) (i : Nat) (x0_4 : Int32) : pX5_fewestWalks_L13 g u w a2 a3 0 i x0_4 = (-4) := rfl
theorem pX5_fewestWalks_L13_s (g : (Nat → Nat → Int32)) (u : (Nat → Nat → Int32)) (w : (Nat → Int32)) (a2 : Int32) (a3 : Int32) (k i : Nat) (x0_4 : Int32) : pX5_fewestWalks_L13 g u w a2 a3 (k + 1) i x0_4 = (if (pX6_isIn x0_4 a3) = 0 then (pX5_fewestWalks_L13 g u w a2 a3 k (i + 1) (pX5_oneWalkFurther g u w a2 x0_4)) else (nI i)) := rfl
def pX5_fewestWalks (g : (Nat → Nat → Int32)) (u : (Nat → Nat → Int32)) (w : (Nat → Int32)) (a2 : Int32) (a3 : Int32) : Int32 := (pX5_fewestWalks_L13 g u w a2 a3 16 0 ((1 : Int32) <<< (((u 6) (a2).toNatClampNeg) &&& 31)))
set_option maxHeartbeats 4000000 in
set_option maxRecDepth 100000 in
theorem kX5_fewestWalks (l : Launch) (D : va_G) (cyC cyI cyO : ClassId) (Y : Nat → Nat) (A : Nat → Nat) (g : (Nat → Nat → Int32)) (u : (Nat → Nat → Int32)) (w : (Nat → Int32)) (a2 : Int32) (a3 : Int32) (ho : vp_in a2 4) : RO l yX5_fewestWalks (Ty yX5_fewestWalks cX5_fewestWalks 6 (some .int)) ({ frames := 3, cells := 0, slots := 0, locals := 71 } : Room) D cyC cyI cyO (wWy cyI Y g ++ (wC cyI A u w)) [.ref (Y 0), .ref (A 0), .int a2, .int a3] (pX5_fewestWalks g u w a2 a3) := by
  refine Met.ofW (cc := cX5_fewestWalks) (maxL := 6) (ret := (some .int)) (by decide) rfl ?_
  intro p e s m args below meth cd s₁ B hml hv
  obtain ⟨rfl, hP, hK⟩ := hv
  have hx := B.exec
  have hb := B.bytes
  have hr := B.returns
  have hts : ∀ w ∈ TB, w.before ([.ref (Y 0), .ref (A 0), .int a2, .int a3] : List Value).toArray s = true := fun w h => atoms_spec (ws := (Ty yX5_fewestWalks cX5_fewestWalks 6 (some .int))) B.pre w (List.mem_cons_of_mem _ h)
  have hown : s.vm.findClass RX5 = some m.cls := findClass_of_methodNamed B.named
  have hlocks := B.notSynchronized
  have hl := lv_entry ([.ref (Y 0), .ref (A 0), .int a2, .int a3]) (n := 6) (Nat.le_of_ble_eq_true rfl)
  rw [lg_entry_eq]
  generalize (lg_sl ([.ref (Y 0), .ref (A 0), .int a2, .int a3]) ++ List.replicate (6 - (lg_sl ([.ref (Y 0), .ref (A 0), .int a2, .int a3])).length) Slot.unset).toArray = ls at hl ⊢
  have hl : lv_has ls 6 [(0, .ref (Y 0)), (1, .ref (A 0)), (2, .int a2), (3, .int a3)] := hl
  refine lv_iconst (v := 1) hx hb dX5_fewestWalks_0 (by decide) ?_
  refine lv_aload_n hx hb dX5_fewestWalks_1 rfl (lv_at hl 1 rfl) ?_
  refine va_get (D := D) (ci := 0) (v := .ref (A 7)) (C := RX0) (T := TX0) (N := 19) hx hb hts inT_X0 hown hK.1 hP 3 rfl rfl 6 (by decide) (hts _ wfl_RX5_70) (fun _ h9 => h9) rfl dX5_fewestWalks_2 ?_
  refine lv_iload_n hx hb dX5_fewestWalks_5 rfl (lv_at hl 2 rfl) ?_
  refine va_iald (D := D) (f := (u 6)) hx hb hK.1 hP 10 1 rfl rfl ho dX5_fewestWalks_6 ?_
  refine lv_ishl hx hb dX5_fewestWalks_7 ?_
  refine lv_istore (lv' := [(4, .int ((1 : Int32) <<< (((u 6) (a2).toNatClampNeg) &&& 31))), (0, .ref (Y 0)), (1, .ref (A 0)), (2, .int a2), (3, .int a3)]) hx hb dX5_fewestWalks_8 hl (by decide) rfl (fun ls hl => ?_)
  refine lv_iconst (v := 0) hx hb dX5_fewestWalks_10 (by decide) ?_
  refine lv_istore (lv' := [(5, .int 0), (4, .int ((1 : Int32) <<< (((u 6) (a2).toNatClampNeg) &&& 31))), (0, .ref (Y 0)), (1, .ref (A 0)), (2, .int a2), (3, .int a3)]) hx hb dX5_fewestWalks_11 hl (by decide) rfl (fun ls hl => ?_)
  have key_13 : ∀ k i : Nat, i + k = 16 → ∀ (x0_4 : Int32), pX5_fewestWalks_L13 g u w a2 a3 k i x0_4 = (pX5_fewestWalks g u w a2 a3) → ∀ (ls : Array Slot), lv_has ls 6 [(0, .ref (Y 0)), (1, .ref (A 0)), (2, .int a2), (3, .int a3), (4, .int x0_4), (5, .int (nI i))] → W p l e (headSpec (Ty yX5_fewestWalks cX5_fewestWalks 6 (some .int)) ({ frames := 3, cells := 0, slots := 0, locals := 71 } : Room)).room s m ([.ref (Y 0), .ref (A 0), .int a2, .int a3] : List Value).toArray below meth cd s.heap [] 0 0 (MQ below (vp_Si (fun x => x = (pX5_fewestWalks g u w a2 a3))) ([.ref (Y 0), .ref (A 0), .int a2, .int a3] : List Value).toArray s 0 0 (fun _ => False)) (F0 m 13 ls []) := by
    intro k
    induction k with
    | zero =>
      intro i hi_13 x0_4 hN_13 ls hl
      obtain rfl : i = 16 := hi_13
      refine lv_iload hx hb dX5_fewestWalks_13 (lv_at hl 5 rfl) ?_
      refine lv_bipush (v := 16) hx hb dX5_fewestWalks_15 (by decide) ?_
      refine lv_icmp_ge (tgt := 48) hx hb dX5_fewestWalks_17 (by decide) (fun c_1 => ?_) (fun c_1 => absurd (le_of (C := 16) (N := 16) (by decide)) c_1)
      refine lv_bipush (v := (-4)) hx hb dX5_fewestWalks_48 (by decide) ?_
      have e9 : (-4) = (pX5_fewestWalks g u w a2 a3) := by rw [← hN_13, pX5_fewestWalks_L13_0]
      exact W.iret (v := (-4)) hx hb hr (fun t ht hW => ⟨_, rfl, e9, ht⟩) (fun _ h => absurd h List.not_mem_nil) dX5_fewestWalks_50
    | succ k ih_13 =>
      intro i hi_13 x0_4 hN_13 ls hl
      have hlt : i < 16 := by omega
      refine lv_iload hx hb dX5_fewestWalks_13 (lv_at hl 5 rfl) ?_
      refine lv_bipush (v := 16) hx hb dX5_fewestWalks_15 (by decide) ?_
      refine lv_icmp_ge (tgt := 48) hx hb dX5_fewestWalks_17 (by decide) (fun c_2 => absurd c_2 (nle_of (C := 16) (N := 16) (by decide) hlt (by decide))) (fun c_2 => ?_)
      refine lv_iload hx hb dX5_fewestWalks_20 (lv_at hl 4 rfl) ?_
      refine lv_iload_n hx hb dX5_fewestWalks_22 rfl (lv_at hl 3 rfl) ?_
      refine rN (As := [.int x0_4, .int a3]) (rest := []) hx hb hml hown hts hl.1 (kX6_isIn l D cyC cyI cyO x0_4 a3) bS_X6_isIn  hK.2.2.2.2.2.2.2.1 ⟨rfl, rfl⟩ ⟨Nat.le_of_ble_eq_true rfl, Nat.le_of_ble_eq_true rfl, Nat.zero_le _, Nat.zero_le _⟩ [] rfl hP hK rfl rfl (Nat.le_of_ble_eq_true rfl) dX5_fewestWalks_23 ?_
      refine lv_if_eq (tgt := 32) hx hb dX5_fewestWalks_26 (by decide) (fun c_3 => ?_) (fun c_3 => ?_)
      · refine lv_aload_n hx hb dX5_fewestWalks_32 rfl (lv_at hl 0 rfl) ?_
        refine lv_aload_n hx hb dX5_fewestWalks_33 rfl (lv_at hl 1 rfl) ?_
        refine lv_iload_n hx hb dX5_fewestWalks_34 rfl (lv_at hl 2 rfl) ?_
        refine lv_iload hx hb dX5_fewestWalks_35 (lv_at hl 4 rfl) ?_
        refine rV (As := [.ref (A 0), .int a2, .int x0_4]) (rest := []) hx hb hml hown hts hl.1 (kX5_oneWalkFurther l D cyC cyI cyO Y A g u w a2 x0_4 ho) bV_X5_oneWalkFurther  wml_RX5_76 ⟨rfl, rfl⟩ ⟨Nat.le_of_ble_eq_true rfl, Nat.le_of_ble_eq_true rfl, Nat.zero_le _, Nat.zero_le _⟩ [0, 1, 2, 3, 4, 5, 6, 7, 8, 9, 10, 11] rfl hP hK 0 rfl rfl rfl rfl rfl (Nat.le_of_ble_eq_true rfl) dX5_fewestWalks_37 ?_
        refine lv_istore (lv' := [(4, .int (pX5_oneWalkFurther g u w a2 x0_4)), (0, .ref (Y 0)), (1, .ref (A 0)), (2, .int a2), (3, .int a3), (5, .int (nI i))]) hx hb dX5_fewestWalks_40 hl (by decide) rfl (fun ls hl => ?_)
        refine lv_iinc (v := (nI (i + 1))) (lv' := [(5, .int (nI (i + 1))), (4, .int (pX5_oneWalkFurther g u w a2 x0_4)), (0, .ref (Y 0)), (1, .ref (A 0)), (2, .int a2), (3, .int a3)]) hx hb dX5_fewestWalks_42 hl (k := 5) rfl (nI_succ i).symm (by decide) rfl (fun ls hl => ?_)
        refine lv_goto (tgt := 13) hx hb dX5_fewestWalks_45 (by decide) ?_
        exact ih_13 (i + 1) (by omega) (pX5_oneWalkFurther g u w a2 x0_4) (by rw [← hN_13, pX5_fewestWalks_L13_s] <;> simp only [if_pos c_3]) ls (lv_sub hl [2, 3, 4, 5, 1, 0] rfl)
      · refine lv_iload hx hb dX5_fewestWalks_29 (lv_at hl 5 rfl) ?_
        have e9 : (nI i) = (pX5_fewestWalks g u w a2 a3) := by rw [← hN_13, pX5_fewestWalks_L13_s] <;> simp only [if_neg c_3]
        exact W.iret (v := (nI i)) hx hb hr (fun t ht hW => ⟨_, rfl, e9, ht⟩) (fun _ h => absurd h List.not_mem_nil) dX5_fewestWalks_31
  exact key_13 16 0 (Nat.zero_add 16) ((1 : Int32) <<< (((u 6) (a2).toNatClampNeg) &&& 31)) rfl ls (lv_sub hl [2, 3, 4, 5, 1, 0] rfl)
theorem bV_X5_fewestWalks : BV RX5 yX5_fewestWalks cX5_fewestWalks 6 (some .int) 3 := ⟨wcd_X5_fewestWalks, wim_X5_fewestWalks, wse_X5_fewestWalks, win_RX5, by decide +kernel⟩
