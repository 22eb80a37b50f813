def ms0 : Nat → Int32 := (upd (upd (upd (upd (upd (upd (upd (upd (upd (upd (upd (upd (upd (upd (fun _ => 0) (2 : Int32).toNatClampNeg 2) (3 : Int32).toNatClampNeg 1) (((10 : Int32) + (5 : Int32) * (0 : Int32)) + (0 : Int32)).toNatClampNeg 3) (((10 : Int32) + (5 : Int32) * (0 : Int32)) + (1 : Int32)).toNatClampNeg 65535) (((10 : Int32) + (5 : Int32) * (0 : Int32)) + (3 : Int32)).toNatClampNeg ((5 : Int32) * (0 : Int32))) (((10 : Int32) + (5 : Int32) * (1 : Int32)) + (0 : Int32)).toNatClampNeg 3) (((10 : Int32) + (5 : Int32) * (1 : Int32)) + (1 : Int32)).toNatClampNeg 65535) (((10 : Int32) + (5 : Int32) * (1 : Int32)) + (3 : Int32)).toNatClampNeg ((5 : Int32) * (1 : Int32))) (((10 : Int32) + (5 : Int32) * (2 : Int32)) + (0 : Int32)).toNatClampNeg 3) (((10 : Int32) + (5 : Int32) * (2 : Int32)) + (1 : Int32)).toNatClampNeg 65535) (((10 : Int32) + (5 : Int32) * (2 : Int32)) + (3 : Int32)).toNatClampNeg ((5 : Int32) * (2 : Int32))) (((10 : Int32) + (5 : Int32) * (3 : Int32)) + (0 : Int32)).toNatClampNeg 3) (((10 : Int32) + (5 : Int32) * (3 : Int32)) + (1 : Int32)).toNatClampNeg 65535) (((10 : Int32) + (5 : Int32) * (3 : Int32)) + (3 : Int32)).toNatClampNeg ((5 : Int32) * (3 : Int32)))
def m28 (i : Nat) : Nat → Int32 := fun k => if 30 ≤ k ∧ k < 30 + 4 * i ∧ (k - 30) % 4 = 0 then (if pX7_isGangway (nI ((k - 30) / 4)) = 0 then 0 else 5) else ms0 k
theorem m28_0 : m28 0 = ms0 := by
  funext k
  unfold m28
  rw [if_neg (by omega)]
theorem m28_s (i : Nat) (v : Int32) (h : (if pX7_isGangway (nI i) = 0 then (0 : Int32) else 5) = v) : upd (m28 i) (30 + 4 * i) v = m28 (i + 1) := by
  funext k
  unfold upd m28
  by_cases e : k = 30 + 4 * i
  · rw [if_pos e, if_pos (by omega), show (k - 30) / 4 = i by omega, h]
  · rw [if_neg e]
    by_cases z : 30 ≤ k ∧ k < 30 + 4 * i ∧ (k - 30) % 4 = 0
    · rw [if_pos z, if_pos (show 30 ≤ k ∧ k < 30 + 4 * (i + 1) ∧ (k - 30) % 4 = 0 by omega)]
    · rw [if_neg z, if_neg (show ¬ (30 ≤ k ∧ k < 30 + 4 * (i + 1) ∧ (k - 30) % 4 = 0) by omega)]
theorem ix_of0 (j : Nat) : ((30 : Int32) + ((4 : Int32) * nI j)) + (0 : Int32) = nI (30 + 4 * j) := ix_of j 0
/-- a new model -/
def MI (a : Nat) (x : CiT) : Prop := x.1 0 = a ∧ x.2.1 = va_up (fun _ _ => 0) 0 (m28 28) ∧ x.2.2 = fun _ => 0
set_option maxHeartbeats 4000000 in
set_option maxRecDepth 100000 in
theorem kX7_init (l : Launch) (D : va_G) (cyC cyI cyO : ClassId) (a : Nat) : MKC l yX7_init (Ty yX7_init cX7_init 2 none) ({ frames := 2, cells := 6, slots := 1057, locals := 64 } : Room) D cyC cyI cyO [(a, .inr (6, zX7))] [.ref a] (fun x : CiT => wM cyI x.1 x.2.1 x.2.2) (MI a) 6 1057 := by
  intro sz
  refine Met.ofW (cc := cX7_init) (maxL := 2) (ret := none) (by decide) rfl ?_
  intro p e s m args below meth cd s₁ B hml hv
  obtain ⟨rfl, ⟨hsz, hP, hK, hD0⟩, hO⟩ := hv
  have hx := B.exec
  have hb := B.bytes
  have hr := B.returns
  have hts : ∀ w ∈ TB, w.before ([.ref a] : List Value).toArray s = true := fun w h => atoms_spec (ws := (Ty yX7_init cX7_init 2 none)) B.pre w (List.mem_cons_of_mem _ h)
  have hown : s.vm.findClass RX7 = some m.cls := findClass_of_methodNamed B.named
  have hlocks := B.notSynchronized
  have hin : meth.name = "<init>" := (name_of_methodNamed B.named B.method).1
  subst hsz
  have hD := hD0.self (sz := s.heap.size)
  have hA : ∀ q : Nat, s.heap.size ≤ q → (va_A [(a, .inr (6, zX7))] s.heap.size) q := fun q h => Or.inr h
  generalize hAe : va_A [(a, .inr (6, zX7))] s.heap.size = A0 at hD hA ⊢
  have hS : va_S A0 s.heap s.heap [] := va_S.rf
  have hl := lv_entry ([.ref a]) (n := 2) (Nat.le_of_ble_eq_true rfl)
  rw [lg_entry_eq]
  generalize (lg_sl ([.ref a]) ++ List.replicate (2 - (lg_sl ([.ref a])).length) Slot.unset).toArray = ls at hl ⊢
  have hl : lv_has ls 2 [(0, .ref a)] := hl
  refine lv_aload_n hx hb dX7_init_0 rfl (lv_at hl 0 rfl) ?_
  refine W.objInit hx hb hown (hts _ wml_RX7_1) (hts _ wim_obj) (hts _ wcd_obj) rfl (by rw [hml]; exact hl.1) rfl dX7_init_1 (Nat.le_of_ble_eq_true rfl) (Nat.le_of_ble_eq_true rfl) ?_
  refine W.eq (g2 := F0 m 4 ls []) rfl ?_
  refine lv_aload_n hx hb dX7_init_4 rfl (lv_at hl 0 rfl) ?_
  refine lv_sipush (v := 142) hx hb dX7_init_5 (by decide) ?_
  refine new_int hx hb hts hK hP hD hS hA (N' := 142) (by decide) (by decide) (Nat.le_of_ble_eq_true rfl) (Nat.le_of_ble_eq_true rfl) (Nat.le_of_ble_eq_true rfl) dX7_init_8 (fun q1 H hP hD hS => ?_)
  have hP : va_P D vwCl [(a, .inr (6, [.null, .null, .null, .int 0, .null, .int 0, .null, .int 0, .int 0, .int 0, .int 0, .int 0, .int 0, .int 0, .null])), (q1, .inl (cyI, 142, .inl (fun _ => 0)))] H := hP
  have hD : va_D A0 [(a, .inr (6, [.null, .null, .null, .int 0, .null, .int 0, .null, .int 0, .int 0, .int 0, .int 0, .int 0, .int 0, .int 0, .null])), (q1, .inl (cyI, 142, .inl (fun _ => 0)))] := hD
  refine va_putF (D := D) (ci := 6) (v := .ref q1) (ty := .array .int) (C := RX7) (T := TX7) (N := 15) hx hb hts inT_X7 tyX7 tyX7_ok nmX7 hown hK.1 hP hD hS 0 rfl rfl 0 (by decide) (hts _ wfl_RX7_7) (fun _ h9 => h9) rfl hin rfl (by decide +kernel) rfl rfl (Nat.le_of_ble_eq_true rfl) dX7_init_10 (fun H locs hP hD hS => ?_)
  have hP : va_P D vwCl [(a, .inr (6, [.ref q1, .null, .null, .int 0, .null, .int 0, .null, .int 0, .int 0, .int 0, .int 0, .int 0, .int 0, .int 0, .null])), (q1, .inl (cyI, 142, .inl (fun _ => 0)))] H := hP
  have hD : va_D A0 [(a, .inr (6, [.ref q1, .null, .null, .int 0, .null, .int 0, .null, .int 0, .int 0, .int 0, .int 0, .int 0, .int 0, .int 0, .null])), (q1, .inl (cyI, 142, .inl (fun _ => 0)))] := hD
  refine lv_aload_n hx hb dX7_init_13 rfl (lv_at hl 0 rfl) ?_
  refine lv_sipush (v := 142) hx hb dX7_init_14 (by decide) ?_
  refine new_int hx hb hts hK hP hD hS hA (N' := 142) (by decide) (by decide) (Nat.le_of_ble_eq_true rfl) (Nat.le_of_ble_eq_true rfl) (Nat.le_of_ble_eq_true rfl) dX7_init_17 (fun q2 H hP hD hS => ?_)
  have hP : va_P D vwCl [(a, .inr (6, [.ref q1, .null, .null, .int 0, .null, .int 0, .null, .int 0, .int 0, .int 0, .int 0, .int 0, .int 0, .int 0, .null])), (q1, .inl (cyI, 142, .inl (fun _ => 0))), (q2, .inl (cyI, 142, .inl (fun _ => 0)))] H := hP
  have hD : va_D A0 [(a, .inr (6, [.ref q1, .null, .null, .int 0, .null, .int 0, .null, .int 0, .int 0, .int 0, .int 0, .int 0, .int 0, .int 0, .null])), (q1, .inl (cyI, 142, .inl (fun _ => 0))), (q2, .inl (cyI, 142, .inl (fun _ => 0)))] := hD
  refine va_putF (D := D) (ci := 6) (v := .ref q2) (ty := .array .int) (C := RX7) (T := TX7) (N := 15) hx hb hts inT_X7 tyX7 tyX7_ok nmX7 hown hK.1 hP hD hS 0 rfl rfl 1 (by decide) (hts _ wfl_RX7_13) (fun _ h9 => h9) rfl hin rfl (by decide +kernel) rfl rfl (Nat.le_of_ble_eq_true rfl) dX7_init_19 (fun H locs hP hD hS => ?_)
  have hP : va_P D vwCl [(a, .inr (6, [.ref q1, .ref q2, .null, .int 0, .null, .int 0, .null, .int 0, .int 0, .int 0, .int 0, .int 0, .int 0, .int 0, .null])), (q1, .inl (cyI, 142, .inl (fun _ => 0))), (q2, .inl (cyI, 142, .inl (fun _ => 0)))] H := hP
  have hD : va_D A0 [(a, .inr (6, [.ref q1, .ref q2, .null, .int 0, .null, .int 0, .null, .int 0, .int 0, .int 0, .int 0, .int 0, .int 0, .int 0, .null])), (q1, .inl (cyI, 142, .inl (fun _ => 0))), (q2, .inl (cyI, 142, .inl (fun _ => 0)))] := hD
  refine lv_aload_n hx hb dX7_init_22 rfl (lv_at hl 0 rfl) ?_
  refine lv_sipush (v := 568) hx hb dX7_init_23 (by decide) ?_
  refine new_int hx hb hts hK hP hD hS hA (N' := 568) (by decide) (by decide) (Nat.le_of_ble_eq_true rfl) (Nat.le_of_ble_eq_true rfl) (Nat.le_of_ble_eq_true rfl) dX7_init_26 (fun q3 H hP hD hS => ?_)
  have hP : va_P D vwCl [(a, .inr (6, [.ref q1, .ref q2, .null, .int 0, .null, .int 0, .null, .int 0, .int 0, .int 0, .int 0, .int 0, .int 0, .int 0, .null])), (q1, .inl (cyI, 142, .inl (fun _ => 0))), (q2, .inl (cyI, 142, .inl (fun _ => 0))), (q3, .inl (cyI, 568, .inl (fun _ => 0)))] H := hP
  have hD : va_D A0 [(a, .inr (6, [.ref q1, .ref q2, .null, .int 0, .null, .int 0, .null, .int 0, .int 0, .int 0, .int 0, .int 0, .int 0, .int 0, .null])), (q1, .inl (cyI, 142, .inl (fun _ => 0))), (q2, .inl (cyI, 142, .inl (fun _ => 0))), (q3, .inl (cyI, 568, .inl (fun _ => 0)))] := hD
  refine va_putF (D := D) (ci := 6) (v := .ref q3) (ty := .array .int) (C := RX7) (T := TX7) (N := 15) hx hb hts inT_X7 tyX7 tyX7_ok nmX7 hown hK.1 hP hD hS 0 rfl rfl 2 (by decide) (hts _ wfl_RX7_16) (fun _ h9 => h9) rfl hin rfl (by decide +kernel) rfl rfl (Nat.le_of_ble_eq_true rfl) dX7_init_28 (fun H locs hP hD hS => ?_)
  have hP : va_P D vwCl [(a, .inr (6, [.ref q1, .ref q2, .ref q3, .int 0, .null, .int 0, .null, .int 0, .int 0, .int 0, .int 0, .int 0, .int 0, .int 0, .null])), (q1, .inl (cyI, 142, .inl (fun _ => 0))), (q2, .inl (cyI, 142, .inl (fun _ => 0))), (q3, .inl (cyI, 568, .inl (fun _ => 0)))] H := hP
  have hD : va_D A0 [(a, .inr (6, [.ref q1, .ref q2, .ref q3, .int 0, .null, .int 0, .null, .int 0, .int 0, .int 0, .int 0, .int 0, .int 0, .int 0, .null])), (q1, .inl (cyI, 142, .inl (fun _ => 0))), (q2, .inl (cyI, 142, .inl (fun _ => 0))), (q3, .inl (cyI, 568, .inl (fun _ => 0)))] := hD
  refine lv_aload_n hx hb dX7_init_31 rfl (lv_at hl 0 rfl) ?_
  refine lv_sipush (v := 142) hx hb dX7_init_32 (by decide) ?_
  refine new_int hx hb hts hK hP hD hS hA (N' := 142) (by decide) (by decide) (Nat.le_of_ble_eq_true rfl) (Nat.le_of_ble_eq_true rfl) (Nat.le_of_ble_eq_true rfl) dX7_init_35 (fun q4 H hP hD hS => ?_)
  have hP : va_P D vwCl [(a, .inr (6, [.ref q1, .ref q2, .ref q3, .int 0, .null, .int 0, .null, .int 0, .int 0, .int 0, .int 0, .int 0, .int 0, .int 0, .null])), (q1, .inl (cyI, 142, .inl (fun _ => 0))), (q2, .inl (cyI, 142, .inl (fun _ => 0))), (q3, .inl (cyI, 568, .inl (fun _ => 0))), (q4, .inl (cyI, 142, .inl (fun _ => 0)))] H := hP
  have hD : va_D A0 [(a, .inr (6, [.ref q1, .ref q2, .ref q3, .int 0, .null, .int 0, .null, .int 0, .int 0, .int 0, .int 0, .int 0, .int 0, .int 0, .null])), (q1, .inl (cyI, 142, .inl (fun _ => 0))), (q2, .inl (cyI, 142, .inl (fun _ => 0))), (q3, .inl (cyI, 568, .inl (fun _ => 0))), (q4, .inl (cyI, 142, .inl (fun _ => 0)))] := hD
  refine va_putF (D := D) (ci := 6) (v := .ref q4) (ty := .array .int) (C := RX7) (T := TX7) (N := 15) hx hb hts inT_X7 tyX7 tyX7_ok nmX7 hown hK.1 hP hD hS 0 rfl rfl 4 (by decide) (hts _ wfl_RX7_19) (fun _ h9 => h9) rfl hin rfl (by decide +kernel) rfl rfl (Nat.le_of_ble_eq_true rfl) dX7_init_37 (fun H locs hP hD hS => ?_)
  have hP : va_P D vwCl [(a, .inr (6, [.ref q1, .ref q2, .ref q3, .int 0, .ref q4, .int 0, .null, .int 0, .int 0, .int 0, .int 0, .int 0, .int 0, .int 0, .null])), (q1, .inl (cyI, 142, .inl (fun _ => 0))), (q2, .inl (cyI, 142, .inl (fun _ => 0))), (q3, .inl (cyI, 568, .inl (fun _ => 0))), (q4, .inl (cyI, 142, .inl (fun _ => 0)))] H := hP
  have hD : va_D A0 [(a, .inr (6, [.ref q1, .ref q2, .ref q3, .int 0, .ref q4, .int 0, .null, .int 0, .int 0, .int 0, .int 0, .int 0, .int 0, .int 0, .null])), (q1, .inl (cyI, 142, .inl (fun _ => 0))), (q2, .inl (cyI, 142, .inl (fun _ => 0))), (q3, .inl (cyI, 568, .inl (fun _ => 0))), (q4, .inl (cyI, 142, .inl (fun _ => 0)))] := hD
  refine lv_aload_n hx hb dX7_init_40 rfl (lv_at hl 0 rfl) ?_
  refine lv_bipush (v := 60) hx hb dX7_init_41 (by decide) ?_
  refine new_int hx hb hts hK hP hD hS hA (N' := 60) (by decide) (by decide) (Nat.le_of_ble_eq_true rfl) (Nat.le_of_ble_eq_true rfl) (Nat.le_of_ble_eq_true rfl) dX7_init_43 (fun q5 H hP hD hS => ?_)
  have hP : va_P D vwCl [(a, .inr (6, [.ref q1, .ref q2, .ref q3, .int 0, .ref q4, .int 0, .null, .int 0, .int 0, .int 0, .int 0, .int 0, .int 0, .int 0, .null])), (q1, .inl (cyI, 142, .inl (fun _ => 0))), (q2, .inl (cyI, 142, .inl (fun _ => 0))), (q3, .inl (cyI, 568, .inl (fun _ => 0))), (q4, .inl (cyI, 142, .inl (fun _ => 0))), (q5, .inl (cyI, 60, .inl (fun _ => 0)))] H := hP
  have hD : va_D A0 [(a, .inr (6, [.ref q1, .ref q2, .ref q3, .int 0, .ref q4, .int 0, .null, .int 0, .int 0, .int 0, .int 0, .int 0, .int 0, .int 0, .null])), (q1, .inl (cyI, 142, .inl (fun _ => 0))), (q2, .inl (cyI, 142, .inl (fun _ => 0))), (q3, .inl (cyI, 568, .inl (fun _ => 0))), (q4, .inl (cyI, 142, .inl (fun _ => 0))), (q5, .inl (cyI, 60, .inl (fun _ => 0)))] := hD
  refine va_putF (D := D) (ci := 6) (v := .ref q5) (ty := .array .int) (C := RX7) (T := TX7) (N := 15) hx hb hts inT_X7 tyX7 tyX7_ok nmX7 hown hK.1 hP hD hS 0 rfl rfl 6 (by decide) (hts _ wfl_RX7_22) (fun _ h9 => h9) rfl hin rfl (by decide +kernel) rfl rfl (Nat.le_of_ble_eq_true rfl) dX7_init_45 (fun H locs hP hD hS => ?_)
  have hP : va_P D vwCl [(a, .inr (6, [.ref q1, .ref q2, .ref q3, .int 0, .ref q4, .int 0, .ref q5, .int 0, .int 0, .int 0, .int 0, .int 0, .int 0, .int 0, .null])), (q1, .inl (cyI, 142, .inl (fun _ => 0))), (q2, .inl (cyI, 142, .inl (fun _ => 0))), (q3, .inl (cyI, 568, .inl (fun _ => 0))), (q4, .inl (cyI, 142, .inl (fun _ => 0))), (q5, .inl (cyI, 60, .inl (fun _ => 0)))] H := hP
  have hD : va_D A0 [(a, .inr (6, [.ref q1, .ref q2, .ref q3, .int 0, .ref q4, .int 0, .ref q5, .int 0, .int 0, .int 0, .int 0, .int 0, .int 0, .int 0, .null])), (q1, .inl (cyI, 142, .inl (fun _ => 0))), (q2, .inl (cyI, 142, .inl (fun _ => 0))), (q3, .inl (cyI, 568, .inl (fun _ => 0))), (q4, .inl (cyI, 142, .inl (fun _ => 0))), (q5, .inl (cyI, 60, .inl (fun _ => 0)))] := hD
  refine lv_aload_n hx hb dX7_init_48 rfl (lv_at hl 0 rfl) ?_
  refine lv_iconst (v := 3) hx hb dX7_init_49 (by decide) ?_
  refine new_int hx hb hts hK hP hD hS hA (N' := 3) (by decide) (by decide) (Nat.le_of_ble_eq_true rfl) (Nat.le_of_ble_eq_true rfl) (Nat.le_of_ble_eq_true rfl) dX7_init_50 (fun q6 H hP hD hS => ?_)
  have hP : va_P D vwCl [(a, .inr (6, [.ref q1, .ref q2, .ref q3, .int 0, .ref q4, .int 0, .ref q5, .int 0, .int 0, .int 0, .int 0, .int 0, .int 0, .int 0, .null])), (q1, .inl (cyI, 142, .inl (fun _ => 0))), (q2, .inl (cyI, 142, .inl (fun _ => 0))), (q3, .inl (cyI, 568, .inl (fun _ => 0))), (q4, .inl (cyI, 142, .inl (fun _ => 0))), (q5, .inl (cyI, 60, .inl (fun _ => 0))), (q6, .inl (cyI, 3, .inl (fun _ => 0)))] H := hP
  have hD : va_D A0 [(a, .inr (6, [.ref q1, .ref q2, .ref q3, .int 0, .ref q4, .int 0, .ref q5, .int 0, .int 0, .int 0, .int 0, .int 0, .int 0, .int 0, .null])), (q1, .inl (cyI, 142, .inl (fun _ => 0))), (q2, .inl (cyI, 142, .inl (fun _ => 0))), (q3, .inl (cyI, 568, .inl (fun _ => 0))), (q4, .inl (cyI, 142, .inl (fun _ => 0))), (q5, .inl (cyI, 60, .inl (fun _ => 0))), (q6, .inl (cyI, 3, .inl (fun _ => 0)))] := hD
  refine va_putF (D := D) (ci := 6) (v := .ref q6) (ty := .array .int) (C := RX7) (T := TX7) (N := 15) hx hb hts inT_X7 tyX7 tyX7_ok nmX7 hown hK.1 hP hD hS 0 rfl rfl 14 (by decide) (hts _ wfl_RX7_25) (fun _ h9 => h9) rfl hin rfl (by decide +kernel) rfl rfl (Nat.le_of_ble_eq_true rfl) dX7_init_52 (fun H locs hP hD hS => ?_)
  have hP : va_P D vwCl [(a, .inr (6, [.ref q1, .ref q2, .ref q3, .int 0, .ref q4, .int 0, .ref q5, .int 0, .int 0, .int 0, .int 0, .int 0, .int 0, .int 0, .ref q6])), (q1, .inl (cyI, 142, .inl (fun _ => 0))), (q2, .inl (cyI, 142, .inl (fun _ => 0))), (q3, .inl (cyI, 568, .inl (fun _ => 0))), (q4, .inl (cyI, 142, .inl (fun _ => 0))), (q5, .inl (cyI, 60, .inl (fun _ => 0))), (q6, .inl (cyI, 3, .inl (fun _ => 0)))] H := hP
  have hD : va_D A0 [(a, .inr (6, [.ref q1, .ref q2, .ref q3, .int 0, .ref q4, .int 0, .ref q5, .int 0, .int 0, .int 0, .int 0, .int 0, .int 0, .int 0, .ref q6])), (q1, .inl (cyI, 142, .inl (fun _ => 0))), (q2, .inl (cyI, 142, .inl (fun _ => 0))), (q3, .inl (cyI, 568, .inl (fun _ => 0))), (q4, .inl (cyI, 142, .inl (fun _ => 0))), (q5, .inl (cyI, 60, .inl (fun _ => 0))), (q6, .inl (cyI, 3, .inl (fun _ => 0)))] := hD
  obtain ⟨A, hAA⟩ : ∃ A : Nat → Nat, A = fun k => [a, q1, q2, q3, q4, q5, q6].getD k 0 := ⟨_, rfl⟩
  have e0 : A 0 = a := by rw [hAA]; rfl
  have hP : va_P D vwCl (wM cyI A (fun _ _ => 0) (fun _ => 0)) H := by rw [hAA]; exact hP
  have hD : va_D A0 (wM cyI A (fun _ _ => 0) (fun _ => 0)) := by rw [hAA]; exact hD
  have hl : lv_has ls 2 [(0, .ref (A 0))] := by rw [e0]; exact hl
  refine W.widen (k := 6) (n := 1057) (by omega) (by omega) ?_
  refine lv_aload_n hx hb dX7_init_55 rfl (lv_at hl 0 rfl) ?_
  refine va_get (D := D) (ci := 6) (v := .ref (A 1)) (C := RX7) (T := TX7) (N := 15) hx hb hts inT_X7 hown hK.1 hP 0 rfl rfl 0 (by decide) (hts _ wfl_RX7_7) (fun _ h9 => h9) rfl dX7_init_56 ?_
  refine lv_iconst (v := 2) hx hb dX7_init_59 (by decide) ?_
  refine lv_iconst (v := 2) hx hb dX7_init_60 (by decide) ?_
  refine va_iast (D := D) (f := (fun _ => 0)) hx hb hK.1 hP hD hS 1 1 rfl rfl (vp_lit (by decide)) dX7_init_61 (fun H locs hP hD hS => ?_)
  have hP : va_P D vwCl (wM cyI A (va_up (fun _ _ => 0) 0 (upd (fun _ => 0) (2 : Int32).toNatClampNeg 2)) (fun _ => 0)) H := hP
  have hD : va_D A0 (wM cyI A (va_up (fun _ _ => 0) 0 (upd (fun _ => 0) (2 : Int32).toNatClampNeg 2)) (fun _ => 0)) := hD
  refine lv_aload_n hx hb dX7_init_62 rfl (lv_at hl 0 rfl) ?_
  refine va_get (D := D) (ci := 6) (v := .ref (A 1)) (C := RX7) (T := TX7) (N := 15) hx hb hts inT_X7 hown hK.1 hP 0 rfl rfl 0 (by decide) (hts _ wfl_RX7_7) (fun _ h9 => h9) rfl dX7_init_63 ?_
  refine lv_iconst (v := 3) hx hb dX7_init_66 (by decide) ?_
  refine lv_iconst (v := 1) hx hb dX7_init_67 (by decide) ?_
  refine va_iast (D := D) (f := (upd (fun _ => 0) (2 : Int32).toNatClampNeg 2)) hx hb hK.1 hP hD hS 1 1 rfl rfl (vp_lit (by decide)) dX7_init_68 (fun H locs hP hD hS => ?_)
  have hP : va_P D vwCl (wM cyI A (va_up (fun _ _ => 0) 0 (upd (upd (fun _ => 0) (2 : Int32).toNatClampNeg 2) (3 : Int32).toNatClampNeg 1)) (fun _ => 0)) H := hP
  have hD : va_D A0 (wM cyI A (va_up (fun _ _ => 0) 0 (upd (upd (fun _ => 0) (2 : Int32).toNatClampNeg 2) (3 : Int32).toNatClampNeg 1)) (fun _ => 0)) := hD
  refine lv_iconst (v := 0) hx hb dX7_init_69 (by decide) ?_
  refine lv_istore_n (lv' := [(1, .int 0), (0, .ref (A 0))]) hx hb dX7_init_70 rfl hl (by decide) rfl (fun ls hl => ?_)
  refine lv_iload_n hx hb dX7_init_71 rfl (lv_at hl 0 rfl) ?_
  refine lv_iconst (v := 4) hx hb dX7_init_72 (by decide) ?_
  refine lv_icmp_ge (tgt := 127) hx hb dX7_init_73 (by decide) (fun c_3 => absurd c_3 (by decide)) (fun c_3 => ?_)
  refine lv_aload_n hx hb dX7_init_76 rfl (lv_at hl 1 rfl) ?_
  refine va_get (D := D) (ci := 6) (v := .ref (A 1)) (C := RX7) (T := TX7) (N := 15) hx hb hts inT_X7 hown hK.1 hP 0 rfl rfl 0 (by decide) (hts _ wfl_RX7_7) (fun _ h9 => h9) rfl dX7_init_77 ?_
  refine lv_bipush (v := 10) hx hb dX7_init_80 (by decide) ?_
  refine lv_iconst (v := 5) hx hb dX7_init_82 (by decide) ?_
  refine lv_iload_n hx hb dX7_init_83 rfl (lv_at hl 0 rfl) ?_
  refine lv_imul hx hb dX7_init_84 ?_
  refine lv_iadd hx hb dX7_init_85 ?_
  refine lv_iconst (v := 0) hx hb dX7_init_86 (by decide) ?_
  refine lv_iadd hx hb dX7_init_87 ?_
  refine lv_iconst (v := 3) hx hb dX7_init_88 (by decide) ?_
  refine va_iast (D := D) (f := (upd (upd (fun _ => 0) (2 : Int32).toNatClampNeg 2) (3 : Int32).toNatClampNeg 1)) hx hb hK.1 hP hD hS 1 1 rfl rfl (vp_lit (by decide)) dX7_init_89 (fun H locs hP hD hS => ?_)
  have hP : va_P D vwCl (wM cyI A (va_up (fun _ _ => 0) 0 (upd (upd (upd (fun _ => 0) (2 : Int32).toNatClampNeg 2) (3 : Int32).toNatClampNeg 1) (((10 : Int32) + (5 : Int32) * (0 : Int32)) + (0 : Int32)).toNatClampNeg 3)) (fun _ => 0)) H := hP
  have hD : va_D A0 (wM cyI A (va_up (fun _ _ => 0) 0 (upd (upd (upd (fun _ => 0) (2 : Int32).toNatClampNeg 2) (3 : Int32).toNatClampNeg 1) (((10 : Int32) + (5 : Int32) * (0 : Int32)) + (0 : Int32)).toNatClampNeg 3)) (fun _ => 0)) := hD
  refine lv_aload_n hx hb dX7_init_90 rfl (lv_at hl 1 rfl) ?_
  refine va_get (D := D) (ci := 6) (v := .ref (A 1)) (C := RX7) (T := TX7) (N := 15) hx hb hts inT_X7 hown hK.1 hP 0 rfl rfl 0 (by decide) (hts _ wfl_RX7_7) (fun _ h9 => h9) rfl dX7_init_91 ?_
  refine lv_bipush (v := 10) hx hb dX7_init_94 (by decide) ?_
  refine lv_iconst (v := 5) hx hb dX7_init_96 (by decide) ?_
  refine lv_iload_n hx hb dX7_init_97 rfl (lv_at hl 0 rfl) ?_
  refine lv_imul hx hb dX7_init_98 ?_
  refine lv_iadd hx hb dX7_init_99 ?_
  refine lv_iconst (v := 1) hx hb dX7_init_100 (by decide) ?_
  refine lv_iadd hx hb dX7_init_101 ?_
  refine lv_ldc (v := 65535) hx hb hown (hts _ wco_RX7_28) dX7_init_102 ?_
  refine va_iast (D := D) (f := (upd (upd (upd (fun _ => 0) (2 : Int32).toNatClampNeg 2) (3 : Int32).toNatClampNeg 1) (((10 : Int32) + (5 : Int32) * (0 : Int32)) + (0 : Int32)).toNatClampNeg 3)) hx hb hK.1 hP hD hS 1 1 rfl rfl (vp_lit (by decide)) dX7_init_104 (fun H locs hP hD hS => ?_)
  have hP : va_P D vwCl (wM cyI A (va_up (fun _ _ => 0) 0 (upd (upd (upd (upd (fun _ => 0) (2 : Int32).toNatClampNeg 2) (3 : Int32).toNatClampNeg 1) (((10 : Int32) + (5 : Int32) * (0 : Int32)) + (0 : Int32)).toNatClampNeg 3) (((10 : Int32) + (5 : Int32) * (0 : Int32)) + (1 : Int32)).toNatClampNeg 65535)) (fun _ => 0)) H := hP
  have hD : va_D A0 (wM cyI A (va_up (fun _ _ => 0) 0 (upd (upd (upd (upd (fun _ => 0) (2 : Int32).toNatClampNeg 2) (3 : Int32).toNatClampNeg 1) (((10 : Int32) + (5 : Int32) * (0 : Int32)) + (0 : Int32)).toNatClampNeg 3) (((10 : Int32) + (5 : Int32) * (0 : Int32)) + (1 : Int32)).toNatClampNeg 65535)) (fun _ => 0)) := hD
  refine lv_aload_n hx hb dX7_init_105 rfl (lv_at hl 1 rfl) ?_
  refine va_get (D := D) (ci := 6) (v := .ref (A 1)) (C := RX7) (T := TX7) (N := 15) hx hb hts inT_X7 hown hK.1 hP 0 rfl rfl 0 (by decide) (hts _ wfl_RX7_7) (fun _ h9 => h9) rfl dX7_init_106 ?_
  refine lv_bipush (v := 10) hx hb dX7_init_109 (by decide) ?_
  refine lv_iconst (v := 5) hx hb dX7_init_111 (by decide) ?_
  refine lv_iload_n hx hb dX7_init_112 rfl (lv_at hl 0 rfl) ?_
  refine lv_imul hx hb dX7_init_113 ?_
  refine lv_iadd hx hb dX7_init_114 ?_
  refine lv_iconst (v := 3) hx hb dX7_init_115 (by decide) ?_
  refine lv_iadd hx hb dX7_init_116 ?_
  refine lv_iconst (v := 5) hx hb dX7_init_117 (by decide) ?_
  refine lv_iload_n hx hb dX7_init_118 rfl (lv_at hl 0 rfl) ?_
  refine lv_imul hx hb dX7_init_119 ?_
  refine va_iast (D := D) (f := (upd (upd (upd (upd (fun _ => 0) (2 : Int32).toNatClampNeg 2) (3 : Int32).toNatClampNeg 1) (((10 : Int32) + (5 : Int32) * (0 : Int32)) + (0 : Int32)).toNatClampNeg 3) (((10 : Int32) + (5 : Int32) * (0 : Int32)) + (1 : Int32)).toNatClampNeg 65535)) hx hb hK.1 hP hD hS 1 1 rfl rfl (vp_lit (by decide)) dX7_init_120 (fun H locs hP hD hS => ?_)
  have hP : va_P D vwCl (wM cyI A (va_up (fun _ _ => 0) 0 (upd (upd (upd (upd (upd (fun _ => 0) (2 : Int32).toNatClampNeg 2) (3 : Int32).toNatClampNeg 1) (((10 : Int32) + (5 : Int32) * (0 : Int32)) + (0 : Int32)).toNatClampNeg 3) (((10 : Int32) + (5 : Int32) * (0 : Int32)) + (1 : Int32)).toNatClampNeg 65535) (((10 : Int32) + (5 : Int32) * (0 : Int32)) + (3 : Int32)).toNatClampNeg ((5 : Int32) * (0 : Int32)))) (fun _ => 0)) H := hP
  have hD : va_D A0 (wM cyI A (va_up (fun _ _ => 0) 0 (upd (upd (upd (upd (upd (fun _ => 0) (2 : Int32).toNatClampNeg 2) (3 : Int32).toNatClampNeg 1) (((10 : Int32) + (5 : Int32) * (0 : Int32)) + (0 : Int32)).toNatClampNeg 3) (((10 : Int32) + (5 : Int32) * (0 : Int32)) + (1 : Int32)).toNatClampNeg 65535) (((10 : Int32) + (5 : Int32) * (0 : Int32)) + (3 : Int32)).toNatClampNeg ((5 : Int32) * (0 : Int32)))) (fun _ => 0)) := hD
  refine lv_iinc (v := 1) (lv' := [(1, .int 1), (0, .ref (A 0))]) hx hb dX7_init_121 hl (k := 0) rfl (by decide) (by decide) rfl (fun ls hl => ?_)
  refine lv_goto (tgt := 71) hx hb dX7_init_124 (by decide) ?_
  refine lv_iload_n hx hb dX7_init_71 rfl (lv_at hl 0 rfl) ?_
  refine lv_iconst (v := 4) hx hb dX7_init_72 (by decide) ?_
  refine lv_icmp_ge (tgt := 127) hx hb dX7_init_73 (by decide) (fun c_3 => absurd c_3 (by decide)) (fun c_3 => ?_)
  refine lv_aload_n hx hb dX7_init_76 rfl (lv_at hl 1 rfl) ?_
  refine va_get (D := D) (ci := 6) (v := .ref (A 1)) (C := RX7) (T := TX7) (N := 15) hx hb hts inT_X7 hown hK.1 hP 0 rfl rfl 0 (by decide) (hts _ wfl_RX7_7) (fun _ h9 => h9) rfl dX7_init_77 ?_
  refine lv_bipush (v := 10) hx hb dX7_init_80 (by decide) ?_
  refine lv_iconst (v := 5) hx hb dX7_init_82 (by decide) ?_
  refine lv_iload_n hx hb dX7_init_83 rfl (lv_at hl 0 rfl) ?_
  refine lv_imul hx hb dX7_init_84 ?_
  refine lv_iadd hx hb dX7_init_85 ?_
  refine lv_iconst (v := 0) hx hb dX7_init_86 (by decide) ?_
  refine lv_iadd hx hb dX7_init_87 ?_
  refine lv_iconst (v := 3) hx hb dX7_init_88 (by decide) ?_
  refine va_iast (D := D) (f := (upd (upd (upd (upd (upd (fun _ => 0) (2 : Int32).toNatClampNeg 2) (3 : Int32).toNatClampNeg 1) (((10 : Int32) + (5 : Int32) * (0 : Int32)) + (0 : Int32)).toNatClampNeg 3) (((10 : Int32) + (5 : Int32) * (0 : Int32)) + (1 : Int32)).toNatClampNeg 65535) (((10 : Int32) + (5 : Int32) * (0 : Int32)) + (3 : Int32)).toNatClampNeg ((5 : Int32) * (0 : Int32)))) hx hb hK.1 hP hD hS 1 1 rfl rfl (vp_lit (by decide)) dX7_init_89 (fun H locs hP hD hS => ?_)
  have hP : va_P D vwCl (wM cyI A (va_up (fun _ _ => 0) 0 (upd (upd (upd (upd (upd (upd (fun _ => 0) (2 : Int32).toNatClampNeg 2) (3 : Int32).toNatClampNeg 1) (((10 : Int32) + (5 : Int32) * (0 : Int32)) + (0 : Int32)).toNatClampNeg 3) (((10 : Int32) + (5 : Int32) * (0 : Int32)) + (1 : Int32)).toNatClampNeg 65535) (((10 : Int32) + (5 : Int32) * (0 : Int32)) + (3 : Int32)).toNatClampNeg ((5 : Int32) * (0 : Int32))) (((10 : Int32) + (5 : Int32) * (1 : Int32)) + (0 : Int32)).toNatClampNeg 3)) (fun _ => 0)) H := hP
  have hD : va_D A0 (wM cyI A (va_up (fun _ _ => 0) 0 (upd (upd (upd (upd (upd (upd (fun _ => 0) (2 : Int32).toNatClampNeg 2) (3 : Int32).toNatClampNeg 1) (((10 : Int32) + (5 : Int32) * (0 : Int32)) + (0 : Int32)).toNatClampNeg 3) (((10 : Int32) + (5 : Int32) * (0 : Int32)) + (1 : Int32)).toNatClampNeg 65535) (((10 : Int32) + (5 : Int32) * (0 : Int32)) + (3 : Int32)).toNatClampNeg ((5 : Int32) * (0 : Int32))) (((10 : Int32) + (5 : Int32) * (1 : Int32)) + (0 : Int32)).toNatClampNeg 3)) (fun _ => 0)) := hD
  refine lv_aload_n hx hb dX7_init_90 rfl (lv_at hl 1 rfl) ?_
  refine va_get (D := D) (ci := 6) (v := .ref (A 1)) (C := RX7) (T := TX7) (N := 15) hx hb hts inT_X7 hown hK.1 hP 0 rfl rfl 0 (by decide) (hts _ wfl_RX7_7) (fun _ h9 => h9) rfl dX7_init_91 ?_
  refine lv_bipush (v := 10) hx hb dX7_init_94 (by decide) ?_
  refine lv_iconst (v := 5) hx hb dX7_init_96 (by decide) ?_
  refine lv_iload_n hx hb dX7_init_97 rfl (lv_at hl 0 rfl) ?_
  refine lv_imul hx hb dX7_init_98 ?_
  refine lv_iadd hx hb dX7_init_99 ?_
  refine lv_iconst (v := 1) hx hb dX7_init_100 (by decide) ?_
  refine lv_iadd hx hb dX7_init_101 ?_
  refine lv_ldc (v := 65535) hx hb hown (hts _ wco_RX7_28) dX7_init_102 ?_
  refine va_iast (D := D) (f := (upd (upd (upd (upd (upd (upd (fun _ => 0) (2 : Int32).toNatClampNeg 2) (3 : Int32).toNatClampNeg 1) (((10 : Int32) + (5 : Int32) * (0 : Int32)) + (0 : Int32)).toNatClampNeg 3) (((10 : Int32) + (5 : Int32) * (0 : Int32)) + (1 : Int32)).toNatClampNeg 65535) (((10 : Int32) + (5 : Int32) * (0 : Int32)) + (3 : Int32)).toNatClampNeg ((5 : Int32) * (0 : Int32))) (((10 : Int32) + (5 : Int32) * (1 : Int32)) + (0 : Int32)).toNatClampNeg 3)) hx hb hK.1 hP hD hS 1 1 rfl rfl (vp_lit (by decide)) dX7_init_104 (fun H locs hP hD hS => ?_)
  have hP : va_P D vwCl (wM cyI A (va_up (fun _ _ => 0) 0 (upd (upd (upd (upd (upd (upd (upd (fun _ => 0) (2 : Int32).toNatClampNeg 2) (3 : Int32).toNatClampNeg 1) (((10 : Int32) + (5 : Int32) * (0 : Int32)) + (0 : Int32)).toNatClampNeg 3) (((10 : Int32) + (5 : Int32) * (0 : Int32)) + (1 : Int32)).toNatClampNeg 65535) (((10 : Int32) + (5 : Int32) * (0 : Int32)) + (3 : Int32)).toNatClampNeg ((5 : Int32) * (0 : Int32))) (((10 : Int32) + (5 : Int32) * (1 : Int32)) + (0 : Int32)).toNatClampNeg 3) (((10 : Int32) + (5 : Int32) * (1 : Int32)) + (1 : Int32)).toNatClampNeg 65535)) (fun _ => 0)) H := hP
  have hD : va_D A0 (wM cyI A (va_up (fun _ _ => 0) 0 (upd (upd (upd (upd (upd (upd (upd (fun _ => 0) (2 : Int32).toNatClampNeg 2) (3 : Int32).toNatClampNeg 1) (((10 : Int32) + (5 : Int32) * (0 : Int32)) + (0 : Int32)).toNatClampNeg 3) (((10 : Int32) + (5 : Int32) * (0 : Int32)) + (1 : Int32)).toNatClampNeg 65535) (((10 : Int32) + (5 : Int32) * (0 : Int32)) + (3 : Int32)).toNatClampNeg ((5 : Int32) * (0 : Int32))) (((10 : Int32) + (5 : Int32) * (1 : Int32)) + (0 : Int32)).toNatClampNeg 3) (((10 : Int32) + (5 : Int32) * (1 : Int32)) + (1 : Int32)).toNatClampNeg 65535)) (fun _ => 0)) := hD
  refine lv_aload_n hx hb dX7_init_105 rfl (lv_at hl 1 rfl) ?_
  refine va_get (D := D) (ci := 6) (v := .ref (A 1)) (C := RX7) (T := TX7) (N := 15) hx hb hts inT_X7 hown hK.1 hP 0 rfl rfl 0 (by decide) (hts _ wfl_RX7_7) (fun _ h9 => h9) rfl dX7_init_106 ?_
  refine lv_bipush (v := 10) hx hb dX7_init_109 (by decide) ?_
  refine lv_iconst (v := 5) hx hb dX7_init_111 (by decide) ?_
  refine lv_iload_n hx hb dX7_init_112 rfl (lv_at hl 0 rfl) ?_
  refine lv_imul hx hb dX7_init_113 ?_
  refine lv_iadd hx hb dX7_init_114 ?_
  refine lv_iconst (v := 3) hx hb dX7_init_115 (by decide) ?_
  refine lv_iadd hx hb dX7_init_116 ?_
  refine lv_iconst (v := 5) hx hb dX7_init_117 (by decide) ?_
  refine lv_iload_n hx hb dX7_init_118 rfl (lv_at hl 0 rfl) ?_
  refine lv_imul hx hb dX7_init_119 ?_
  refine va_iast (D := D) (f := (upd (upd (upd (upd (upd (upd (upd (fun _ => 0) (2 : Int32).toNatClampNeg 2) (3 : Int32).toNatClampNeg 1) (((10 : Int32) + (5 : Int32) * (0 : Int32)) + (0 : Int32)).toNatClampNeg 3) (((10 : Int32) + (5 : Int32) * (0 : Int32)) + (1 : Int32)).toNatClampNeg 65535) (((10 : Int32) + (5 : Int32) * (0 : Int32)) + (3 : Int32)).toNatClampNeg ((5 : Int32) * (0 : Int32))) (((10 : Int32) + (5 : Int32) * (1 : Int32)) + (0 : Int32)).toNatClampNeg 3) (((10 : Int32) + (5 : Int32) * (1 : Int32)) + (1 : Int32)).toNatClampNeg 65535)) hx hb hK.1 hP hD hS 1 1 rfl rfl (vp_lit (by decide)) dX7_init_120 (fun H locs hP hD hS => ?_)
  have hP : va_P D vwCl (wM cyI A (va_up (fun _ _ => 0) 0 (upd (upd (upd (upd (upd (upd (upd (upd (fun _ => 0) (2 : Int32).toNatClampNeg 2) (3 : Int32).toNatClampNeg 1) (((10 : Int32) + (5 : Int32) * (0 : Int32)) + (0 : Int32)).toNatClampNeg 3) (((10 : Int32) + (5 : Int32) * (0 : Int32)) + (1 : Int32)).toNatClampNeg 65535) (((10 : Int32) + (5 : Int32) * (0 : Int32)) + (3 : Int32)).toNatClampNeg ((5 : Int32) * (0 : Int32))) (((10 : Int32) + (5 : Int32) * (1 : Int32)) + (0 : Int32)).toNatClampNeg 3) (((10 : Int32) + (5 : Int32) * (1 : Int32)) + (1 : Int32)).toNatClampNeg 65535) (((10 : Int32) + (5 : Int32) * (1 : Int32)) + (3 : Int32)).toNatClampNeg ((5 : Int32) * (1 : Int32)))) (fun _ => 0)) H := hP
  have hD : va_D A0 (wM cyI A (va_up (fun _ _ => 0) 0 (upd (upd (upd (upd (upd (upd (upd (upd (fun _ => 0) (2 : Int32).toNatClampNeg 2) (3 : Int32).toNatClampNeg 1) (((10 : Int32) + (5 : Int32) * (0 : Int32)) + (0 : Int32)).toNatClampNeg 3) (((10 : Int32) + (5 : Int32) * (0 : Int32)) + (1 : Int32)).toNatClampNeg 65535) (((10 : Int32) + (5 : Int32) * (0 : Int32)) + (3 : Int32)).toNatClampNeg ((5 : Int32) * (0 : Int32))) (((10 : Int32) + (5 : Int32) * (1 : Int32)) + (0 : Int32)).toNatClampNeg 3) (((10 : Int32) + (5 : Int32) * (1 : Int32)) + (1 : Int32)).toNatClampNeg 65535) (((10 : Int32) + (5 : Int32) * (1 : Int32)) + (3 : Int32)).toNatClampNeg ((5 : Int32) * (1 : Int32)))) (fun _ => 0)) := hD
  refine lv_iinc (v := 2) (lv' := [(1, .int 2), (0, .ref (A 0))]) hx hb dX7_init_121 hl (k := 0) rfl (by decide) (by decide) rfl (fun ls hl => ?_)
  refine lv_goto (tgt := 71) hx hb dX7_init_124 (by decide) ?_
  refine lv_iload_n hx hb dX7_init_71 rfl (lv_at hl 0 rfl) ?_
  refine lv_iconst (v := 4) hx hb dX7_init_72 (by decide) ?_
  refine lv_icmp_ge (tgt := 127) hx hb dX7_init_73 (by decide) (fun c_3 => absurd c_3 (by decide)) (fun c_3 => ?_)
  refine lv_aload_n hx hb dX7_init_76 rfl (lv_at hl 1 rfl) ?_
  refine va_get (D := D) (ci := 6) (v := .ref (A 1)) (C := RX7) (T := TX7) (N := 15) hx hb hts inT_X7 hown hK.1 hP 0 rfl rfl 0 (by decide) (hts _ wfl_RX7_7) (fun _ h9 => h9) rfl dX7_init_77 ?_
  refine lv_bipush (v := 10) hx hb dX7_init_80 (by decide) ?_
  refine lv_iconst (v := 5) hx hb dX7_init_82 (by decide) ?_
  refine lv_iload_n hx hb dX7_init_83 rfl (lv_at hl 0 rfl) ?_
  refine lv_imul hx hb dX7_init_84 ?_
  refine lv_iadd hx hb dX7_init_85 ?_
  refine lv_iconst (v := 0) hx hb dX7_init_86 (by decide) ?_
  refine lv_iadd hx hb dX7_init_87 ?_
  refine lv_iconst (v := 3) hx hb dX7_init_88 (by decide) ?_
  refine va_iast (D := D) (f := (upd (upd (upd (upd (upd (upd (upd (upd (fun _ => 0) (2 : Int32).toNatClampNeg 2) (3 : Int32).toNatClampNeg 1) (((10 : Int32) + (5 : Int32) * (0 : Int32)) + (0 : Int32)).toNatClampNeg 3) (((10 : Int32) + (5 : Int32) * (0 : Int32)) + (1 : Int32)).toNatClampNeg 65535) (((10 : Int32) + (5 : Int32) * (0 : Int32)) + (3 : Int32)).toNatClampNeg ((5 : Int32) * (0 : Int32))) (((10 : Int32) + (5 : Int32) * (1 : Int32)) + (0 : Int32)).toNatClampNeg 3) (((10 : Int32) + (5 : Int32) * (1 : Int32)) + (1 : Int32)).toNatClampNeg 65535) (((10 : Int32) + (5 : Int32) * (1 : Int32)) + (3 : Int32)).toNatClampNeg ((5 : Int32) * (1 : Int32)))) hx hb hK.1 hP hD hS 1 1 rfl rfl (vp_lit (by decide)) dX7_init_89 (fun H locs hP hD hS => ?_)
  have hP : va_P D vwCl (wM cyI A (va_up (fun _ _ => 0) 0 (upd (upd (upd (upd (upd (upd (upd (upd (upd (fun _ => 0) (2 : Int32).toNatClampNeg 2) (3 : Int32).toNatClampNeg 1) (((10 : Int32) + (5 : Int32) * (0 : Int32)) + (0 : Int32)).toNatClampNeg 3) (((10 : Int32) + (5 : Int32) * (0 : Int32)) + (1 : Int32)).toNatClampNeg 65535) (((10 : Int32) + (5 : Int32) * (0 : Int32)) + (3 : Int32)).toNatClampNeg ((5 : Int32) * (0 : Int32))) (((10 : Int32) + (5 : Int32) * (1 : Int32)) + (0 : Int32)).toNatClampNeg 3) (((10 : Int32) + (5 : Int32) * (1 : Int32)) + (1 : Int32)).toNatClampNeg 65535) (((10 : Int32) + (5 : Int32) * (1 : Int32)) + (3 : Int32)).toNatClampNeg ((5 : Int32) * (1 : Int32))) (((10 : Int32) + (5 : Int32) * (2 : Int32)) + (0 : Int32)).toNatClampNeg 3)) (fun _ => 0)) H := hP
  have hD : va_D A0 (wM cyI A (va_up (fun _ _ => 0) 0 (upd (upd (upd (upd (upd (upd (upd (upd (upd (fun _ => 0) (2 : Int32).toNatClampNeg 2) (3 : Int32).toNatClampNeg 1) (((10 : Int32) + (5 : Int32) * (0 : Int32)) + (0 : Int32)).toNatClampNeg 3) (((10 : Int32) + (5 : Int32) * (0 : Int32)) + (1 : Int32)).toNatClampNeg 65535) (((10 : Int32) + (5 : Int32) * (0 : Int32)) + (3 : Int32)).toNatClampNeg ((5 : Int32) * (0 : Int32))) (((10 : Int32) + (5 : Int32) * (1 : Int32)) + (0 : Int32)).toNatClampNeg 3) (((10 : Int32) + (5 : Int32) * (1 : Int32)) + (1 : Int32)).toNatClampNeg 65535) (((10 : Int32) + (5 : Int32) * (1 : Int32)) + (3 : Int32)).toNatClampNeg ((5 : Int32) * (1 : Int32))) (((10 : Int32) + (5 : Int32) * (2 : Int32)) + (0 : Int32)).toNatClampNeg 3)) (fun _ => 0)) := hD
  refine lv_aload_n hx hb dX7_init_90 rfl (lv_at hl 1 rfl) ?_
  refine va_get (D := D) (ci := 6) (v := .ref (A 1)) (C := RX7) (T := TX7) (N := 15) hx hb hts inT_X7 hown hK.1 hP 0 rfl rfl 0 (by decide) (hts _ wfl_RX7_7) (fun _ h9 => h9) rfl dX7_init_91 ?_
  refine lv_bipush (v := 10) hx hb dX7_init_94 (by decide) ?_
  refine lv_iconst (v := 5) hx hb dX7_init_96 (by decide) ?_
  refine lv_iload_n hx hb dX7_init_97 rfl (lv_at hl 0 rfl) ?_
  refine lv_imul hx hb dX7_init_98 ?_
  refine lv_iadd hx hb dX7_init_99 ?_
  refine lv_iconst (v := 1) hx hb dX7_init_100 (by decide) ?_
  refine lv_iadd hx hb dX7_init_101 ?_
  refine lv_ldc (v := 65535) hx hb hown (hts _ wco_RX7_28) dX7_init_102 ?_
  refine va_iast (D := D) (f := (upd (upd (upd (upd (upd (upd (upd (upd (upd (fun _ => 0) (2 : Int32).toNatClampNeg 2) (3 : Int32).toNatClampNeg 1) (((10 : Int32) + (5 : Int32) * (0 : Int32)) + (0 : Int32)).toNatClampNeg 3) (((10 : Int32) + (5 : Int32) * (0 : Int32)) + (1 : Int32)).toNatClampNeg 65535) (((10 : Int32) + (5 : Int32) * (0 : Int32)) + (3 : Int32)).toNatClampNeg ((5 : Int32) * (0 : Int32))) (((10 : Int32) + (5 : Int32) * (1 : Int32)) + (0 : Int32)).toNatClampNeg 3) (((10 : Int32) + (5 : Int32) * (1 : Int32)) + (1 : Int32)).toNatClampNeg 65535) (((10 : Int32) + (5 : Int32) * (1 : Int32)) + (3 : Int32)).toNatClampNeg ((5 : Int32) * (1 : Int32))) (((10 : Int32) + (5 : Int32) * (2 : Int32)) + (0 : Int32)).toNatClampNeg 3)) hx hb hK.1 hP hD hS 1 1 rfl rfl (vp_lit (by decide)) dX7_init_104 (fun H locs hP hD hS => ?_)
  have hP : va_P D vwCl (wM cyI A (va_up (fun _ _ => 0) 0 (upd (upd (upd (upd (upd (upd (upd (upd (upd (upd (fun _ => 0) (2 : Int32).toNatClampNeg 2) (3 : Int32).toNatClampNeg 1) (((10 : Int32) + (5 : Int32) * (0 : Int32)) + (0 : Int32)).toNatClampNeg 3) (((10 : Int32) + (5 : Int32) * (0 : Int32)) + (1 : Int32)).toNatClampNeg 65535) (((10 : Int32) + (5 : Int32) * (0 : Int32)) + (3 : Int32)).toNatClampNeg ((5 : Int32) * (0 : Int32))) (((10 : Int32) + (5 : Int32) * (1 : Int32)) + (0 : Int32)).toNatClampNeg 3) (((10 : Int32) + (5 : Int32) * (1 : Int32)) + (1 : Int32)).toNatClampNeg 65535) (((10 : Int32) + (5 : Int32) * (1 : Int32)) + (3 : Int32)).toNatClampNeg ((5 : Int32) * (1 : Int32))) (((10 : Int32) + (5 : Int32) * (2 : Int32)) + (0 : Int32)).toNatClampNeg 3) (((10 : Int32) + (5 : Int32) * (2 : Int32)) + (1 : Int32)).toNatClampNeg 65535)) (fun _ => 0)) H := hP
  have hD : va_D A0 (wM cyI A (va_up (fun _ _ => 0) 0 (upd (upd (upd (upd (upd (upd (upd (upd (upd (upd (fun _ => 0) (2 : Int32).toNatClampNeg 2) (3 : Int32).toNatClampNeg 1) (((10 : Int32) + (5 : Int32) * (0 : Int32)) + (0 : Int32)).toNatClampNeg 3) (((10 : Int32) + (5 : Int32) * (0 : Int32)) + (1 : Int32)).toNatClampNeg 65535) (((10 : Int32) + (5 : Int32) * (0 : Int32)) + (3 : Int32)).toNatClampNeg ((5 : Int32) * (0 : Int32))) (((10 : Int32) + (5 : Int32) * (1 : Int32)) + (0 : Int32)).toNatClampNeg 3) (((10 : Int32) + (5 : Int32) * (1 : Int32)) + (1 : Int32)).toNatClampNeg 65535) (((10 : Int32) + (5 : Int32) * (1 : Int32)) + (3 : Int32)).toNatClampNeg ((5 : Int32) * (1 : Int32))) (((10 : Int32) + (5 : Int32) * (2 : Int32)) + (0 : Int32)).toNatClampNeg 3) (((10 : Int32) + (5 : Int32) * (2 : Int32)) + (1 : Int32)).toNatClampNeg 65535)) (fun _ => 0)) := hD
  refine lv_aload_n hx hb dX7_init_105 rfl (lv_at hl 1 rfl) ?_
  refine va_get (D := D) (ci := 6) (v := .ref (A 1)) (C := RX7) (T := TX7) (N := 15) hx hb hts inT_X7 hown hK.1 hP 0 rfl rfl 0 (by decide) (hts _ wfl_RX7_7) (fun _ h9 => h9) rfl dX7_init_106 ?_
  refine lv_bipush (v := 10) hx hb dX7_init_109 (by decide) ?_
  refine lv_iconst (v := 5) hx hb dX7_init_111 (by decide) ?_
  refine lv_iload_n hx hb dX7_init_112 rfl (lv_at hl 0 rfl) ?_
  refine lv_imul hx hb dX7_init_113 ?_
  refine lv_iadd hx hb dX7_init_114 ?_
  refine lv_iconst (v := 3) hx hb dX7_init_115 (by decide) ?_
  refine lv_iadd hx hb dX7_init_116 ?_
  refine lv_iconst (v := 5) hx hb dX7_init_117 (by decide) ?_
  refine lv_iload_n hx hb dX7_init_118 rfl (lv_at hl 0 rfl) ?_
  refine lv_imul hx hb dX7_init_119 ?_
  refine va_iast (D := D) (f := (upd (upd (upd (upd (upd (upd (upd (upd (upd (upd (fun _ => 0) (2 : Int32).toNatClampNeg 2) (3 : Int32).toNatClampNeg 1) (((10 : Int32) + (5 : Int32) * (0 : Int32)) + (0 : Int32)).toNatClampNeg 3) (((10 : Int32) + (5 : Int32) * (0 : Int32)) + (1 : Int32)).toNatClampNeg 65535) (((10 : Int32) + (5 : Int32) * (0 : Int32)) + (3 : Int32)).toNatClampNeg ((5 : Int32) * (0 : Int32))) (((10 : Int32) + (5 : Int32) * (1 : Int32)) + (0 : Int32)).toNatClampNeg 3) (((10 : Int32) + (5 : Int32) * (1 : Int32)) + (1 : Int32)).toNatClampNeg 65535) (((10 : Int32) + (5 : Int32) * (1 : Int32)) + (3 : Int32)).toNatClampNeg ((5 : Int32) * (1 : Int32))) (((10 : Int32) + (5 : Int32) * (2 : Int32)) + (0 : Int32)).toNatClampNeg 3) (((10 : Int32) + (5 : Int32) * (2 : Int32)) + (1 : Int32)).toNatClampNeg 65535)) hx hb hK.1 hP hD hS 1 1 rfl rfl (vp_lit (by decide)) dX7_init_120 (fun H locs hP hD hS => ?_)
  have hP : va_P D vwCl (wM cyI A (va_up (fun _ _ => 0) 0 (upd (upd (upd (upd (upd (upd (upd (upd (upd (upd (upd (fun _ => 0) (2 : Int32).toNatClampNeg 2) (3 : Int32).toNatClampNeg 1) (((10 : Int32) + (5 : Int32) * (0 : Int32)) + (0 : Int32)).toNatClampNeg 3) (((10 : Int32) + (5 : Int32) * (0 : Int32)) + (1 : Int32)).toNatClampNeg 65535) (((10 : Int32) + (5 : Int32) * (0 : Int32)) + (3 : Int32)).toNatClampNeg ((5 : Int32) * (0 : Int32))) (((10 : Int32) + (5 : Int32) * (1 : Int32)) + (0 : Int32)).toNatClampNeg 3) (((10 : Int32) + (5 : Int32) * (1 : Int32)) + (1 : Int32)).toNatClampNeg 65535) (((10 : Int32) + (5 : Int32) * (1 : Int32)) + (3 : Int32)).toNatClampNeg ((5 : Int32) * (1 : Int32))) (((10 : Int32) + (5 : Int32) * (2 : Int32)) + (0 : Int32)).toNatClampNeg 3) (((10 : Int32) + (5 : Int32) * (2 : Int32)) + (1 : Int32)).toNatClampNeg 65535) (((10 : Int32) + (5 : Int32) * (2 : Int32)) + (3 : Int32)).toNatClampNeg ((5 : Int32) * (2 : Int32)))) (fun _ => 0)) H := hP
  have hD : va_D A0 (wM cyI A (va_up (fun _ _ => 0) 0 (upd (upd (upd (upd (upd (upd (upd (upd (upd (upd (upd (fun _ => 0) (2 : Int32).toNatClampNeg 2) (3 : Int32).toNatClampNeg 1) (((10 : Int32) + (5 : Int32) * (0 : Int32)) + (0 : Int32)).toNatClampNeg 3) (((10 : Int32) + (5 : Int32) * (0 : Int32)) + (1 : Int32)).toNatClampNeg 65535) (((10 : Int32) + (5 : Int32) * (0 : Int32)) + (3 : Int32)).toNatClampNeg ((5 : Int32) * (0 : Int32))) (((10 : Int32) + (5 : Int32) * (1 : Int32)) + (0 : Int32)).toNatClampNeg 3) (((10 : Int32) + (5 : Int32) * (1 : Int32)) + (1 : Int32)).toNatClampNeg 65535) (((10 : Int32) + (5 : Int32) * (1 : Int32)) + (3 : Int32)).toNatClampNeg ((5 : Int32) * (1 : Int32))) (((10 : Int32) + (5 : Int32) * (2 : Int32)) + (0 : Int32)).toNatClampNeg 3) (((10 : Int32) + (5 : Int32) * (2 : Int32)) + (1 : Int32)).toNatClampNeg 65535) (((10 : Int32) + (5 : Int32) * (2 : Int32)) + (3 : Int32)).toNatClampNeg ((5 : Int32) * (2 : Int32)))) (fun _ => 0)) := hD
  refine lv_iinc (v := 3) (lv' := [(1, .int 3), (0, .ref (A 0))]) hx hb dX7_init_121 hl (k := 0) rfl (by decide) (by decide) rfl (fun ls hl => ?_)
  refine lv_goto (tgt := 71) hx hb dX7_init_124 (by decide) ?_
  refine lv_iload_n hx hb dX7_init_71 rfl (lv_at hl 0 rfl) ?_
  refine lv_iconst (v := 4) hx hb dX7_init_72 (by decide) ?_
  refine lv_icmp_ge (tgt := 127) hx hb dX7_init_73 (by decide) (fun c_3 => absurd c_3 (by decide)) (fun c_3 => ?_)
  refine lv_aload_n hx hb dX7_init_76 rfl (lv_at hl 1 rfl) ?_
  refine va_get (D := D) (ci := 6) (v := .ref (A 1)) (C := RX7) (T := TX7) (N := 15) hx hb hts inT_X7 hown hK.1 hP 0 rfl rfl 0 (by decide) (hts _ wfl_RX7_7) (fun _ h9 => h9) rfl dX7_init_77 ?_
  refine lv_bipush (v := 10) hx hb dX7_init_80 (by decide) ?_
  refine lv_iconst (v := 5) hx hb dX7_init_82 (by decide) ?_
  refine lv_iload_n hx hb dX7_init_83 rfl (lv_at hl 0 rfl) ?_
  refine lv_imul hx hb dX7_init_84 ?_
  refine lv_iadd hx hb dX7_init_85 ?_
  refine lv_iconst (v := 0) hx hb dX7_init_86 (by decide) ?_
  refine lv_iadd hx hb dX7_init_87 ?_
  refine lv_iconst (v := 3) hx hb dX7_init_88 (by decide) ?_
  refine va_iast (D := D) (f := (upd (upd (upd (upd (upd (upd (upd (upd (upd (upd (upd (fun _ => 0) (2 : Int32).toNatClampNeg 2) (3 : Int32).toNatClampNeg 1) (((10 : Int32) + (5 : Int32) * (0 : Int32)) + (0 : Int32)).toNatClampNeg 3) (((10 : Int32) + (5 : Int32) * (0 : Int32)) + (1 : Int32)).toNatClampNeg 65535) (((10 : Int32) + (5 : Int32) * (0 : Int32)) + (3 : Int32)).toNatClampNeg ((5 : Int32) * (0 : Int32))) (((10 : Int32) + (5 : Int32) * (1 : Int32)) + (0 : Int32)).toNatClampNeg 3) (((10 : Int32) + (5 : Int32) * (1 : Int32)) + (1 : Int32)).toNatClampNeg 65535) (((10 : Int32) + (5 : Int32) * (1 : Int32)) + (3 : Int32)).toNatClampNeg ((5 : Int32) * (1 : Int32))) (((10 : Int32) + (5 : Int32) * (2 : Int32)) + (0 : Int32)).toNatClampNeg 3) (((10 : Int32) + (5 : Int32) * (2 : Int32)) + (1 : Int32)).toNatClampNeg 65535) (((10 : Int32) + (5 : Int32) * (2 : Int32)) + (3 : Int32)).toNatClampNeg ((5 : Int32) * (2 : Int32)))) hx hb hK.1 hP hD hS 1 1 rfl rfl (vp_lit (by decide)) dX7_init_89 (fun H locs hP hD hS => ?_)
  have hP : va_P D vwCl (wM cyI A (va_up (fun _ _ => 0) 0 (upd (upd (upd (upd (upd (upd (upd (upd (upd (upd (upd (upd (fun _ => 0) (2 : Int32).toNatClampNeg 2) (3 : Int32).toNatClampNeg 1) (((10 : Int32) + (5 : Int32) * (0 : Int32)) + (0 : Int32)).toNatClampNeg 3) (((10 : Int32) + (5 : Int32) * (0 : Int32)) + (1 : Int32)).toNatClampNeg 65535) (((10 : Int32) + (5 : Int32) * (0 : Int32)) + (3 : Int32)).toNatClampNeg ((5 : Int32) * (0 : Int32))) (((10 : Int32) + (5 : Int32) * (1 : Int32)) + (0 : Int32)).toNatClampNeg 3) (((10 : Int32) + (5 : Int32) * (1 : Int32)) + (1 : Int32)).toNatClampNeg 65535) (((10 : Int32) + (5 : Int32) * (1 : Int32)) + (3 : Int32)).toNatClampNeg ((5 : Int32) * (1 : Int32))) (((10 : Int32) + (5 : Int32) * (2 : Int32)) + (0 : Int32)).toNatClampNeg 3) (((10 : Int32) + (5 : Int32) * (2 : Int32)) + (1 : Int32)).toNatClampNeg 65535) (((10 : Int32) + (5 : Int32) * (2 : Int32)) + (3 : Int32)).toNatClampNeg ((5 : Int32) * (2 : Int32))) (((10 : Int32) + (5 : Int32) * (3 : Int32)) + (0 : Int32)).toNatClampNeg 3)) (fun _ => 0)) H := hP
  have hD : va_D A0 (wM cyI A (va_up (fun _ _ => 0) 0 (upd (upd (upd (upd (upd (upd (upd (upd (upd (upd (upd (upd (fun _ => 0) (2 : Int32).toNatClampNeg 2) (3 : Int32).toNatClampNeg 1) (((10 : Int32) + (5 : Int32) * (0 : Int32)) + (0 : Int32)).toNatClampNeg 3) (((10 : Int32) + (5 : Int32) * (0 : Int32)) + (1 : Int32)).toNatClampNeg 65535) (((10 : Int32) + (5 : Int32) * (0 : Int32)) + (3 : Int32)).toNatClampNeg ((5 : Int32) * (0 : Int32))) (((10 : Int32) + (5 : Int32) * (1 : Int32)) + (0 : Int32)).toNatClampNeg 3) (((10 : Int32) + (5 : Int32) * (1 : Int32)) + (1 : Int32)).toNatClampNeg 65535) (((10 : Int32) + (5 : Int32) * (1 : Int32)) + (3 : Int32)).toNatClampNeg ((5 : Int32) * (1 : Int32))) (((10 : Int32) + (5 : Int32) * (2 : Int32)) + (0 : Int32)).toNatClampNeg 3) (((10 : Int32) + (5 : Int32) * (2 : Int32)) + (1 : Int32)).toNatClampNeg 65535) (((10 : Int32) + (5 : Int32) * (2 : Int32)) + (3 : Int32)).toNatClampNeg ((5 : Int32) * (2 : Int32))) (((10 : Int32) + (5 : Int32) * (3 : Int32)) + (0 : Int32)).toNatClampNeg 3)) (fun _ => 0)) := hD
  refine lv_aload_n hx hb dX7_init_90 rfl (lv_at hl 1 rfl) ?_
  refine va_get (D := D) (ci := 6) (v := .ref (A 1)) (C := RX7) (T := TX7) (N := 15) hx hb hts inT_X7 hown hK.1 hP 0 rfl rfl 0 (by decide) (hts _ wfl_RX7_7) (fun _ h9 => h9) rfl dX7_init_91 ?_
  refine lv_bipush (v := 10) hx hb dX7_init_94 (by decide) ?_
  refine lv_iconst (v := 5) hx hb dX7_init_96 (by decide) ?_
  refine lv_iload_n hx hb dX7_init_97 rfl (lv_at hl 0 rfl) ?_
  refine lv_imul hx hb dX7_init_98 ?_
  refine lv_iadd hx hb dX7_init_99 ?_
  refine lv_iconst (v := 1) hx hb dX7_init_100 (by decide) ?_
  refine lv_iadd hx hb dX7_init_101 ?_
  refine lv_ldc (v := 65535) hx hb hown (hts _ wco_RX7_28) dX7_init_102 ?_
  refine va_iast (D := D) (f := (upd (upd (upd (upd (upd (upd (upd (upd (upd (upd (upd (upd (fun _ => 0) (2 : Int32).toNatClampNeg 2) (3 : Int32).toNatClampNeg 1) (((10 : Int32) + (5 : Int32) * (0 : Int32)) + (0 : Int32)).toNatClampNeg 3) (((10 : Int32) + (5 : Int32) * (0 : Int32)) + (1 : Int32)).toNatClampNeg 65535) (((10 : Int32) + (5 : Int32) * (0 : Int32)) + (3 : Int32)).toNatClampNeg ((5 : Int32) * (0 : Int32))) (((10 : Int32) + (5 : Int32) * (1 : Int32)) + (0 : Int32)).toNatClampNeg 3) (((10 : Int32) + (5 : Int32) * (1 : Int32)) + (1 : Int32)).toNatClampNeg 65535) (((10 : Int32) + (5 : Int32) * (1 : Int32)) + (3 : Int32)).toNatClampNeg ((5 : Int32) * (1 : Int32))) (((10 : Int32) + (5 : Int32) * (2 : Int32)) + (0 : Int32)).toNatClampNeg 3) (((10 : Int32) + (5 : Int32) * (2 : Int32)) + (1 : Int32)).toNatClampNeg 65535) (((10 : Int32) + (5 : Int32) * (2 : Int32)) + (3 : Int32)).toNatClampNeg ((5 : Int32) * (2 : Int32))) (((10 : Int32) + (5 : Int32) * (3 : Int32)) + (0 : Int32)).toNatClampNeg 3)) hx hb hK.1 hP hD hS 1 1 rfl rfl (vp_lit (by decide)) dX7_init_104 (fun H locs hP hD hS => ?_)
  have hP : va_P D vwCl (wM cyI A (va_up (fun _ _ => 0) 0 (upd (upd (upd (upd (upd (upd (upd (upd (upd (upd (upd (upd (upd (fun _ => 0) (2 : Int32).toNatClampNeg 2) (3 : Int32).toNatClampNeg 1) (((10 : Int32) + (5 : Int32) * (0 : Int32)) + (0 : Int32)).toNatClampNeg 3) (((10 : Int32) + (5 : Int32) * (0 : Int32)) + (1 : Int32)).toNatClampNeg 65535) (((10 : Int32) + (5 : Int32) * (0 : Int32)) + (3 : Int32)).toNatClampNeg ((5 : Int32) * (0 : Int32))) (((10 : Int32) + (5 : Int32) * (1 : Int32)) + (0 : Int32)).toNatClampNeg 3) (((10 : Int32) + (5 : Int32) * (1 : Int32)) + (1 : Int32)).toNatClampNeg 65535) (((10 : Int32) + (5 : Int32) * (1 : Int32)) + (3 : Int32)).toNatClampNeg ((5 : Int32) * (1 : Int32))) (((10 : Int32) + (5 : Int32) * (2 : Int32)) + (0 : Int32)).toNatClampNeg 3) (((10 : Int32) + (5 : Int32) * (2 : Int32)) + (1 : Int32)).toNatClampNeg 65535) (((10 : Int32) + (5 : Int32) * (2 : Int32)) + (3 : Int32)).toNatClampNeg ((5 : Int32) * (2 : Int32))) (((10 : Int32) + (5 : Int32) * (3 : Int32)) + (0 : Int32)).toNatClampNeg 3) (((10 : Int32) + (5 : Int32) * (3 : Int32)) + (1 : Int32)).toNatClampNeg 65535)) (fun _ => 0)) H := hP
  have hD : va_D A0 (wM cyI A (va_up (fun _ _ => 0) 0 (upd (upd (upd (upd (upd (upd (upd (upd (upd (upd (upd (upd (upd (fun _ => 0) (2 : Int32).toNatClampNeg 2) (3 : Int32).toNatClampNeg 1) (((10 : Int32) + (5 : Int32) * (0 : Int32)) + (0 : Int32)).toNatClampNeg 3) (((10 : Int32) + (5 : Int32) * (0 : Int32)) + (1 : Int32)).toNatClampNeg 65535) (((10 : Int32) + (5 : Int32) * (0 : Int32)) + (3 : Int32)).toNatClampNeg ((5 : Int32) * (0 : Int32))) (((10 : Int32) + (5 : Int32) * (1 : Int32)) + (0 : Int32)).toNatClampNeg 3) (((10 : Int32) + (5 : Int32) * (1 : Int32)) + (1 : Int32)).toNatClampNeg 65535) (((10 : Int32) + (5 : Int32) * (1 : Int32)) + (3 : Int32)).toNatClampNeg ((5 : Int32) * (1 : Int32))) (((10 : Int32) + (5 : Int32) * (2 : Int32)) + (0 : Int32)).toNatClampNeg 3) (((10 : Int32) + (5 : Int32) * (2 : Int32)) + (1 : Int32)).toNatClampNeg 65535) (((10 : Int32) + (5 : Int32) * (2 : Int32)) + (3 : Int32)).toNatClampNeg ((5 : Int32) * (2 : Int32))) (((10 : Int32) + (5 : Int32) * (3 : Int32)) + (0 : Int32)).toNatClampNeg 3) (((10 : Int32) + (5 : Int32) * (3 : Int32)) + (1 : Int32)).toNatClampNeg 65535)) (fun _ => 0)) := hD
  refine lv_aload_n hx hb dX7_init_105 rfl (lv_at hl 1 rfl) ?_
  refine va_get (D := D) (ci := 6) (v := .ref (A 1)) (C := RX7) (T := TX7) (N := 15) hx hb hts inT_X7 hown hK.1 hP 0 rfl rfl 0 (by decide) (hts _ wfl_RX7_7) (fun _ h9 => h9) rfl dX7_init_106 ?_
  refine lv_bipush (v := 10) hx hb dX7_init_109 (by decide) ?_
  refine lv_iconst (v := 5) hx hb dX7_init_111 (by decide) ?_
  refine lv_iload_n hx hb dX7_init_112 rfl (lv_at hl 0 rfl) ?_
  refine lv_imul hx hb dX7_init_113 ?_
  refine lv_iadd hx hb dX7_init_114 ?_
  refine lv_iconst (v := 3) hx hb dX7_init_115 (by decide) ?_
  refine lv_iadd hx hb dX7_init_116 ?_
  refine lv_iconst (v := 5) hx hb dX7_init_117 (by decide) ?_
  refine lv_iload_n hx hb dX7_init_118 rfl (lv_at hl 0 rfl) ?_
  refine lv_imul hx hb dX7_init_119 ?_
  refine va_iast (D := D) (f := (upd (upd (upd (upd (upd (upd (upd (upd (upd (upd (upd (upd (upd (fun _ => 0) (2 : Int32).toNatClampNeg 2) (3 : Int32).toNatClampNeg 1) (((10 : Int32) + (5 : Int32) * (0 : Int32)) + (0 : Int32)).toNatClampNeg 3) (((10 : Int32) + (5 : Int32) * (0 : Int32)) + (1 : Int32)).toNatClampNeg 65535) (((10 : Int32) + (5 : Int32) * (0 : Int32)) + (3 : Int32)).toNatClampNeg ((5 : Int32) * (0 : Int32))) (((10 : Int32) + (5 : Int32) * (1 : Int32)) + (0 : Int32)).toNatClampNeg 3) (((10 : Int32) + (5 : Int32) * (1 : Int32)) + (1 : Int32)).toNatClampNeg 65535) (((10 : Int32) + (5 : Int32) * (1 : Int32)) + (3 : Int32)).toNatClampNeg ((5 : Int32) * (1 : Int32))) (((10 : Int32) + (5 : Int32) * (2 : Int32)) + (0 : Int32)).toNatClampNeg 3) (((10 : Int32) + (5 : Int32) * (2 : Int32)) + (1 : Int32)).toNatClampNeg 65535) (((10 : Int32) + (5 : Int32) * (2 : Int32)) + (3 : Int32)).toNatClampNeg ((5 : Int32) * (2 : Int32))) (((10 : Int32) + (5 : Int32) * (3 : Int32)) + (0 : Int32)).toNatClampNeg 3) (((10 : Int32) + (5 : Int32) * (3 : Int32)) + (1 : Int32)).toNatClampNeg 65535)) hx hb hK.1 hP hD hS 1 1 rfl rfl (vp_lit (by decide)) dX7_init_120 (fun H locs hP hD hS => ?_)
  have hP : va_P D vwCl (wM cyI A (va_up (fun _ _ => 0) 0 (upd (upd (upd (upd (upd (upd (upd (upd (upd (upd (upd (upd (upd (upd (fun _ => 0) (2 : Int32).toNatClampNeg 2) (3 : Int32).toNatClampNeg 1) (((10 : Int32) + (5 : Int32) * (0 : Int32)) + (0 : Int32)).toNatClampNeg 3) (((10 : Int32) + (5 : Int32) * (0 : Int32)) + (1 : Int32)).toNatClampNeg 65535) (((10 : Int32) + (5 : Int32) * (0 : Int32)) + (3 : Int32)).toNatClampNeg ((5 : Int32) * (0 : Int32))) (((10 : Int32) + (5 : Int32) * (1 : Int32)) + (0 : Int32)).toNatClampNeg 3) (((10 : Int32) + (5 : Int32) * (1 : Int32)) + (1 : Int32)).toNatClampNeg 65535) (((10 : Int32) + (5 : Int32) * (1 : Int32)) + (3 : Int32)).toNatClampNeg ((5 : Int32) * (1 : Int32))) (((10 : Int32) + (5 : Int32) * (2 : Int32)) + (0 : Int32)).toNatClampNeg 3) (((10 : Int32) + (5 : Int32) * (2 : Int32)) + (1 : Int32)).toNatClampNeg 65535) (((10 : Int32) + (5 : Int32) * (2 : Int32)) + (3 : Int32)).toNatClampNeg ((5 : Int32) * (2 : Int32))) (((10 : Int32) + (5 : Int32) * (3 : Int32)) + (0 : Int32)).toNatClampNeg 3) (((10 : Int32) + (5 : Int32) * (3 : Int32)) + (1 : Int32)).toNatClampNeg 65535) (((10 : Int32) + (5 : Int32) * (3 : Int32)) + (3 : Int32)).toNatClampNeg ((5 : Int32) * (3 : Int32)))) (fun _ => 0)) H := hP
  have hD : va_D A0 (wM cyI A (va_up (fun _ _ => 0) 0 (upd (upd (upd (upd (upd (upd (upd (upd (upd (upd (upd (upd (upd (upd (fun _ => 0) (2 : Int32).toNatClampNeg 2) (3 : Int32).toNatClampNeg 1) (((10 : Int32) + (5 : Int32) * (0 : Int32)) + (0 : Int32)).toNatClampNeg 3) (((10 : Int32) + (5 : Int32) * (0 : Int32)) + (1 : Int32)).toNatClampNeg 65535) (((10 : Int32) + (5 : Int32) * (0 : Int32)) + (3 : Int32)).toNatClampNeg ((5 : Int32) * (0 : Int32))) (((10 : Int32) + (5 : Int32) * (1 : Int32)) + (0 : Int32)).toNatClampNeg 3) (((10 : Int32) + (5 : Int32) * (1 : Int32)) + (1 : Int32)).toNatClampNeg 65535) (((10 : Int32) + (5 : Int32) * (1 : Int32)) + (3 : Int32)).toNatClampNeg ((5 : Int32) * (1 : Int32))) (((10 : Int32) + (5 : Int32) * (2 : Int32)) + (0 : Int32)).toNatClampNeg 3) (((10 : Int32) + (5 : Int32) * (2 : Int32)) + (1 : Int32)).toNatClampNeg 65535) (((10 : Int32) + (5 : Int32) * (2 : Int32)) + (3 : Int32)).toNatClampNeg ((5 : Int32) * (2 : Int32))) (((10 : Int32) + (5 : Int32) * (3 : Int32)) + (0 : Int32)).toNatClampNeg 3) (((10 : Int32) + (5 : Int32) * (3 : Int32)) + (1 : Int32)).toNatClampNeg 65535) (((10 : Int32) + (5 : Int32) * (3 : Int32)) + (3 : Int32)).toNatClampNeg ((5 : Int32) * (3 : Int32)))) (fun _ => 0)) := hD
  refine lv_iinc (v := 4) (lv' := [(1, .int 4), (0, .ref (A 0))]) hx hb dX7_init_121 hl (k := 0) rfl (by decide) (by decide) rfl (fun ls hl => ?_)
  refine lv_goto (tgt := 71) hx hb dX7_init_124 (by decide) ?_
  refine lv_iload_n hx hb dX7_init_71 rfl (lv_at hl 0 rfl) ?_
  refine lv_iconst (v := 4) hx hb dX7_init_72 (by decide) ?_
  refine lv_icmp_ge (tgt := 127) hx hb dX7_init_73 (by decide) (fun c_3 => ?_) (fun c_3 => absurd (by decide) c_3)
  refine lv_iconst (v := 0) hx hb dX7_init_127 (by decide) ?_
  refine lv_istore_n (lv' := [(1, .int 0), (0, .ref (A 0))]) hx hb dX7_init_128 rfl hl (by decide) rfl (fun ls hl => ?_)
  have hP : va_P D vwCl (wM cyI A (va_up (fun _ _ => 0) 0 ms0) (fun _ => 0)) H := hP
  have hD : va_D A0 (wM cyI A (va_up (fun _ _ => 0) 0 ms0) (fun _ => 0)) := hD
  have key_129 : ∀ k i : Nat, i + k = 28 → ∀ (H : Heap) (locs : List Loc), va_P D vwCl (wM cyI A (va_up (fun _ _ => 0) 0 (m28 i)) (fun _ => 0)) H → va_D A0 (wM cyI A (va_up (fun _ _ => 0) 0 (m28 i)) (fun _ => 0)) → va_S A0 s.heap H locs → ∀ (ls : Array Slot), lv_has ls 2 [(0, .ref (A 0)), (1, .int (nI i))] → W p l e (headSpec (Ty yX7_init cX7_init 2 none) ({ frames := 2, cells := 6, slots := 1057, locals := 64 } : Room)).room s m ([.ref a] : List Value).toArray below meth cd H locs 6 1057 (MQ below (MKX D (fun x : CiT => wM cyI x.1 x.2.1 x.2.2) (MI a) A0) ([.ref a] : List Value).toArray s 6 1057 A0) (F0 m 129 ls []) := by
    intro k
    induction k with
    | zero =>
      intro i hi H locs hP hD hS ls hl
      obtain rfl : i = 28 := hi
      refine lv_iload_n hx hb dX7_init_129 rfl (lv_at hl 1 rfl) ?_
      refine lv_bipush (v := 28) hx hb dX7_init_130 (by decide) ?_
      refine lv_icmp_ge (tgt := 166) hx hb dX7_init_132 (by decide) (fun c_2 => ?_) (fun c_2 => absurd (le_of (C := 28) (N := 28) (by decide)) c_2)
      exact W.vret hx hb hr (fun t ht hW => ⟨⟨(A, va_up (fun _ _ => 0) 0 (m28 28), fun _ => 0), ⟨e0, rfl, rfl⟩, rfl, by rw [ht]; exact hP, hD⟩, hS.F ht⟩) hS.2.2 dX7_init_166
    | succ k ih =>
      intro i hi H locs hP hD hS ls hl
      have hlt : i < 28 := by omega
      refine lv_iload_n hx hb dX7_init_129 rfl (lv_at hl 1 rfl) ?_
      refine lv_bipush (v := 28) hx hb dX7_init_130 (by decide) ?_
      refine lv_icmp_ge (tgt := 166) hx hb dX7_init_132 (by decide) (fun c_3 => absurd c_3 (nle_of (C := 28) (N := 28) (by decide) hlt (by decide))) (fun c_3 => ?_)
      refine lv_aload_n hx hb dX7_init_135 rfl (lv_at hl 0 rfl) ?_
      refine va_get (D := D) (ci := 6) (v := .ref (A 1)) (C := RX7) (T := TX7) (N := 15) hx hb hts inT_X7 hown hK.1 hP 0 rfl rfl 0 (by decide) (hts _ wfl_RX7_7) (fun _ h9 => h9) rfl dX7_init_136 ?_
      refine lv_bipush (v := 30) hx hb dX7_init_139 (by decide) ?_
      refine lv_iconst (v := 4) hx hb dX7_init_141 (by decide) ?_
      refine lv_iload_n hx hb dX7_init_142 rfl (lv_at hl 1 rfl) ?_
      refine lv_imul hx hb dX7_init_143 ?_
      refine lv_iadd hx hb dX7_init_144 ?_
      refine lv_iconst (v := 0) hx hb dX7_init_145 (by decide) ?_
      refine lv_iadd hx hb dX7_init_146 ?_
      refine lv_iload_n hx hb dX7_init_147 rfl (lv_at hl 1 rfl) ?_
      rw [ix_of0]
      refine rS (As := [.int (nI i)]) (rest := [.int (nI (30 + 4 * i)), .ref (A 1)]) hx hb hml hown hts hl.1 (kX7_isGangway l D cyC cyI cyO (nI i)) bS_X7_isGangway wml_RX7_29 ⟨rfl, rfl⟩ ⟨Nat.le_of_ble_eq_true rfl, Nat.le_of_ble_eq_true rfl, Nat.le_of_ble_eq_true rfl, Nat.le_of_ble_eq_true rfl⟩ [] rfl hP hK rfl rfl (Nat.le_of_ble_eq_true rfl) dX7_init_148 ?_
      refine lv_if_eq (tgt := 158) hx hb dX7_init_151 (by decide) (fun c_4 => ?_) (fun c_4 => ?_)
      · skip
        refine lv_iconst (v := 0) hx hb dX7_init_158 (by decide) ?_
        refine va_iast (D := D) (f := m28 i) hx hb hK.1 hP hD hS 1 1 rfl rfl (vp_in_nI (show 30 + 4 * i < 142 by omega) (by decide)) dX7_init_159 (fun H locs hP hD hS => ?_)
        rw [nI_clamp (show 30 + 4 * i < 2 ^ 31 by omega)] at hP hD
        have e5 : upd (m28 i) (30 + 4 * i) 0 = m28 (i + 1) := m28_s i 0 (by rw [if_pos c_4])
        have hP : va_P D vwCl (wM cyI A (va_up (fun _ _ => 0) 0 (upd (m28 i) (30 + 4 * i) 0)) (fun _ => 0)) H := hP
        have hD : va_D A0 (wM cyI A (va_up (fun _ _ => 0) 0 (upd (m28 i) (30 + 4 * i) 0)) (fun _ => 0)) := hD
        rw [e5] at hP hD
        refine lv_iinc (v := nI (i + 1)) (lv' := [(1, .int (nI (i + 1))), (0, .ref (A 0))]) hx hb dX7_init_160 hl (k := 1) rfl (nI_succ i).symm (by decide) rfl (fun ls hl => ?_)
        refine lv_goto (tgt := 129) hx hb dX7_init_163 (by decide) ?_
        exact ih (i + 1) (by omega) H _ hP hD hS ls (lv_sub hl [1, 0] rfl)
      · skip
        refine lv_iconst (v := 5) hx hb dX7_init_154 (by decide) ?_
        refine lv_goto (tgt := 159) hx hb dX7_init_155 (by decide) ?_
        refine va_iast (D := D) (f := m28 i) hx hb hK.1 hP hD hS 1 1 rfl rfl (vp_in_nI (show 30 + 4 * i < 142 by omega) (by decide)) dX7_init_159 (fun H locs hP hD hS => ?_)
        rw [nI_clamp (show 30 + 4 * i < 2 ^ 31 by omega)] at hP hD
        have e5 : upd (m28 i) (30 + 4 * i) 5 = m28 (i + 1) := m28_s i 5 (by rw [if_neg c_4])
        have hP : va_P D vwCl (wM cyI A (va_up (fun _ _ => 0) 0 (upd (m28 i) (30 + 4 * i) 5)) (fun _ => 0)) H := hP
        have hD : va_D A0 (wM cyI A (va_up (fun _ _ => 0) 0 (upd (m28 i) (30 + 4 * i) 5)) (fun _ => 0)) := hD
        rw [e5] at hP hD
        refine lv_iinc (v := nI (i + 1)) (lv' := [(1, .int (nI (i + 1))), (0, .ref (A 0))]) hx hb dX7_init_160 hl (k := 1) rfl (nI_succ i).symm (by decide) rfl (fun ls hl => ?_)
        refine lv_goto (tgt := 129) hx hb dX7_init_163 (by decide) ?_
        exact ih (i + 1) (by omega) H _ hP hD hS ls (lv_sub hl [1, 0] rfl)
  rw [← m28_0] at hP hD
  exact key_129 28 0 (Nat.zero_add 28) H _ hP hD hS ls (lv_sub hl [1, 0] rfl)
