abbrev zX0 : List Value := [.null, .null, .null, .null, .null, .null, .null, .null, .int 0, .int 0, .int 0, .int 0, .int 0, .int 0, .int 0, .int 0, .int 0, .int 0, .int 0]
theorem zX0_ok : ∀ j, j < 19 → defaultValue (tyX0 j) = vp_V zX0 j := fun j hj => by
  match j, hj with
  | 0, _ => rfl
  | 1, _ => rfl
  | 2, _ => rfl
  | 3, _ => rfl
  | 4, _ => rfl
  | 5, _ => rfl
  | 6, _ => rfl
  | 7, _ => rfl
  | 8, _ => rfl
  | 9, _ => rfl
  | 10, _ => rfl
  | 11, _ => rfl
  | 12, _ => rfl
  | 13, _ => rfl
  | 14, _ => rfl
  | 15, _ => rfl
  | 16, _ => rfl
  | 17, _ => rfl
  | 18, _ => rfl
  | j + 19, hj => exact absurd hj (by omega)
abbrev zX1 : List Value := [.null, .int 0]
theorem zX1_ok : ∀ j, j < 2 → defaultValue (tyX1 j) = vp_V zX1 j := fun j hj => by
  match j, hj with
  | 0, _ => rfl
  | 1, _ => rfl
  | j + 2, hj => exact absurd hj (by omega)
abbrev zX2 : List Value := [.null, .int 0, .int 0, .int 0, .int 0, .int 0]
theorem zX2_ok : ∀ j, j < 6 → defaultValue (tyX2 j) = vp_V zX2 j := fun j hj => by
  match j, hj with
  | 0, _ => rfl
  | 1, _ => rfl
  | 2, _ => rfl
  | 3, _ => rfl
  | 4, _ => rfl
  | 5, _ => rfl
  | j + 6, hj => exact absurd hj (by omega)
abbrev zX3 : List Value := [.null, .int 0]
theorem zX3_ok : ∀ j, j < 2 → defaultValue (tyX3 j) = vp_V zX3 j := fun j hj => by
  match j, hj with
  | 0, _ => rfl
  | 1, _ => rfl
  | j + 2, hj => exact absurd hj (by omega)
abbrev zX5 : List Value := [.null, .null]
theorem zX5_ok : ∀ j, j < 2 → defaultValue (tyX5 j) = vp_V zX5 j := fun j hj => by
  match j, hj with
  | 0, _ => rfl
  | 1, _ => rfl
  | j + 2, hj => exact absurd hj (by omega)
abbrev zX6 : List Value := [.null, .null, .null, .int 0, .null, .null, .null, .null, .int 0, .int 0, .int 0, .int 0]
theorem zX6_ok : ∀ j, j < 12 → defaultValue (tyX6 j) = vp_V zX6 j := fun j hj => by
  match j, hj with
  | 0, _ => rfl
  | 1, _ => rfl
  | 2, _ => rfl
  | 3, _ => rfl
  | 4, _ => rfl
  | 5, _ => rfl
  | 6, _ => rfl
  | 7, _ => rfl
  | 8, _ => rfl
  | 9, _ => rfl
  | 10, _ => rfl
  | 11, _ => rfl
  | j + 12, hj => exact absurd hj (by omega)
theorem bI_X0_init : BI yX0_init cX0_init 2 0 := ⟨wcd_X0_init, wim_X0_init, win_RX0, rfl, by decide +kernel⟩
theorem bI_X1_init : BI yX1_init cX1_init 2 0 := ⟨wcd_X1_init, wim_X1_init, win_RX1, rfl, by decide +kernel⟩
theorem bI_X2_init : BI yX2_init cX2_init 2 1 := ⟨wcd_X2_init, wim_X2_init, win_RX2, rfl, by decide +kernel⟩
theorem bI_X3_init : BI yX3_init cX3_init 1 0 := ⟨wcd_X3_init, wim_X3_init, win_RX3, rfl, by decide +kernel⟩
theorem bI_X5_init : BI yX5_init cX5_init 1 0 := ⟨wcd_X5_init, wim_X5_init, win_RX5, rfl, by decide +kernel⟩
theorem bI_X6_init : BI yX6_init cX6_init 1 0 := ⟨wcd_X6_init, wim_X6_init, win_RX6, rfl, by decide +kernel⟩
abbrev CiT : Type := (Nat → Nat) × (Nat → Nat → Int32) × (Nat → Int32)
def b28 (i : Nat) : Nat → Int32 := fun k => if k < i then (if pX4_isGangway (nI k) = 0 then 0 else 5) else 0
theorem b28_s (i : Nat) (v : Int32) (h : (if pX4_isGangway (nI i) = 0 then (0 : Int32) else 5) = v) : upd (b28 i) i v = b28 (i + 1) := by
  funext k
  unfold upd b28
  by_cases e : k = i
  · rw [if_pos e, if_pos (show k < i + 1 by omega), e, h]
  · rw [if_neg e]
    by_cases z : k < i
    · rw [if_pos z, if_pos (show k < i + 1 by omega)]
    · rw [if_neg z, if_neg (show ¬ k < i + 1 by omega)]
theorem b28_0 : va_up (fun _ _ => (0 : Int32)) 0 (b28 0) = fun _ _ => 0 := by
  funext j k
  unfold va_up b28
  by_cases e : j = 0
  · rw [if_pos e, if_neg (Nat.not_lt_zero k)]
  · rw [if_neg e]
theorem fill28L (u : Nat → Nat → Int32) (v : Int32) (k : Nat) : ∀ i, pJ7_fill_53178_28_L5 u v i 0 k = if k < i then v else u 0 k
  | 0 => by rw [pJ7_fill_53178_28_L5_0, if_neg (Nat.not_lt_zero k)]
  | i + 1 => by
    rw [pJ7_fill_53178_28_L5_s, va_up_self]
    unfold upd
    by_cases e : k = i
    · rw [if_pos e, if_pos (show k < i + 1 by omega)]
    · rw [if_neg e, fill28L u v k i]
      by_cases z : k < i
      · rw [if_pos z, if_pos (show k < i + 1 by omega)]
      · rw [if_neg z, if_neg (show ¬ k < i + 1 by omega)]
theorem fill28 (u : Nat → Nat → Int32) (v : Int32) {k : Nat} (hk : k < 28) : pJ7_fill_53178_28 u v 0 k = v := by
  unfold pJ7_fill_53178_28
  rw [fill28L, if_pos hk]
theorem fill4L (u : Nat → Nat → Int32) (v : Int32) (k : Nat) : ∀ i, pJ7_fill_53178_4_L5 u v i 0 k = if k < i then v else u 0 k
  | 0 => by rw [pJ7_fill_53178_4_L5_0, if_neg (Nat.not_lt_zero k)]
  | i + 1 => by
    rw [pJ7_fill_53178_4_L5_s, va_up_self]
    unfold upd
    by_cases e : k = i
    · rw [if_pos e, if_pos (show k < i + 1 by omega)]
    · rw [if_neg e, fill4L u v k i]
      by_cases z : k < i
      · rw [if_pos z, if_pos (show k < i + 1 by omega)]
      · rw [if_neg z, if_neg (show ¬ k < i + 1 by omega)]
theorem fill4 (u : Nat → Nat → Int32) (v : Int32) {k : Nat} (hk : k < 4) : pJ7_fill_53178_4 u v 0 k = v := by
  unfold pJ7_fill_53178_4
  rw [fill4L, if_pos hk]
theorem pl4 : ∀ o, o < 4 → (upd (upd (upd (upd (fun _ => 0) (0 : Int32).toNatClampNeg ((5 : Int32) * (0 : Int32))) (1 : Int32).toNatClampNeg ((5 : Int32) * (1 : Int32))) (2 : Int32).toNatClampNeg ((5 : Int32) * (2 : Int32))) (3 : Int32).toNatClampNeg ((5 : Int32) * (3 : Int32))) o = nI (5 * o) := by decide +kernel
/-- a new city -/
def CN (x : CiT) : Prop := (∀ k, k < 28 → x.2.1 0 k = if pX4_isGangway (nI k) = 0 then 0 else 5) ∧ (∀ k, k < 28 → x.2.1 1 k = -1) ∧ (∀ o, o < 4 → x.2.1 4 o = 3 ∧ x.2.1 5 o = 65535 ∧ x.2.1 6 o = nI (5 * o) ∧ x.2.1 7 o = 0) ∧ (x.2.2 8 = 0 ∧ x.2.2 9 = 0 ∧ x.2.2 10 = 0 ∧ x.2.2 11 = 0 ∧ x.2.2 12 = 2 ∧ x.2.2 13 = 0 ∧ x.2.2 14 = 1 ∧ x.2.2 15 = 0 ∧ x.2.2 16 = 0 ∧ x.2.2 17 = 0 ∧ x.2.2 18 = 0) ∧ (∀ k, x.2.1 2 k = 0 ∧ x.2.1 3 k = 0)
def CNa (a : Nat) (x : CiT) : Prop := x.1 0 = a ∧ CN x
set_option maxHeartbeats 4000000 in
set_option maxRecDepth 100000 in
theorem kX0_init (l : Launch) (D : va_G) (cyC cyI cyO : ClassId) (a : Nat) : MKC l yX0_init (Ty yX0_init cX0_init 2 none) ({ frames := 2, cells := 8, slots := 128, locals := 64 } : Room) D cyC cyI cyO [(a, .inr (0, zX0))] [.ref a] (fun x : CiT => wC cyI x.1 x.2.1 x.2.2) (CNa a) 8 128 := by
  intro sz
  refine Met.ofW (cc := cX0_init) (maxL := 2) (ret := none) (by decide) rfl ?_
  intro p e s m args below meth cd s₁ B hml hv
  obtain ⟨rfl, ⟨hsz, hP, hK, hD0⟩, hO⟩ := hv
  have hx := B.exec
  have hb := B.bytes
  have hr := B.returns
  have hts : ∀ w ∈ TB, w.before ([.ref a] : List Value).toArray s = true := fun w h => atoms_spec (ws := (Ty yX0_init cX0_init 2 none)) B.pre w (List.mem_cons_of_mem _ h)
  have hown : s.vm.findClass RX0 = some m.cls := findClass_of_methodNamed B.named
  have hlocks := B.notSynchronized
  have hin : meth.name = "<init>" := (name_of_methodNamed B.named B.method).1
  subst hsz
  have hD := hD0.self (sz := s.heap.size)
  have hA : ∀ q : Nat, s.heap.size ≤ q → (va_A [(a, .inr (0, zX0))] s.heap.size) q := fun q h => Or.inr h
  generalize hAe : va_A [(a, .inr (0, zX0))] s.heap.size = A0 at hD hA ⊢
  have hS : va_S A0 s.heap s.heap [] := va_S.rf
  have hl := lv_entry ([.ref a]) (n := 2) (Nat.le_of_ble_eq_true rfl)
  rw [lg_entry_eq]
  generalize (lg_sl ([.ref a]) ++ List.replicate (2 - (lg_sl ([.ref a])).length) Slot.unset).toArray = ls at hl ⊢
  have hl : lv_has ls 2 [(0, .ref a)] := hl
  refine lv_aload_n hx hb dX0_init_0 rfl (lv_at hl 0 rfl) ?_
  refine W.objInit hx hb hown (hts _ wml_RX0_3) (hts _ wim_obj) (hts _ wcd_obj) rfl (by rw [hml]; exact hl.1) rfl dX0_init_1 (Nat.le_of_ble_eq_true rfl) (Nat.le_of_ble_eq_true rfl) ?_
  refine W.eq (g2 := F0 m 4 ls []) rfl ?_
  refine lv_aload_n hx hb dX0_init_4 rfl (lv_at hl 0 rfl) ?_
  refine lv_bipush (v := 28) hx hb dX0_init_5 (by decide) ?_
  refine new_int hx hb hts hK hP hD hS hA (N' := 28) (by decide) (by decide) (Nat.le_of_ble_eq_true rfl) (Nat.le_of_ble_eq_true rfl) (Nat.le_of_ble_eq_true rfl) dX0_init_7 (fun q1 H hP hD hS => ?_)
  have hP : va_P D vwCl [(a, .inr (0, [.null, .null, .null, .null, .null, .null, .null, .null, .int 0, .int 0, .int 0, .int 0, .int 0, .int 0, .int 0, .int 0, .int 0, .int 0, .int 0])), (q1, .inl (cyI, 28, .inl (fun _ => 0)))] H := hP
  have hD : va_D A0 [(a, .inr (0, [.null, .null, .null, .null, .null, .null, .null, .null, .int 0, .int 0, .int 0, .int 0, .int 0, .int 0, .int 0, .int 0, .int 0, .int 0, .int 0])), (q1, .inl (cyI, 28, .inl (fun _ => 0)))] := hD
  refine va_putF (D := D) (ci := 0) (v := .ref q1) (ty := .array .int) (C := RX0) (T := TX0) (N := 19) hx hb hts inT_X0 tyX0 tyX0_ok nmX0 hown hK.1 hP hD hS 0 rfl rfl 0 (by decide) (hts _ wfl_RX0_9) (fun _ h9 => h9) rfl hin rfl (by decide +kernel) rfl rfl (Nat.le_of_ble_eq_true rfl) dX0_init_9 (fun H locs hP hD hS => ?_)
  have hP : va_P D vwCl [(a, .inr (0, [.ref q1, .null, .null, .null, .null, .null, .null, .null, .int 0, .int 0, .int 0, .int 0, .int 0, .int 0, .int 0, .int 0, .int 0, .int 0, .int 0])), (q1, .inl (cyI, 28, .inl (fun _ => 0)))] H := hP
  have hD : va_D A0 [(a, .inr (0, [.ref q1, .null, .null, .null, .null, .null, .null, .null, .int 0, .int 0, .int 0, .int 0, .int 0, .int 0, .int 0, .int 0, .int 0, .int 0, .int 0])), (q1, .inl (cyI, 28, .inl (fun _ => 0)))] := hD
  refine lv_aload_n hx hb dX0_init_12 rfl (lv_at hl 0 rfl) ?_
  refine lv_bipush (v := 28) hx hb dX0_init_13 (by decide) ?_
  refine new_int hx hb hts hK hP hD hS hA (N' := 28) (by decide) (by decide) (Nat.le_of_ble_eq_true rfl) (Nat.le_of_ble_eq_true rfl) (Nat.le_of_ble_eq_true rfl) dX0_init_15 (fun q2 H hP hD hS => ?_)
  have hP : va_P D vwCl [(a, .inr (0, [.ref q1, .null, .null, .null, .null, .null, .null, .null, .int 0, .int 0, .int 0, .int 0, .int 0, .int 0, .int 0, .int 0, .int 0, .int 0, .int 0])), (q1, .inl (cyI, 28, .inl (fun _ => 0))), (q2, .inl (cyI, 28, .inl (fun _ => 0)))] H := hP
  have hD : va_D A0 [(a, .inr (0, [.ref q1, .null, .null, .null, .null, .null, .null, .null, .int 0, .int 0, .int 0, .int 0, .int 0, .int 0, .int 0, .int 0, .int 0, .int 0, .int 0])), (q1, .inl (cyI, 28, .inl (fun _ => 0))), (q2, .inl (cyI, 28, .inl (fun _ => 0)))] := hD
  refine va_putF (D := D) (ci := 0) (v := .ref q2) (ty := .array .int) (C := RX0) (T := TX0) (N := 19) hx hb hts inT_X0 tyX0 tyX0_ok nmX0 hown hK.1 hP hD hS 0 rfl rfl 1 (by decide) (hts _ wfl_RX0_15) (fun _ h9 => h9) rfl hin rfl (by decide +kernel) rfl rfl (Nat.le_of_ble_eq_true rfl) dX0_init_17 (fun H locs hP hD hS => ?_)
  have hP : va_P D vwCl [(a, .inr (0, [.ref q1, .ref q2, .null, .null, .null, .null, .null, .null, .int 0, .int 0, .int 0, .int 0, .int 0, .int 0, .int 0, .int 0, .int 0, .int 0, .int 0])), (q1, .inl (cyI, 28, .inl (fun _ => 0))), (q2, .inl (cyI, 28, .inl (fun _ => 0)))] H := hP
  have hD : va_D A0 [(a, .inr (0, [.ref q1, .ref q2, .null, .null, .null, .null, .null, .null, .int 0, .int 0, .int 0, .int 0, .int 0, .int 0, .int 0, .int 0, .int 0, .int 0, .int 0])), (q1, .inl (cyI, 28, .inl (fun _ => 0))), (q2, .inl (cyI, 28, .inl (fun _ => 0)))] := hD
  refine lv_aload_n hx hb dX0_init_20 rfl (lv_at hl 0 rfl) ?_
  refine lv_bipush (v := 28) hx hb dX0_init_21 (by decide) ?_
  refine new_int hx hb hts hK hP hD hS hA (N' := 28) (by decide) (by decide) (Nat.le_of_ble_eq_true rfl) (Nat.le_of_ble_eq_true rfl) (Nat.le_of_ble_eq_true rfl) dX0_init_23 (fun q3 H hP hD hS => ?_)
  have hP : va_P D vwCl [(a, .inr (0, [.ref q1, .ref q2, .null, .null, .null, .null, .null, .null, .int 0, .int 0, .int 0, .int 0, .int 0, .int 0, .int 0, .int 0, .int 0, .int 0, .int 0])), (q1, .inl (cyI, 28, .inl (fun _ => 0))), (q2, .inl (cyI, 28, .inl (fun _ => 0))), (q3, .inl (cyI, 28, .inl (fun _ => 0)))] H := hP
  have hD : va_D A0 [(a, .inr (0, [.ref q1, .ref q2, .null, .null, .null, .null, .null, .null, .int 0, .int 0, .int 0, .int 0, .int 0, .int 0, .int 0, .int 0, .int 0, .int 0, .int 0])), (q1, .inl (cyI, 28, .inl (fun _ => 0))), (q2, .inl (cyI, 28, .inl (fun _ => 0))), (q3, .inl (cyI, 28, .inl (fun _ => 0)))] := hD
  refine va_putF (D := D) (ci := 0) (v := .ref q3) (ty := .array .int) (C := RX0) (T := TX0) (N := 19) hx hb hts inT_X0 tyX0 tyX0_ok nmX0 hown hK.1 hP hD hS 0 rfl rfl 2 (by decide) (hts _ wfl_RX0_18) (fun _ h9 => h9) rfl hin rfl (by decide +kernel) rfl rfl (Nat.le_of_ble_eq_true rfl) dX0_init_25 (fun H locs hP hD hS => ?_)
  have hP : va_P D vwCl [(a, .inr (0, [.ref q1, .ref q2, .ref q3, .null, .null, .null, .null, .null, .int 0, .int 0, .int 0, .int 0, .int 0, .int 0, .int 0, .int 0, .int 0, .int 0, .int 0])), (q1, .inl (cyI, 28, .inl (fun _ => 0))), (q2, .inl (cyI, 28, .inl (fun _ => 0))), (q3, .inl (cyI, 28, .inl (fun _ => 0)))] H := hP
  have hD : va_D A0 [(a, .inr (0, [.ref q1, .ref q2, .ref q3, .null, .null, .null, .null, .null, .int 0, .int 0, .int 0, .int 0, .int 0, .int 0, .int 0, .int 0, .int 0, .int 0, .int 0])), (q1, .inl (cyI, 28, .inl (fun _ => 0))), (q2, .inl (cyI, 28, .inl (fun _ => 0))), (q3, .inl (cyI, 28, .inl (fun _ => 0)))] := hD
  refine lv_aload_n hx hb dX0_init_28 rfl (lv_at hl 0 rfl) ?_
  refine lv_bipush (v := 28) hx hb dX0_init_29 (by decide) ?_
  refine new_int hx hb hts hK hP hD hS hA (N' := 28) (by decide) (by decide) (Nat.le_of_ble_eq_true rfl) (Nat.le_of_ble_eq_true rfl) (Nat.le_of_ble_eq_true rfl) dX0_init_31 (fun q4 H hP hD hS => ?_)
  have hP : va_P D vwCl [(a, .inr (0, [.ref q1, .ref q2, .ref q3, .null, .null, .null, .null, .null, .int 0, .int 0, .int 0, .int 0, .int 0, .int 0, .int 0, .int 0, .int 0, .int 0, .int 0])), (q1, .inl (cyI, 28, .inl (fun _ => 0))), (q2, .inl (cyI, 28, .inl (fun _ => 0))), (q3, .inl (cyI, 28, .inl (fun _ => 0))), (q4, .inl (cyI, 28, .inl (fun _ => 0)))] H := hP
  have hD : va_D A0 [(a, .inr (0, [.ref q1, .ref q2, .ref q3, .null, .null, .null, .null, .null, .int 0, .int 0, .int 0, .int 0, .int 0, .int 0, .int 0, .int 0, .int 0, .int 0, .int 0])), (q1, .inl (cyI, 28, .inl (fun _ => 0))), (q2, .inl (cyI, 28, .inl (fun _ => 0))), (q3, .inl (cyI, 28, .inl (fun _ => 0))), (q4, .inl (cyI, 28, .inl (fun _ => 0)))] := hD
  refine va_putF (D := D) (ci := 0) (v := .ref q4) (ty := .array .int) (C := RX0) (T := TX0) (N := 19) hx hb hts inT_X0 tyX0 tyX0_ok nmX0 hown hK.1 hP hD hS 0 rfl rfl 3 (by decide) (hts _ wfl_RX0_21) (fun _ h9 => h9) rfl hin rfl (by decide +kernel) rfl rfl (Nat.le_of_ble_eq_true rfl) dX0_init_33 (fun H locs hP hD hS => ?_)
  have hP : va_P D vwCl [(a, .inr (0, [.ref q1, .ref q2, .ref q3, .ref q4, .null, .null, .null, .null, .int 0, .int 0, .int 0, .int 0, .int 0, .int 0, .int 0, .int 0, .int 0, .int 0, .int 0])), (q1, .inl (cyI, 28, .inl (fun _ => 0))), (q2, .inl (cyI, 28, .inl (fun _ => 0))), (q3, .inl (cyI, 28, .inl (fun _ => 0))), (q4, .inl (cyI, 28, .inl (fun _ => 0)))] H := hP
  have hD : va_D A0 [(a, .inr (0, [.ref q1, .ref q2, .ref q3, .ref q4, .null, .null, .null, .null, .int 0, .int 0, .int 0, .int 0, .int 0, .int 0, .int 0, .int 0, .int 0, .int 0, .int 0])), (q1, .inl (cyI, 28, .inl (fun _ => 0))), (q2, .inl (cyI, 28, .inl (fun _ => 0))), (q3, .inl (cyI, 28, .inl (fun _ => 0))), (q4, .inl (cyI, 28, .inl (fun _ => 0)))] := hD
  refine lv_aload_n hx hb dX0_init_36 rfl (lv_at hl 0 rfl) ?_
  refine lv_iconst (v := 4) hx hb dX0_init_37 (by decide) ?_
  refine new_int hx hb hts hK hP hD hS hA (N' := 4) (by decide) (by decide) (Nat.le_of_ble_eq_true rfl) (Nat.le_of_ble_eq_true rfl) (Nat.le_of_ble_eq_true rfl) dX0_init_38 (fun q5 H hP hD hS => ?_)
  have hP : va_P D vwCl [(a, .inr (0, [.ref q1, .ref q2, .ref q3, .ref q4, .null, .null, .null, .null, .int 0, .int 0, .int 0, .int 0, .int 0, .int 0, .int 0, .int 0, .int 0, .int 0, .int 0])), (q1, .inl (cyI, 28, .inl (fun _ => 0))), (q2, .inl (cyI, 28, .inl (fun _ => 0))), (q3, .inl (cyI, 28, .inl (fun _ => 0))), (q4, .inl (cyI, 28, .inl (fun _ => 0))), (q5, .inl (cyI, 4, .inl (fun _ => 0)))] H := hP
  have hD : va_D A0 [(a, .inr (0, [.ref q1, .ref q2, .ref q3, .ref q4, .null, .null, .null, .null, .int 0, .int 0, .int 0, .int 0, .int 0, .int 0, .int 0, .int 0, .int 0, .int 0, .int 0])), (q1, .inl (cyI, 28, .inl (fun _ => 0))), (q2, .inl (cyI, 28, .inl (fun _ => 0))), (q3, .inl (cyI, 28, .inl (fun _ => 0))), (q4, .inl (cyI, 28, .inl (fun _ => 0))), (q5, .inl (cyI, 4, .inl (fun _ => 0)))] := hD
  refine va_putF (D := D) (ci := 0) (v := .ref q5) (ty := .array .int) (C := RX0) (T := TX0) (N := 19) hx hb hts inT_X0 tyX0 tyX0_ok nmX0 hown hK.1 hP hD hS 0 rfl rfl 4 (by decide) (hts _ wfl_RX0_24) (fun _ h9 => h9) rfl hin rfl (by decide +kernel) rfl rfl (Nat.le_of_ble_eq_true rfl) dX0_init_40 (fun H locs hP hD hS => ?_)
  have hP : va_P D vwCl [(a, .inr (0, [.ref q1, .ref q2, .ref q3, .ref q4, .ref q5, .null, .null, .null, .int 0, .int 0, .int 0, .int 0, .int 0, .int 0, .int 0, .int 0, .int 0, .int 0, .int 0])), (q1, .inl (cyI, 28, .inl (fun _ => 0))), (q2, .inl (cyI, 28, .inl (fun _ => 0))), (q3, .inl (cyI, 28, .inl (fun _ => 0))), (q4, .inl (cyI, 28, .inl (fun _ => 0))), (q5, .inl (cyI, 4, .inl (fun _ => 0)))] H := hP
  have hD : va_D A0 [(a, .inr (0, [.ref q1, .ref q2, .ref q3, .ref q4, .ref q5, .null, .null, .null, .int 0, .int 0, .int 0, .int 0, .int 0, .int 0, .int 0, .int 0, .int 0, .int 0, .int 0])), (q1, .inl (cyI, 28, .inl (fun _ => 0))), (q2, .inl (cyI, 28, .inl (fun _ => 0))), (q3, .inl (cyI, 28, .inl (fun _ => 0))), (q4, .inl (cyI, 28, .inl (fun _ => 0))), (q5, .inl (cyI, 4, .inl (fun _ => 0)))] := hD
  refine lv_aload_n hx hb dX0_init_43 rfl (lv_at hl 0 rfl) ?_
  refine lv_iconst (v := 4) hx hb dX0_init_44 (by decide) ?_
  refine new_int hx hb hts hK hP hD hS hA (N' := 4) (by decide) (by decide) (Nat.le_of_ble_eq_true rfl) (Nat.le_of_ble_eq_true rfl) (Nat.le_of_ble_eq_true rfl) dX0_init_45 (fun q6 H hP hD hS => ?_)
  have hP : va_P D vwCl [(a, .inr (0, [.ref q1, .ref q2, .ref q3, .ref q4, .ref q5, .null, .null, .null, .int 0, .int 0, .int 0, .int 0, .int 0, .int 0, .int 0, .int 0, .int 0, .int 0, .int 0])), (q1, .inl (cyI, 28, .inl (fun _ => 0))), (q2, .inl (cyI, 28, .inl (fun _ => 0))), (q3, .inl (cyI, 28, .inl (fun _ => 0))), (q4, .inl (cyI, 28, .inl (fun _ => 0))), (q5, .inl (cyI, 4, .inl (fun _ => 0))), (q6, .inl (cyI, 4, .inl (fun _ => 0)))] H := hP
  have hD : va_D A0 [(a, .inr (0, [.ref q1, .ref q2, .ref q3, .ref q4, .ref q5, .null, .null, .null, .int 0, .int 0, .int 0, .int 0, .int 0, .int 0, .int 0, .int 0, .int 0, .int 0, .int 0])), (q1, .inl (cyI, 28, .inl (fun _ => 0))), (q2, .inl (cyI, 28, .inl (fun _ => 0))), (q3, .inl (cyI, 28, .inl (fun _ => 0))), (q4, .inl (cyI, 28, .inl (fun _ => 0))), (q5, .inl (cyI, 4, .inl (fun _ => 0))), (q6, .inl (cyI, 4, .inl (fun _ => 0)))] := hD
  refine va_putF (D := D) (ci := 0) (v := .ref q6) (ty := .array .int) (C := RX0) (T := TX0) (N := 19) hx hb hts inT_X0 tyX0 tyX0_ok nmX0 hown hK.1 hP hD hS 0 rfl rfl 5 (by decide) (hts _ wfl_RX0_27) (fun _ h9 => h9) rfl hin rfl (by decide +kernel) rfl rfl (Nat.le_of_ble_eq_true rfl) dX0_init_47 (fun H locs hP hD hS => ?_)
  have hP : va_P D vwCl [(a, .inr (0, [.ref q1, .ref q2, .ref q3, .ref q4, .ref q5, .ref q6, .null, .null, .int 0, .int 0, .int 0, .int 0, .int 0, .int 0, .int 0, .int 0, .int 0, .int 0, .int 0])), (q1, .inl (cyI, 28, .inl (fun _ => 0))), (q2, .inl (cyI, 28, .inl (fun _ => 0))), (q3, .inl (cyI, 28, .inl (fun _ => 0))), (q4, .inl (cyI, 28, .inl (fun _ => 0))), (q5, .inl (cyI, 4, .inl (fun _ => 0))), (q6, .inl (cyI, 4, .inl (fun _ => 0)))] H := hP
  have hD : va_D A0 [(a, .inr (0, [.ref q1, .ref q2, .ref q3, .ref q4, .ref q5, .ref q6, .null, .null, .int 0, .int 0, .int 0, .int 0, .int 0, .int 0, .int 0, .int 0, .int 0, .int 0, .int 0])), (q1, .inl (cyI, 28, .inl (fun _ => 0))), (q2, .inl (cyI, 28, .inl (fun _ => 0))), (q3, .inl (cyI, 28, .inl (fun _ => 0))), (q4, .inl (cyI, 28, .inl (fun _ => 0))), (q5, .inl (cyI, 4, .inl (fun _ => 0))), (q6, .inl (cyI, 4, .inl (fun _ => 0)))] := hD
  refine lv_aload_n hx hb dX0_init_50 rfl (lv_at hl 0 rfl) ?_
  refine lv_iconst (v := 4) hx hb dX0_init_51 (by decide) ?_
  refine new_int hx hb hts hK hP hD hS hA (N' := 4) (by decide) (by decide) (Nat.le_of_ble_eq_true rfl) (Nat.le_of_ble_eq_true rfl) (Nat.le_of_ble_eq_true rfl) dX0_init_52 (fun q7 H hP hD hS => ?_)
  have hP : va_P D vwCl [(a, .inr (0, [.ref q1, .ref q2, .ref q3, .ref q4, .ref q5, .ref q6, .null, .null, .int 0, .int 0, .int 0, .int 0, .int 0, .int 0, .int 0, .int 0, .int 0, .int 0, .int 0])), (q1, .inl (cyI, 28, .inl (fun _ => 0))), (q2, .inl (cyI, 28, .inl (fun _ => 0))), (q3, .inl (cyI, 28, .inl (fun _ => 0))), (q4, .inl (cyI, 28, .inl (fun _ => 0))), (q5, .inl (cyI, 4, .inl (fun _ => 0))), (q6, .inl (cyI, 4, .inl (fun _ => 0))), (q7, .inl (cyI, 4, .inl (fun _ => 0)))] H := hP
  have hD : va_D A0 [(a, .inr (0, [.ref q1, .ref q2, .ref q3, .ref q4, .ref q5, .ref q6, .null, .null, .int 0, .int 0, .int 0, .int 0, .int 0, .int 0, .int 0, .int 0, .int 0, .int 0, .int 0])), (q1, .inl (cyI, 28, .inl (fun _ => 0))), (q2, .inl (cyI, 28, .inl (fun _ => 0))), (q3, .inl (cyI, 28, .inl (fun _ => 0))), (q4, .inl (cyI, 28, .inl (fun _ => 0))), (q5, .inl (cyI, 4, .inl (fun _ => 0))), (q6, .inl (cyI, 4, .inl (fun _ => 0))), (q7, .inl (cyI, 4, .inl (fun _ => 0)))] := hD
  refine va_putF (D := D) (ci := 0) (v := .ref q7) (ty := .array .int) (C := RX0) (T := TX0) (N := 19) hx hb hts inT_X0 tyX0 tyX0_ok nmX0 hown hK.1 hP hD hS 0 rfl rfl 6 (by decide) (hts _ wfl_RX0_30) (fun _ h9 => h9) rfl hin rfl (by decide +kernel) rfl rfl (Nat.le_of_ble_eq_true rfl) dX0_init_54 (fun H locs hP hD hS => ?_)
  have hP : va_P D vwCl [(a, .inr (0, [.ref q1, .ref q2, .ref q3, .ref q4, .ref q5, .ref q6, .ref q7, .null, .int 0, .int 0, .int 0, .int 0, .int 0, .int 0, .int 0, .int 0, .int 0, .int 0, .int 0])), (q1, .inl (cyI, 28, .inl (fun _ => 0))), (q2, .inl (cyI, 28, .inl (fun _ => 0))), (q3, .inl (cyI, 28, .inl (fun _ => 0))), (q4, .inl (cyI, 28, .inl (fun _ => 0))), (q5, .inl (cyI, 4, .inl (fun _ => 0))), (q6, .inl (cyI, 4, .inl (fun _ => 0))), (q7, .inl (cyI, 4, .inl (fun _ => 0)))] H := hP
  have hD : va_D A0 [(a, .inr (0, [.ref q1, .ref q2, .ref q3, .ref q4, .ref q5, .ref q6, .ref q7, .null, .int 0, .int 0, .int 0, .int 0, .int 0, .int 0, .int 0, .int 0, .int 0, .int 0, .int 0])), (q1, .inl (cyI, 28, .inl (fun _ => 0))), (q2, .inl (cyI, 28, .inl (fun _ => 0))), (q3, .inl (cyI, 28, .inl (fun _ => 0))), (q4, .inl (cyI, 28, .inl (fun _ => 0))), (q5, .inl (cyI, 4, .inl (fun _ => 0))), (q6, .inl (cyI, 4, .inl (fun _ => 0))), (q7, .inl (cyI, 4, .inl (fun _ => 0)))] := hD
  refine lv_aload_n hx hb dX0_init_57 rfl (lv_at hl 0 rfl) ?_
  refine lv_iconst (v := 4) hx hb dX0_init_58 (by decide) ?_
  refine new_int hx hb hts hK hP hD hS hA (N' := 4) (by decide) (by decide) (Nat.le_of_ble_eq_true rfl) (Nat.le_of_ble_eq_true rfl) (Nat.le_of_ble_eq_true rfl) dX0_init_59 (fun q8 H hP hD hS => ?_)
  have hP : va_P D vwCl [(a, .inr (0, [.ref q1, .ref q2, .ref q3, .ref q4, .ref q5, .ref q6, .ref q7, .null, .int 0, .int 0, .int 0, .int 0, .int 0, .int 0, .int 0, .int 0, .int 0, .int 0, .int 0])), (q1, .inl (cyI, 28, .inl (fun _ => 0))), (q2, .inl (cyI, 28, .inl (fun _ => 0))), (q3, .inl (cyI, 28, .inl (fun _ => 0))), (q4, .inl (cyI, 28, .inl (fun _ => 0))), (q5, .inl (cyI, 4, .inl (fun _ => 0))), (q6, .inl (cyI, 4, .inl (fun _ => 0))), (q7, .inl (cyI, 4, .inl (fun _ => 0))), (q8, .inl (cyI, 4, .inl (fun _ => 0)))] H := hP
  have hD : va_D A0 [(a, .inr (0, [.ref q1, .ref q2, .ref q3, .ref q4, .ref q5, .ref q6, .ref q7, .null, .int 0, .int 0, .int 0, .int 0, .int 0, .int 0, .int 0, .int 0, .int 0, .int 0, .int 0])), (q1, .inl (cyI, 28, .inl (fun _ => 0))), (q2, .inl (cyI, 28, .inl (fun _ => 0))), (q3, .inl (cyI, 28, .inl (fun _ => 0))), (q4, .inl (cyI, 28, .inl (fun _ => 0))), (q5, .inl (cyI, 4, .inl (fun _ => 0))), (q6, .inl (cyI, 4, .inl (fun _ => 0))), (q7, .inl (cyI, 4, .inl (fun _ => 0))), (q8, .inl (cyI, 4, .inl (fun _ => 0)))] := hD
  refine va_putF (D := D) (ci := 0) (v := .ref q8) (ty := .array .int) (C := RX0) (T := TX0) (N := 19) hx hb hts inT_X0 tyX0 tyX0_ok nmX0 hown hK.1 hP hD hS 0 rfl rfl 7 (by decide) (hts _ wfl_RX0_33) (fun _ h9 => h9) rfl hin rfl (by decide +kernel) rfl rfl (Nat.le_of_ble_eq_true rfl) dX0_init_61 (fun H locs hP hD hS => ?_)
  have hP : va_P D vwCl [(a, .inr (0, [.ref q1, .ref q2, .ref q3, .ref q4, .ref q5, .ref q6, .ref q7, .ref q8, .int 0, .int 0, .int 0, .int 0, .int 0, .int 0, .int 0, .int 0, .int 0, .int 0, .int 0])), (q1, .inl (cyI, 28, .inl (fun _ => 0))), (q2, .inl (cyI, 28, .inl (fun _ => 0))), (q3, .inl (cyI, 28, .inl (fun _ => 0))), (q4, .inl (cyI, 28, .inl (fun _ => 0))), (q5, .inl (cyI, 4, .inl (fun _ => 0))), (q6, .inl (cyI, 4, .inl (fun _ => 0))), (q7, .inl (cyI, 4, .inl (fun _ => 0))), (q8, .inl (cyI, 4, .inl (fun _ => 0)))] H := hP
  have hD : va_D A0 [(a, .inr (0, [.ref q1, .ref q2, .ref q3, .ref q4, .ref q5, .ref q6, .ref q7, .ref q8, .int 0, .int 0, .int 0, .int 0, .int 0, .int 0, .int 0, .int 0, .int 0, .int 0, .int 0])), (q1, .inl (cyI, 28, .inl (fun _ => 0))), (q2, .inl (cyI, 28, .inl (fun _ => 0))), (q3, .inl (cyI, 28, .inl (fun _ => 0))), (q4, .inl (cyI, 28, .inl (fun _ => 0))), (q5, .inl (cyI, 4, .inl (fun _ => 0))), (q6, .inl (cyI, 4, .inl (fun _ => 0))), (q7, .inl (cyI, 4, .inl (fun _ => 0))), (q8, .inl (cyI, 4, .inl (fun _ => 0)))] := hD
  obtain ⟨A, hAA⟩ : ∃ A : Nat → Nat, A = fun k => [a, q1, q2, q3, q4, q5, q6, q7, q8].getD k 0 := ⟨_, rfl⟩
  have e0 : A 0 = a := by rw [hAA]; rfl
  have hP : va_P D vwCl (wC cyI A (fun _ _ => 0) (fun _ => 0)) H := by rw [hAA]; exact hP
  have hD : va_D A0 (wC cyI A (fun _ _ => 0) (fun _ => 0)) := by rw [hAA]; exact hD
  have hl : lv_has ls 2 [(0, .ref (A 0))] := by rw [e0]; exact hl
  refine lv_aload_n hx hb dX0_init_64 rfl (lv_at hl 0 rfl) ?_
  refine lv_iconst (v := 0) hx hb dX0_init_65 (by decide) ?_
  refine va_put (D := D) (ci := 0) (v := .int 0) (ty := .int) (C := RX0) (T := TX0) (N := 19) hx hb hts inT_X0 tyX0 tyX0_ok nmX0 hown hK.1 hP hD hS 0 rfl rfl 11 (by decide) (hts _ wfl_RX0_36) (fun _ h9 => h9) rfl (by decide +kernel) (by rfl) rfl (Nat.le_of_ble_eq_true rfl) dX0_init_66 (fun H locs hP hD hS => ?_)
  have hP : va_P D vwCl (wC cyI A (fun _ _ => 0) (va_up (fun _ => 0) 11 0)) H := hP
  have hD : va_D A0 (wC cyI A (fun _ _ => 0) (va_up (fun _ => 0) 11 0)) := hD
  refine lv_aload_n hx hb dX0_init_69 rfl (lv_at hl 0 rfl) ?_
  refine lv_iconst (v := 2) hx hb dX0_init_70 (by decide) ?_
  refine va_put (D := D) (ci := 0) (v := .int 2) (ty := .int) (C := RX0) (T := TX0) (N := 19) hx hb hts inT_X0 tyX0 tyX0_ok nmX0 hown hK.1 hP hD hS 0 rfl rfl 12 (by decide) (hts _ wfl_RX0_40) (fun _ h9 => h9) rfl (by decide +kernel) (by rfl) rfl (Nat.le_of_ble_eq_true rfl) dX0_init_71 (fun H locs hP hD hS => ?_)
  have hP : va_P D vwCl (wC cyI A (fun _ _ => 0) (va_up (va_up (fun _ => 0) 11 0) 12 2)) H := hP
  have hD : va_D A0 (wC cyI A (fun _ _ => 0) (va_up (va_up (fun _ => 0) 11 0) 12 2)) := hD
  refine lv_aload_n hx hb dX0_init_74 rfl (lv_at hl 0 rfl) ?_
  refine lv_iconst (v := 1) hx hb dX0_init_75 (by decide) ?_
  refine va_put (D := D) (ci := 0) (v := .int 1) (ty := .int) (C := RX0) (T := TX0) (N := 19) hx hb hts inT_X0 tyX0 tyX0_ok nmX0 hown hK.1 hP hD hS 0 rfl rfl 14 (by decide) (hts _ wfl_RX0_43) (fun _ h9 => h9) rfl (by decide +kernel) (by rfl) rfl (Nat.le_of_ble_eq_true rfl) dX0_init_76 (fun H locs hP hD hS => ?_)
  have hP : va_P D vwCl (wC cyI A (fun _ _ => 0) (va_up (va_up (va_up (fun _ => 0) 11 0) 12 2) 14 1)) H := hP
  have hD : va_D A0 (wC cyI A (fun _ _ => 0) (va_up (va_up (va_up (fun _ => 0) 11 0) 12 2) 14 1)) := hD
  obtain ⟨w, hw⟩ : ∃ w : Nat → Int32, w = (va_up (va_up (va_up (fun _ => 0) 11 0) 12 2) 14 1) := ⟨_, rfl⟩
  rw [← hw] at hP hD
  refine W.widen (k := 8) (n := 128) (by omega) (by omega) ?_
  refine lv_iconst (v := 0) hx hb dX0_init_79 (by decide) ?_
  refine lv_istore_n (lv' := [(1, .int 0), (0, .ref (A 0))]) hx hb dX0_init_80 rfl hl (by decide) rfl (fun ls hl => ?_)
  have key_81 : ∀ k i : Nat, i + k = 28 → ∀ (H : Heap) (locs : List Loc), va_P D vwCl (wC cyI A (va_up (fun _ _ => 0) 0 (b28 i)) w) H → va_D A0 (wC cyI A (va_up (fun _ _ => 0) 0 (b28 i)) w) → va_S A0 s.heap H locs → ∀ (ls : Array Slot), lv_has ls 2 [(0, .ref (A 0)), (1, .int (nI i))] → W p l e (headSpec (Ty yX0_init cX0_init 2 none) ({ frames := 2, cells := 8, slots := 128, locals := 64 } : Room)).room s m ([.ref a] : List Value).toArray below meth cd H locs 8 128 (MQ below (MKX D (fun x : CiT => wC cyI x.1 x.2.1 x.2.2) (CNa a) A0) ([.ref a] : List Value).toArray s 8 128 A0) (F0 m 81 ls []) := by
    intro k
    induction k with
    | zero =>
      intro i hi H locs hP hD hS ls hl
      obtain rfl : i = 28 := hi
      obtain ⟨bb, hbb⟩ : ∃ q, q = b28 28 := ⟨_, rfl⟩
      rw [← hbb] at hP hD
      refine lv_iload_n hx hb dX0_init_81 rfl (lv_at hl 1 rfl) ?_
      refine lv_bipush (v := 28) hx hb dX0_init_82 (by decide) ?_
      refine lv_icmp_ge (tgt := 111) hx hb dX0_init_84 (by decide) (fun c_2 => ?_) (fun c_2 => absurd (le_of (C := 28) (N := 28) (by decide)) c_2)
      refine lv_aload_n hx hb dX0_init_111 rfl (lv_at hl 0 rfl) ?_
      refine va_get (D := D) (ci := 0) (v := .ref (A 2)) (C := RX0) (T := TX0) (N := 19) hx hb hts inT_X0 hown hK.1 hP 0 rfl rfl 1 (by decide) (hts _ wfl_RX0_15) (fun _ h9 => h9) rfl dX0_init_112 ?_
      refine lv_iconst (v := (-1)) hx hb dX0_init_115 (by decide) ?_
      obtain ⟨z1, hz1⟩ : ∃ q, q = pJ7_fill_53178_28 (fun _ => ((va_up (fun _ _ => 0) 0 bb) 1)) (-1) := ⟨_, rfl⟩
      refine mS (ws := wC cyI A (va_up (fun _ _ => 0) 0 bb) w) (ws' := wC cyI A (va_up (va_up (fun _ _ => 0) 0 bb) 1 (z1 0)) w) (As := [.ref (A 2), .int (-1)]) (rest := []) hx hb hml hown hts hl.1 (WS := wQ cyI 28 (fun _ => A 2) (fun _ => ((va_up (fun _ _ => 0) 0 bb) 1))) (WS' := wQ cyI 28 (fun _ => A 2) z1) (ro := none) (by rw [hz1]; exact kJ7_fill_53178_28 l D cyC cyI cyO (fun _ => A 2) (fun _ => ((va_up (fun _ _ => 0) 0 bb) 1)) (-1)) bS_J7_fill_53178 wml_RX0_52 ⟨rfl, rfl⟩ ⟨Nat.le_of_ble_eq_true rfl, Nat.le_of_ble_eq_true rfl, Nat.le_of_ble_eq_true rfl, Nat.le_of_ble_eq_true rfl⟩ [2] rfl rfl rfl rfl rfl hP hD hS hA hK rfl rfl (Nat.le_of_ble_eq_true rfl) dX0_init_116 (fun H locs hP hD hS => ?_)
      refine lv_aload_n hx hb dX0_init_119 rfl (lv_at hl 0 rfl) ?_
      refine va_get (D := D) (ci := 0) (v := .ref (A 5)) (C := RX0) (T := TX0) (N := 19) hx hb hts inT_X0 hown hK.1 hP 0 rfl rfl 4 (by decide) (hts _ wfl_RX0_24) (fun _ h9 => h9) rfl dX0_init_120 ?_
      refine lv_iconst (v := 3) hx hb dX0_init_123 (by decide) ?_
      obtain ⟨z2, hz2⟩ : ∃ q, q = pJ7_fill_53178_4 (fun _ => ((va_up (va_up (fun _ _ => 0) 0 bb) 1 (z1 0)) 4)) 3 := ⟨_, rfl⟩
      refine mS (ws := wC cyI A (va_up (va_up (fun _ _ => 0) 0 bb) 1 (z1 0)) w) (ws' := wC cyI A (va_up (va_up (va_up (fun _ _ => 0) 0 bb) 1 (z1 0)) 4 (z2 0)) w) (As := [.ref (A 5), .int 3]) (rest := []) hx hb hml hown hts hl.1 (WS := wQ cyI 4 (fun _ => A 5) (fun _ => ((va_up (va_up (fun _ _ => 0) 0 bb) 1 (z1 0)) 4))) (WS' := wQ cyI 4 (fun _ => A 5) z2) (ro := none) (by rw [hz2]; exact kJ7_fill_53178_4 l D cyC cyI cyO (fun _ => A 5) (fun _ => ((va_up (va_up (fun _ _ => 0) 0 bb) 1 (z1 0)) 4)) 3) bS_J7_fill_53178 wml_RX0_52 ⟨rfl, rfl⟩ ⟨Nat.le_of_ble_eq_true rfl, Nat.le_of_ble_eq_true rfl, Nat.le_of_ble_eq_true rfl, Nat.le_of_ble_eq_true rfl⟩ [5] rfl rfl rfl rfl rfl hP hD hS hA hK rfl rfl (Nat.le_of_ble_eq_true rfl) dX0_init_124 (fun H locs hP hD hS => ?_)
      refine lv_aload_n hx hb dX0_init_127 rfl (lv_at hl 0 rfl) ?_
      refine va_get (D := D) (ci := 0) (v := .ref (A 6)) (C := RX0) (T := TX0) (N := 19) hx hb hts inT_X0 hown hK.1 hP 0 rfl rfl 5 (by decide) (hts _ wfl_RX0_27) (fun _ h9 => h9) rfl dX0_init_128 ?_
      refine lv_ldc (v := 65535) hx hb hown (hts _ wco_RX0_58) dX0_init_131 ?_
      obtain ⟨z3, hz3⟩ : ∃ q, q = pJ7_fill_53178_4 (fun _ => ((va_up (va_up (va_up (fun _ _ => 0) 0 bb) 1 (z1 0)) 4 (z2 0)) 5)) 65535 := ⟨_, rfl⟩
      refine mS (ws := wC cyI A (va_up (va_up (va_up (fun _ _ => 0) 0 bb) 1 (z1 0)) 4 (z2 0)) w) (ws' := wC cyI A (va_up (va_up (va_up (va_up (fun _ _ => 0) 0 bb) 1 (z1 0)) 4 (z2 0)) 5 (z3 0)) w) (As := [.ref (A 6), .int 65535]) (rest := []) hx hb hml hown hts hl.1 (WS := wQ cyI 4 (fun _ => A 6) (fun _ => ((va_up (va_up (va_up (fun _ _ => 0) 0 bb) 1 (z1 0)) 4 (z2 0)) 5))) (WS' := wQ cyI 4 (fun _ => A 6) z3) (ro := none) (by rw [hz3]; exact kJ7_fill_53178_4 l D cyC cyI cyO (fun _ => A 6) (fun _ => ((va_up (va_up (va_up (fun _ _ => 0) 0 bb) 1 (z1 0)) 4 (z2 0)) 5)) 65535) bS_J7_fill_53178 wml_RX0_52 ⟨rfl, rfl⟩ ⟨Nat.le_of_ble_eq_true rfl, Nat.le_of_ble_eq_true rfl, Nat.le_of_ble_eq_true rfl, Nat.le_of_ble_eq_true rfl⟩ [6] rfl rfl rfl rfl rfl hP hD hS hA hK rfl rfl (Nat.le_of_ble_eq_true rfl) dX0_init_133 (fun H locs hP hD hS => ?_)
      refine lv_iconst (v := 0) hx hb dX0_init_136 (by decide) ?_
      refine lv_istore_n (lv' := [(1, .int 0), (0, .ref (A 0))]) hx hb dX0_init_137 rfl hl (by decide) rfl (fun ls hl => ?_)
      refine lv_iload_n hx hb dX0_init_138 rfl (lv_at hl 0 rfl) ?_
      refine lv_iconst (v := 4) hx hb dX0_init_139 (by decide) ?_
      refine lv_icmp_ge (tgt := 158) hx hb dX0_init_140 (by decide) (fun c_3 => absurd c_3 (by decide)) (fun c_3 => ?_)
      refine lv_aload_n hx hb dX0_init_143 rfl (lv_at hl 1 rfl) ?_
      refine va_get (D := D) (ci := 0) (v := .ref (A 7)) (C := RX0) (T := TX0) (N := 19) hx hb hts inT_X0 hown hK.1 hP 0 rfl rfl 6 (by decide) (hts _ wfl_RX0_30) (fun _ h9 => h9) rfl dX0_init_144 ?_
      refine lv_iload_n hx hb dX0_init_147 rfl (lv_at hl 0 rfl) ?_
      refine lv_iconst (v := 5) hx hb dX0_init_148 (by decide) ?_
      refine lv_iload_n hx hb dX0_init_149 rfl (lv_at hl 0 rfl) ?_
      refine lv_imul hx hb dX0_init_150 ?_
      refine va_iast (D := D) (f := (fun _ => 0)) hx hb hK.1 hP hD hS 7 1 rfl rfl (vp_lit (by decide)) dX0_init_151 (fun H locs hP hD hS => ?_)
      have hP : va_P D vwCl (wC cyI A (va_up (va_up (va_up (va_up (va_up (fun _ _ => 0) 0 bb) 1 (z1 0)) 4 (z2 0)) 5 (z3 0)) 6 (upd (fun _ => 0) (0 : Int32).toNatClampNeg ((5 : Int32) * (0 : Int32)))) w) H := hP
      have hD : va_D A0 (wC cyI A (va_up (va_up (va_up (va_up (va_up (fun _ _ => 0) 0 bb) 1 (z1 0)) 4 (z2 0)) 5 (z3 0)) 6 (upd (fun _ => 0) (0 : Int32).toNatClampNeg ((5 : Int32) * (0 : Int32)))) w) := hD
      refine lv_iinc (v := 1) (lv' := [(1, .int 1), (0, .ref (A 0))]) hx hb dX0_init_152 hl (k := 0) rfl (by decide) (by decide) rfl (fun ls hl => ?_)
      refine lv_goto (tgt := 138) hx hb dX0_init_155 (by decide) ?_
      refine lv_iload_n hx hb dX0_init_138 rfl (lv_at hl 0 rfl) ?_
      refine lv_iconst (v := 4) hx hb dX0_init_139 (by decide) ?_
      refine lv_icmp_ge (tgt := 158) hx hb dX0_init_140 (by decide) (fun c_3 => absurd c_3 (by decide)) (fun c_3 => ?_)
      refine lv_aload_n hx hb dX0_init_143 rfl (lv_at hl 1 rfl) ?_
      refine va_get (D := D) (ci := 0) (v := .ref (A 7)) (C := RX0) (T := TX0) (N := 19) hx hb hts inT_X0 hown hK.1 hP 0 rfl rfl 6 (by decide) (hts _ wfl_RX0_30) (fun _ h9 => h9) rfl dX0_init_144 ?_
      refine lv_iload_n hx hb dX0_init_147 rfl (lv_at hl 0 rfl) ?_
      refine lv_iconst (v := 5) hx hb dX0_init_148 (by decide) ?_
      refine lv_iload_n hx hb dX0_init_149 rfl (lv_at hl 0 rfl) ?_
      refine lv_imul hx hb dX0_init_150 ?_
      refine va_iast (D := D) (f := (upd (fun _ => 0) (0 : Int32).toNatClampNeg ((5 : Int32) * (0 : Int32)))) hx hb hK.1 hP hD hS 7 1 rfl rfl (vp_lit (by decide)) dX0_init_151 (fun H locs hP hD hS => ?_)
      have hP : va_P D vwCl (wC cyI A (va_up (va_up (va_up (va_up (va_up (fun _ _ => 0) 0 bb) 1 (z1 0)) 4 (z2 0)) 5 (z3 0)) 6 (upd (upd (fun _ => 0) (0 : Int32).toNatClampNeg ((5 : Int32) * (0 : Int32))) (1 : Int32).toNatClampNeg ((5 : Int32) * (1 : Int32)))) w) H := hP
      have hD : va_D A0 (wC cyI A (va_up (va_up (va_up (va_up (va_up (fun _ _ => 0) 0 bb) 1 (z1 0)) 4 (z2 0)) 5 (z3 0)) 6 (upd (upd (fun _ => 0) (0 : Int32).toNatClampNeg ((5 : Int32) * (0 : Int32))) (1 : Int32).toNatClampNeg ((5 : Int32) * (1 : Int32)))) w) := hD
      refine lv_iinc (v := 2) (lv' := [(1, .int 2), (0, .ref (A 0))]) hx hb dX0_init_152 hl (k := 0) rfl (by decide) (by decide) rfl (fun ls hl => ?_)
      refine lv_goto (tgt := 138) hx hb dX0_init_155 (by decide) ?_
      refine lv_iload_n hx hb dX0_init_138 rfl (lv_at hl 0 rfl) ?_
      refine lv_iconst (v := 4) hx hb dX0_init_139 (by decide) ?_
      refine lv_icmp_ge (tgt := 158) hx hb dX0_init_140 (by decide) (fun c_3 => absurd c_3 (by decide)) (fun c_3 => ?_)
      refine lv_aload_n hx hb dX0_init_143 rfl (lv_at hl 1 rfl) ?_
      refine va_get (D := D) (ci := 0) (v := .ref (A 7)) (C := RX0) (T := TX0) (N := 19) hx hb hts inT_X0 hown hK.1 hP 0 rfl rfl 6 (by decide) (hts _ wfl_RX0_30) (fun _ h9 => h9) rfl dX0_init_144 ?_
      refine lv_iload_n hx hb dX0_init_147 rfl (lv_at hl 0 rfl) ?_
      refine lv_iconst (v := 5) hx hb dX0_init_148 (by decide) ?_
      refine lv_iload_n hx hb dX0_init_149 rfl (lv_at hl 0 rfl) ?_
      refine lv_imul hx hb dX0_init_150 ?_
      refine va_iast (D := D) (f := (upd (upd (fun _ => 0) (0 : Int32).toNatClampNeg ((5 : Int32) * (0 : Int32))) (1 : Int32).toNatClampNeg ((5 : Int32) * (1 : Int32)))) hx hb hK.1 hP hD hS 7 1 rfl rfl (vp_lit (by decide)) dX0_init_151 (fun H locs hP hD hS => ?_)
      have hP : va_P D vwCl (wC cyI A (va_up (va_up (va_up (va_up (va_up (fun _ _ => 0) 0 bb) 1 (z1 0)) 4 (z2 0)) 5 (z3 0)) 6 (upd (upd (upd (fun _ => 0) (0 : Int32).toNatClampNeg ((5 : Int32) * (0 : Int32))) (1 : Int32).toNatClampNeg ((5 : Int32) * (1 : Int32))) (2 : Int32).toNatClampNeg ((5 : Int32) * (2 : Int32)))) w) H := hP
      have hD : va_D A0 (wC cyI A (va_up (va_up (va_up (va_up (va_up (fun _ _ => 0) 0 bb) 1 (z1 0)) 4 (z2 0)) 5 (z3 0)) 6 (upd (upd (upd (fun _ => 0) (0 : Int32).toNatClampNeg ((5 : Int32) * (0 : Int32))) (1 : Int32).toNatClampNeg ((5 : Int32) * (1 : Int32))) (2 : Int32).toNatClampNeg ((5 : Int32) * (2 : Int32)))) w) := hD
      refine lv_iinc (v := 3) (lv' := [(1, .int 3), (0, .ref (A 0))]) hx hb dX0_init_152 hl (k := 0) rfl (by decide) (by decide) rfl (fun ls hl => ?_)
      refine lv_goto (tgt := 138) hx hb dX0_init_155 (by decide) ?_
      refine lv_iload_n hx hb dX0_init_138 rfl (lv_at hl 0 rfl) ?_
      refine lv_iconst (v := 4) hx hb dX0_init_139 (by decide) ?_
      refine lv_icmp_ge (tgt := 158) hx hb dX0_init_140 (by decide) (fun c_3 => absurd c_3 (by decide)) (fun c_3 => ?_)
      refine lv_aload_n hx hb dX0_init_143 rfl (lv_at hl 1 rfl) ?_
      refine va_get (D := D) (ci := 0) (v := .ref (A 7)) (C := RX0) (T := TX0) (N := 19) hx hb hts inT_X0 hown hK.1 hP 0 rfl rfl 6 (by decide) (hts _ wfl_RX0_30) (fun _ h9 => h9) rfl dX0_init_144 ?_
      refine lv_iload_n hx hb dX0_init_147 rfl (lv_at hl 0 rfl) ?_
      refine lv_iconst (v := 5) hx hb dX0_init_148 (by decide) ?_
      refine lv_iload_n hx hb dX0_init_149 rfl (lv_at hl 0 rfl) ?_
      refine lv_imul hx hb dX0_init_150 ?_
      refine va_iast (D := D) (f := (upd (upd (upd (fun _ => 0) (0 : Int32).toNatClampNeg ((5 : Int32) * (0 : Int32))) (1 : Int32).toNatClampNeg ((5 : Int32) * (1 : Int32))) (2 : Int32).toNatClampNeg ((5 : Int32) * (2 : Int32)))) hx hb hK.1 hP hD hS 7 1 rfl rfl (vp_lit (by decide)) dX0_init_151 (fun H locs hP hD hS => ?_)
      have hP : va_P D vwCl (wC cyI A (va_up (va_up (va_up (va_up (va_up (fun _ _ => 0) 0 bb) 1 (z1 0)) 4 (z2 0)) 5 (z3 0)) 6 (upd (upd (upd (upd (fun _ => 0) (0 : Int32).toNatClampNeg ((5 : Int32) * (0 : Int32))) (1 : Int32).toNatClampNeg ((5 : Int32) * (1 : Int32))) (2 : Int32).toNatClampNeg ((5 : Int32) * (2 : Int32))) (3 : Int32).toNatClampNeg ((5 : Int32) * (3 : Int32)))) w) H := hP
      have hD : va_D A0 (wC cyI A (va_up (va_up (va_up (va_up (va_up (fun _ _ => 0) 0 bb) 1 (z1 0)) 4 (z2 0)) 5 (z3 0)) 6 (upd (upd (upd (upd (fun _ => 0) (0 : Int32).toNatClampNeg ((5 : Int32) * (0 : Int32))) (1 : Int32).toNatClampNeg ((5 : Int32) * (1 : Int32))) (2 : Int32).toNatClampNeg ((5 : Int32) * (2 : Int32))) (3 : Int32).toNatClampNeg ((5 : Int32) * (3 : Int32)))) w) := hD
      refine lv_iinc (v := 4) (lv' := [(1, .int 4), (0, .ref (A 0))]) hx hb dX0_init_152 hl (k := 0) rfl (by decide) (by decide) rfl (fun ls hl => ?_)
      refine lv_goto (tgt := 138) hx hb dX0_init_155 (by decide) ?_
      refine lv_iload_n hx hb dX0_init_138 rfl (lv_at hl 0 rfl) ?_
      refine lv_iconst (v := 4) hx hb dX0_init_139 (by decide) ?_
      refine lv_icmp_ge (tgt := 158) hx hb dX0_init_140 (by decide) (fun c_3 => ?_) (fun c_3 => absurd (by decide) c_3)
      have hCI : CN (A, (va_up (va_up (va_up (va_up (va_up (fun _ _ => 0) 0 bb) 1 (z1 0)) 4 (z2 0)) 5 (z3 0)) 6 (upd (upd (upd (upd (fun _ => 0) (0 : Int32).toNatClampNeg ((5 : Int32) * (0 : Int32))) (1 : Int32).toNatClampNeg ((5 : Int32) * (1 : Int32))) (2 : Int32).toNatClampNeg ((5 : Int32) * (2 : Int32))) (3 : Int32).toNatClampNeg ((5 : Int32) * (3 : Int32)))), w) := by
        refine ⟨fun k hk => ?_, fun k hk => ?_, fun o ho => ⟨?_, ?_, ?_, ?_⟩, ⟨(congrFun hw 8).trans (by decide), (congrFun hw 9).trans (by decide), (congrFun hw 10).trans (by decide), (congrFun hw 11).trans (by decide), (congrFun hw 12).trans (by decide), (congrFun hw 13).trans (by decide), (congrFun hw 14).trans (by decide), (congrFun hw 15).trans (by decide), (congrFun hw 16).trans (by decide), (congrFun hw 17).trans (by decide), (congrFun hw 18).trans (by decide)⟩, fun _ => ⟨rfl, rfl⟩⟩
        · exact (congrFun hbb k).trans (if_pos hk)
        · exact (congrFun (congrFun hz1 0) k).trans (fill28 _ _ hk)
        · exact (congrFun (congrFun hz2 0) o).trans (fill4 _ _ ho)
        · exact (congrFun (congrFun hz3 0) o).trans (fill4 _ _ ho)
        · exact pl4 o ho
        · rfl
      exact W.vret hx hb hr (fun t ht hW => ⟨⟨(A, (va_up (va_up (va_up (va_up (va_up (fun _ _ => 0) 0 bb) 1 (z1 0)) 4 (z2 0)) 5 (z3 0)) 6 (upd (upd (upd (upd (fun _ => 0) (0 : Int32).toNatClampNeg ((5 : Int32) * (0 : Int32))) (1 : Int32).toNatClampNeg ((5 : Int32) * (1 : Int32))) (2 : Int32).toNatClampNeg ((5 : Int32) * (2 : Int32))) (3 : Int32).toNatClampNeg ((5 : Int32) * (3 : Int32)))), w), ⟨e0, hCI⟩, rfl, by rw [ht]; exact hP, hD⟩, hS.F ht⟩) hS.2.2 dX0_init_158
    | succ k ih =>
      intro i hi H locs hP hD hS ls hl
      have hlt : i < 28 := by omega
      refine lv_iload_n hx hb dX0_init_81 rfl (lv_at hl 1 rfl) ?_
      refine lv_bipush (v := 28) hx hb dX0_init_82 (by decide) ?_
      refine lv_icmp_ge (tgt := 111) hx hb dX0_init_84 (by decide) (fun c_3 => absurd c_3 (nle_of (C := 28) (N := 28) (by decide) hlt (by decide))) (fun c_3 => ?_)
      refine lv_aload_n hx hb dX0_init_87 rfl (lv_at hl 0 rfl) ?_
      refine va_get (D := D) (ci := 0) (v := .ref (A 1)) (C := RX0) (T := TX0) (N := 19) hx hb hts inT_X0 hown hK.1 hP 0 rfl rfl 0 (by decide) (hts _ wfl_RX0_9) (fun _ h9 => h9) rfl dX0_init_88 ?_
      refine lv_iload_n hx hb dX0_init_91 rfl (lv_at hl 1 rfl) ?_
      refine lv_iload_n hx hb dX0_init_92 rfl (lv_at hl 1 rfl) ?_
      refine rS (As := [.int (nI i)]) (rest := [.int (nI i), .ref (A 1)]) hx hb hml hown hts hl.1 (kX4_isGangway l D cyC cyI cyO (nI i)) bS_X4_isGangway wml_RX0_46 ⟨rfl, rfl⟩ ⟨Nat.le_of_ble_eq_true rfl, Nat.le_of_ble_eq_true rfl, Nat.le_of_ble_eq_true rfl, Nat.le_of_ble_eq_true rfl⟩ [] rfl hP hK rfl rfl (Nat.le_of_ble_eq_true rfl) dX0_init_93 ?_
      refine lv_if_eq (tgt := 103) hx hb dX0_init_96 (by decide) (fun c_4 => ?_) (fun c_4 => ?_)
      · skip
        refine lv_iconst (v := 0) hx hb dX0_init_103 (by decide) ?_
        refine va_iast (D := D) (f := b28 i) hx hb hK.1 hP hD hS 1 1 rfl rfl (vp_in_nI (Nat.lt_of_lt_of_le hlt (by decide)) (by decide)) dX0_init_104 (fun H locs hP hD hS => ?_)
        rw [nI_clamp (Nat.lt_trans hlt (by decide))] at hP hD
        have e5 : upd (b28 i) i 0 = b28 (i + 1) := b28_s i 0 (by rw [if_pos c_4])
        have hP : va_P D vwCl (wC cyI A (va_up (fun _ _ => 0) 0 (upd (b28 i) i 0)) w) H := hP
        have hD : va_D A0 (wC cyI A (va_up (fun _ _ => 0) 0 (upd (b28 i) i 0)) w) := hD
        rw [e5] at hP hD
        refine lv_iinc (v := nI (i + 1)) (lv' := [(1, .int (nI (i + 1))), (0, .ref (A 0))]) hx hb dX0_init_105 hl (k := 1) rfl (nI_succ i).symm (by decide) rfl (fun ls hl => ?_)
        refine lv_goto (tgt := 81) hx hb dX0_init_108 (by decide) ?_
        exact ih (i + 1) (by omega) H _ hP hD hS ls (lv_sub hl [1, 0] rfl)
      · skip
        refine lv_iconst (v := 5) hx hb dX0_init_99 (by decide) ?_
        refine lv_goto (tgt := 104) hx hb dX0_init_100 (by decide) ?_
        refine va_iast (D := D) (f := b28 i) hx hb hK.1 hP hD hS 1 1 rfl rfl (vp_in_nI (Nat.lt_of_lt_of_le hlt (by decide)) (by decide)) dX0_init_104 (fun H locs hP hD hS => ?_)
        rw [nI_clamp (Nat.lt_trans hlt (by decide))] at hP hD
        have e5 : upd (b28 i) i 5 = b28 (i + 1) := b28_s i 5 (by rw [if_neg c_4])
        have hP : va_P D vwCl (wC cyI A (va_up (fun _ _ => 0) 0 (upd (b28 i) i 5)) w) H := hP
        have hD : va_D A0 (wC cyI A (va_up (fun _ _ => 0) 0 (upd (b28 i) i 5)) w) := hD
        rw [e5] at hP hD
        refine lv_iinc (v := nI (i + 1)) (lv' := [(1, .int (nI (i + 1))), (0, .ref (A 0))]) hx hb dX0_init_105 hl (k := 1) rfl (nI_succ i).symm (by decide) rfl (fun ls hl => ?_)
        refine lv_goto (tgt := 81) hx hb dX0_init_108 (by decide) ?_
        exact ih (i + 1) (by omega) H _ hP hD hS ls (lv_sub hl [1, 0] rfl)
  have e6 : va_up (fun _ _ => (0 : Int32)) 0 (b28 0) = fun _ _ => 0 := b28_0
  exact key_81 28 0 (Nat.zero_add 28) H _ (by rw [e6]; exact hP) (by rw [e6]; exact hD) hS ls (lv_sub hl [1, 0] rfl)
