abbrev HiT : Type := (Nat → Nat) × (Nat → Nat → Nat) × (Nat → (Nat → Nat → Int32) × (Nat → Int32)) × (Nat → Int32)
set_option maxHeartbeats 4000000 in
set_option maxRecDepth 100000 in
theorem kX1_init (l : Launch) (D : va_G) (cyC cyI cyO : ClassId) (a : Nat) : MKC l yX1_init (Ty yX1_init cX1_init 2 none) ({ frames := 3, cells := 37, slots := 592, locals := 96 } : Room) D cyC cyI cyO [(a, .inr (1, zX1))] [.ref a] (fun x : HiT => wHM cyI cyO x.1 x.2.1 x.2.2.1 0 x.2.2.2) (fun x : HiT => x.1 0 = a ∧ x.2.2.2 1 = 0) 37 592 := by
  intro sz
  refine Met.ofW (cc := cX1_init) (maxL := 2) (ret := none) (by decide) rfl ?_
  intro p e s m args below meth cd s₁ B hml hv
  obtain ⟨rfl, ⟨hsz, hP, hK, hD0⟩, hO⟩ := hv
  have hx := B.exec
  have hb := B.bytes
  have hr := B.returns
  have hts : ∀ w ∈ TB, w.before ([.ref a] : List Value).toArray s = true := fun w h => atoms_spec (ws := (Ty yX1_init cX1_init 2 none)) B.pre w (List.mem_cons_of_mem _ h)
  have hown : s.vm.findClass RX1 = some m.cls := findClass_of_methodNamed B.named
  have hlocks := B.notSynchronized
  have hin : meth.name = "<init>" := (name_of_methodNamed B.named B.method).1
  subst hsz
  have hD := hD0.self (sz := s.heap.size)
  have hA : ∀ q : Nat, s.heap.size ≤ q → (va_A [(a, .inr (1, zX1))] s.heap.size) q := fun q h => Or.inr h
  generalize hAe : va_A [(a, .inr (1, zX1))] s.heap.size = A0 at hD hA ⊢
  have hS : va_S A0 s.heap s.heap [] := va_S.rf
  have hl := lv_entry ([.ref a]) (n := 2) (Nat.le_of_ble_eq_true rfl)
  rw [lg_entry_eq]
  generalize (lg_sl ([.ref a]) ++ List.replicate (2 - (lg_sl ([.ref a])).length) Slot.unset).toArray = ls at hl ⊢
  have hl : lv_has ls 2 [(0, .ref a)] := hl
  refine lv_aload_n hx hb dX1_init_0 rfl (lv_at hl 0 rfl) ?_
  refine W.objInit hx hb hown (hts _ wml_RX1_3) (hts _ wim_obj) (hts _ wcd_obj) rfl (by rw [hml]; exact hl.1) rfl dX1_init_1 (Nat.le_of_ble_eq_true rfl) (Nat.le_of_ble_eq_true rfl) ?_
  refine W.eq (g2 := F0 m 4 ls []) rfl ?_
  refine lv_aload_n hx hb dX1_init_4 rfl (lv_at hl 0 rfl) ?_
  refine lv_iconst (v := 4) hx hb dX1_init_5 (by decide) ?_
  refine new_city hx hb hown (hts _ wcl_RX1_9) hO hK hP hD hS hA (N' := 4) (by decide) (by decide) (Nat.le_of_ble_eq_true rfl) (Nat.le_of_ble_eq_true rfl) (Nat.le_of_ble_eq_true rfl) dX1_init_6 (fun q1 H hP hD hS => ?_)
  have hP : va_P D vwCl [(a, .inr (1, [.null, .int 0])), (q1, .inl (cyO, 4, .inr (.inr (.inr (.inr (fun _ => none))))))] H := hP
  have hD : va_D A0 [(a, .inr (1, [.null, .int 0])), (q1, .inl (cyO, 4, .inr (.inr (.inr (.inr (fun _ => none))))))] := hD
  refine va_putF (D := D) (ci := 1) (v := .ref q1) (ty := .array (.object "RoofOrdinances$City")) (C := RX1) (T := TX1) (N := 2) hx hb hts inT_X1 tyX1 tyX1_ok nmX1 hown hK.1 hP hD hS 0 rfl rfl 0 (by decide) (hts _ wfl_RX1_11) (fun _ h9 => h9) rfl hin rfl (by decide +kernel) rfl rfl (Nat.le_of_ble_eq_true rfl) dX1_init_9 (fun H locs hP hD hS => ?_)
  have hP : va_P D vwCl (List.flatten [[(a, .inr (1, [.ref q1, .int 0])), (q1, .inl (cyO, 4, .inr (.inr (.inr (.inr (fun _ => none))))))]]) H := hP
  have hD : va_D A0 (List.flatten [[(a, .inr (1, [.ref q1, .int 0])), (q1, .inl (cyO, 4, .inr (.inr (.inr (.inr (fun _ => none))))))]]) := hD
  refine lv_iconst (v := 0) hx hb dX1_init_12 (by decide) ?_
  refine lv_istore_n (lv' := [(1, .int 0), (0, .ref a)]) hx hb dX1_init_13 rfl hl (by decide) rfl (fun ls hl => ?_)
  refine lv_iload_n hx hb dX1_init_14 rfl (lv_at hl 0 rfl) ?_
  refine lv_iconst (v := 4) hx hb dX1_init_15 (by decide) ?_
  refine lv_icmp_ge (tgt := 38) hx hb dX1_init_16 (by decide) (fun c_3 => absurd c_3 (by decide)) (fun c_3 => ?_)
  refine lv_aload_n hx hb dX1_init_19 rfl (lv_at hl 1 rfl) ?_
  refine va_get (D := D) (ci := 1) (v := .ref q1) (C := RX1) (T := TX1) (N := 2) hx hb hts inT_X1 hown hK.1 hP 0 rfl rfl 0 (by decide) (hts _ wfl_RX1_11) (fun _ h9 => h9) rfl dX1_init_20 ?_
  refine lv_iload_n hx hb dX1_init_23 rfl (lv_at hl 0 rfl) ?_
  refine va_new (ci := 0) (fs := zX0) (C := RX0) (T := TX0) (N := 19) hx hb hts inT_X0 tyX0 tyX0_ok hown (hts _ wcl_RX1_9) (hts _ wis_RX0) (hts _ win_RX0) hK.1 hP hD hS hA rfl zX0_ok (Nat.le_of_ble_eq_true rfl) (Nat.le_of_ble_eq_true rfl) dX1_init_24 (fun p0 H hP hD hS => ?_)
  rw [flat_snoc] at hP hD
  refine lv_dup hx hb dX1_init_27 rfl ?_
  refine mkC (bl := [[(a, .inr (1, [.ref q1, .int 0])), (q1, .inl (cyO, 4, .inr (.inr (.inr (.inr (fun _ => none))))))], [(p0, .inr (0, zX0))]]) (b := [(p0, .inr (0, zX0))]) (b0 := p0) (As := []) (rest := [.ref p0, .int 0, .ref q1]) hx hb hml hown hts hl.1 (kX0_init l D cyC cyI cyO p0) bI_X0_init (hts _ wml_RX1_17) ⟨rfl, rfl⟩ ⟨Nat.le_of_ble_eq_true rfl, Nat.le_of_ble_eq_true rfl, Nat.le_of_ble_eq_true rfl, Nat.le_of_ble_eq_true rfl⟩ 1 rfl hP hD hS hA hK hO rfl rfl (Nat.le_of_ble_eq_true rfl) dX1_init_28 (fun x0 H locs hc hP hD hS => ?_)
  obtain ⟨C0, u0, w0⟩ := x0
  obtain ⟨e1, hc0⟩ := hc
  have e1 : C0 0 = p0 := e1
  subst e1
  have hP : va_P D vwCl (List.flatten [[(a, .inr (1, [.ref q1, .int 0])), (q1, .inl (cyO, 4, .inr (.inr (.inr (.inr (fun _ => none))))))], (wC cyI C0 u0 w0)]) H := hP
  have hD : va_D A0 (List.flatten [[(a, .inr (1, [.ref q1, .int 0])), (q1, .inl (cyO, 4, .inr (.inr (.inr (.inr (fun _ => none))))))], (wC cyI C0 u0 w0)]) := hD
  refine va_astq (D := D) (f := (fun _ => none)) (r := (RX0, TX0, 19)) hx hb hK.1 hP hD hS 1 2 2 0 rfl rfl rfl rfl (vp_lit (by decide)) dX1_init_31 (fun H locs hP hD hS => ?_)
  have hP : va_P D vwCl (List.flatten [[(a, .inr (1, [.ref q1, .int 0])), (q1, .inl (cyO, 4, .inr (.inr (.inr (.inr (va_up (fun _ => none) (0 : Int32).toNatClampNeg (some (C0 0))))))))], (wC cyI C0 u0 w0)]) H := hP
  have hD : va_D A0 (List.flatten [[(a, .inr (1, [.ref q1, .int 0])), (q1, .inl (cyO, 4, .inr (.inr (.inr (.inr (va_up (fun _ => none) (0 : Int32).toNatClampNeg (some (C0 0))))))))], (wC cyI C0 u0 w0)]) := hD
  refine lv_iinc (v := 1) (lv' := [(1, .int 1), (0, .ref a)]) hx hb dX1_init_32 hl (k := 0) rfl (by decide) (by decide) rfl (fun ls hl => ?_)
  refine lv_goto (tgt := 14) hx hb dX1_init_35 (by decide) ?_
  refine lv_iload_n hx hb dX1_init_14 rfl (lv_at hl 0 rfl) ?_
  refine lv_iconst (v := 4) hx hb dX1_init_15 (by decide) ?_
  refine lv_icmp_ge (tgt := 38) hx hb dX1_init_16 (by decide) (fun c_3 => absurd c_3 (by decide)) (fun c_3 => ?_)
  refine lv_aload_n hx hb dX1_init_19 rfl (lv_at hl 1 rfl) ?_
  refine va_get (D := D) (ci := 1) (v := .ref q1) (C := RX1) (T := TX1) (N := 2) hx hb hts inT_X1 hown hK.1 hP 0 rfl rfl 0 (by decide) (hts _ wfl_RX1_11) (fun _ h9 => h9) rfl dX1_init_20 ?_
  refine lv_iload_n hx hb dX1_init_23 rfl (lv_at hl 0 rfl) ?_
  refine va_new (ci := 0) (fs := zX0) (C := RX0) (T := TX0) (N := 19) hx hb hts inT_X0 tyX0 tyX0_ok hown (hts _ wcl_RX1_9) (hts _ wis_RX0) (hts _ win_RX0) hK.1 hP hD hS hA rfl zX0_ok (Nat.le_of_ble_eq_true rfl) (Nat.le_of_ble_eq_true rfl) dX1_init_24 (fun p1 H hP hD hS => ?_)
  rw [flat_snoc] at hP hD
  refine lv_dup hx hb dX1_init_27 rfl ?_
  refine mkC (bl := [[(a, .inr (1, [.ref q1, .int 0])), (q1, .inl (cyO, 4, .inr (.inr (.inr (.inr (va_up (fun _ => none) (0 : Int32).toNatClampNeg (some (C0 0))))))))], (wC cyI C0 u0 w0), [(p1, .inr (0, zX0))]]) (b := [(p1, .inr (0, zX0))]) (b0 := p1) (As := []) (rest := [.ref p1, .int 1, .ref q1]) hx hb hml hown hts hl.1 (kX0_init l D cyC cyI cyO p1) bI_X0_init (hts _ wml_RX1_17) ⟨rfl, rfl⟩ ⟨Nat.le_of_ble_eq_true rfl, Nat.le_of_ble_eq_true rfl, Nat.le_of_ble_eq_true rfl, Nat.le_of_ble_eq_true rfl⟩ 2 rfl hP hD hS hA hK hO rfl rfl (Nat.le_of_ble_eq_true rfl) dX1_init_28 (fun x1 H locs hc hP hD hS => ?_)
  obtain ⟨C1, u1, w1⟩ := x1
  obtain ⟨e1, hc1⟩ := hc
  have e1 : C1 0 = p1 := e1
  subst e1
  have hP : va_P D vwCl (List.flatten [[(a, .inr (1, [.ref q1, .int 0])), (q1, .inl (cyO, 4, .inr (.inr (.inr (.inr (va_up (fun _ => none) (0 : Int32).toNatClampNeg (some (C0 0))))))))], (wC cyI C0 u0 w0), (wC cyI C1 u1 w1)]) H := hP
  have hD : va_D A0 (List.flatten [[(a, .inr (1, [.ref q1, .int 0])), (q1, .inl (cyO, 4, .inr (.inr (.inr (.inr (va_up (fun _ => none) (0 : Int32).toNatClampNeg (some (C0 0))))))))], (wC cyI C0 u0 w0), (wC cyI C1 u1 w1)]) := hD
  refine va_astq (D := D) (f := (va_up (fun _ => none) (0 : Int32).toNatClampNeg (some (C0 0)))) (r := (RX0, TX0, 19)) hx hb hK.1 hP hD hS 1 2 11 0 rfl rfl rfl rfl (vp_lit (by decide)) dX1_init_31 (fun H locs hP hD hS => ?_)
  have hP : va_P D vwCl (List.flatten [[(a, .inr (1, [.ref q1, .int 0])), (q1, .inl (cyO, 4, .inr (.inr (.inr (.inr (va_up (va_up (fun _ => none) (0 : Int32).toNatClampNeg (some (C0 0))) (1 : Int32).toNatClampNeg (some (C1 0))))))))], (wC cyI C0 u0 w0), (wC cyI C1 u1 w1)]) H := hP
  have hD : va_D A0 (List.flatten [[(a, .inr (1, [.ref q1, .int 0])), (q1, .inl (cyO, 4, .inr (.inr (.inr (.inr (va_up (va_up (fun _ => none) (0 : Int32).toNatClampNeg (some (C0 0))) (1 : Int32).toNatClampNeg (some (C1 0))))))))], (wC cyI C0 u0 w0), (wC cyI C1 u1 w1)]) := hD
  refine lv_iinc (v := 2) (lv' := [(1, .int 2), (0, .ref a)]) hx hb dX1_init_32 hl (k := 0) rfl (by decide) (by decide) rfl (fun ls hl => ?_)
  refine lv_goto (tgt := 14) hx hb dX1_init_35 (by decide) ?_
  refine lv_iload_n hx hb dX1_init_14 rfl (lv_at hl 0 rfl) ?_
  refine lv_iconst (v := 4) hx hb dX1_init_15 (by decide) ?_
  refine lv_icmp_ge (tgt := 38) hx hb dX1_init_16 (by decide) (fun c_3 => absurd c_3 (by decide)) (fun c_3 => ?_)
  refine lv_aload_n hx hb dX1_init_19 rfl (lv_at hl 1 rfl) ?_
  refine va_get (D := D) (ci := 1) (v := .ref q1) (C := RX1) (T := TX1) (N := 2) hx hb hts inT_X1 hown hK.1 hP 0 rfl rfl 0 (by decide) (hts _ wfl_RX1_11) (fun _ h9 => h9) rfl dX1_init_20 ?_
  refine lv_iload_n hx hb dX1_init_23 rfl (lv_at hl 0 rfl) ?_
  refine va_new (ci := 0) (fs := zX0) (C := RX0) (T := TX0) (N := 19) hx hb hts inT_X0 tyX0 tyX0_ok hown (hts _ wcl_RX1_9) (hts _ wis_RX0) (hts _ win_RX0) hK.1 hP hD hS hA rfl zX0_ok (Nat.le_of_ble_eq_true rfl) (Nat.le_of_ble_eq_true rfl) dX1_init_24 (fun p2 H hP hD hS => ?_)
  rw [flat_snoc] at hP hD
  refine lv_dup hx hb dX1_init_27 rfl ?_
  refine mkC (bl := [[(a, .inr (1, [.ref q1, .int 0])), (q1, .inl (cyO, 4, .inr (.inr (.inr (.inr (va_up (va_up (fun _ => none) (0 : Int32).toNatClampNeg (some (C0 0))) (1 : Int32).toNatClampNeg (some (C1 0))))))))], (wC cyI C0 u0 w0), (wC cyI C1 u1 w1), [(p2, .inr (0, zX0))]]) (b := [(p2, .inr (0, zX0))]) (b0 := p2) (As := []) (rest := [.ref p2, .int 2, .ref q1]) hx hb hml hown hts hl.1 (kX0_init l D cyC cyI cyO p2) bI_X0_init (hts _ wml_RX1_17) ⟨rfl, rfl⟩ ⟨Nat.le_of_ble_eq_true rfl, Nat.le_of_ble_eq_true rfl, Nat.le_of_ble_eq_true rfl, Nat.le_of_ble_eq_true rfl⟩ 3 rfl hP hD hS hA hK hO rfl rfl (Nat.le_of_ble_eq_true rfl) dX1_init_28 (fun x2 H locs hc hP hD hS => ?_)
  obtain ⟨C2, u2, w2⟩ := x2
  obtain ⟨e1, hc2⟩ := hc
  have e1 : C2 0 = p2 := e1
  subst e1
  have hP : va_P D vwCl (List.flatten [[(a, .inr (1, [.ref q1, .int 0])), (q1, .inl (cyO, 4, .inr (.inr (.inr (.inr (va_up (va_up (fun _ => none) (0 : Int32).toNatClampNeg (some (C0 0))) (1 : Int32).toNatClampNeg (some (C1 0))))))))], (wC cyI C0 u0 w0), (wC cyI C1 u1 w1), (wC cyI C2 u2 w2)]) H := hP
  have hD : va_D A0 (List.flatten [[(a, .inr (1, [.ref q1, .int 0])), (q1, .inl (cyO, 4, .inr (.inr (.inr (.inr (va_up (va_up (fun _ => none) (0 : Int32).toNatClampNeg (some (C0 0))) (1 : Int32).toNatClampNeg (some (C1 0))))))))], (wC cyI C0 u0 w0), (wC cyI C1 u1 w1), (wC cyI C2 u2 w2)]) := hD
  refine va_astq (D := D) (f := (va_up (va_up (fun _ => none) (0 : Int32).toNatClampNeg (some (C0 0))) (1 : Int32).toNatClampNeg (some (C1 0)))) (r := (RX0, TX0, 19)) hx hb hK.1 hP hD hS 1 2 20 0 rfl rfl rfl rfl (vp_lit (by decide)) dX1_init_31 (fun H locs hP hD hS => ?_)
  have hP : va_P D vwCl (List.flatten [[(a, .inr (1, [.ref q1, .int 0])), (q1, .inl (cyO, 4, .inr (.inr (.inr (.inr (va_up (va_up (va_up (fun _ => none) (0 : Int32).toNatClampNeg (some (C0 0))) (1 : Int32).toNatClampNeg (some (C1 0))) (2 : Int32).toNatClampNeg (some (C2 0))))))))], (wC cyI C0 u0 w0), (wC cyI C1 u1 w1), (wC cyI C2 u2 w2)]) H := hP
  have hD : va_D A0 (List.flatten [[(a, .inr (1, [.ref q1, .int 0])), (q1, .inl (cyO, 4, .inr (.inr (.inr (.inr (va_up (va_up (va_up (fun _ => none) (0 : Int32).toNatClampNeg (some (C0 0))) (1 : Int32).toNatClampNeg (some (C1 0))) (2 : Int32).toNatClampNeg (some (C2 0))))))))], (wC cyI C0 u0 w0), (wC cyI C1 u1 w1), (wC cyI C2 u2 w2)]) := hD
  refine lv_iinc (v := 3) (lv' := [(1, .int 3), (0, .ref a)]) hx hb dX1_init_32 hl (k := 0) rfl (by decide) (by decide) rfl (fun ls hl => ?_)
  refine lv_goto (tgt := 14) hx hb dX1_init_35 (by decide) ?_
  refine lv_iload_n hx hb dX1_init_14 rfl (lv_at hl 0 rfl) ?_
  refine lv_iconst (v := 4) hx hb dX1_init_15 (by decide) ?_
  refine lv_icmp_ge (tgt := 38) hx hb dX1_init_16 (by decide) (fun c_3 => absurd c_3 (by decide)) (fun c_3 => ?_)
  refine lv_aload_n hx hb dX1_init_19 rfl (lv_at hl 1 rfl) ?_
  refine va_get (D := D) (ci := 1) (v := .ref q1) (C := RX1) (T := TX1) (N := 2) hx hb hts inT_X1 hown hK.1 hP 0 rfl rfl 0 (by decide) (hts _ wfl_RX1_11) (fun _ h9 => h9) rfl dX1_init_20 ?_
  refine lv_iload_n hx hb dX1_init_23 rfl (lv_at hl 0 rfl) ?_
  refine va_new (ci := 0) (fs := zX0) (C := RX0) (T := TX0) (N := 19) hx hb hts inT_X0 tyX0 tyX0_ok hown (hts _ wcl_RX1_9) (hts _ wis_RX0) (hts _ win_RX0) hK.1 hP hD hS hA rfl zX0_ok (Nat.le_of_ble_eq_true rfl) (Nat.le_of_ble_eq_true rfl) dX1_init_24 (fun p3 H hP hD hS => ?_)
  rw [flat_snoc] at hP hD
  refine lv_dup hx hb dX1_init_27 rfl ?_
  refine mkC (bl := [[(a, .inr (1, [.ref q1, .int 0])), (q1, .inl (cyO, 4, .inr (.inr (.inr (.inr (va_up (va_up (va_up (fun _ => none) (0 : Int32).toNatClampNeg (some (C0 0))) (1 : Int32).toNatClampNeg (some (C1 0))) (2 : Int32).toNatClampNeg (some (C2 0))))))))], (wC cyI C0 u0 w0), (wC cyI C1 u1 w1), (wC cyI C2 u2 w2), [(p3, .inr (0, zX0))]]) (b := [(p3, .inr (0, zX0))]) (b0 := p3) (As := []) (rest := [.ref p3, .int 3, .ref q1]) hx hb hml hown hts hl.1 (kX0_init l D cyC cyI cyO p3) bI_X0_init (hts _ wml_RX1_17) ⟨rfl, rfl⟩ ⟨Nat.le_of_ble_eq_true rfl, Nat.le_of_ble_eq_true rfl, Nat.le_of_ble_eq_true rfl, Nat.le_of_ble_eq_true rfl⟩ 4 rfl hP hD hS hA hK hO rfl rfl (Nat.le_of_ble_eq_true rfl) dX1_init_28 (fun x3 H locs hc hP hD hS => ?_)
  obtain ⟨C3, u3, w3⟩ := x3
  obtain ⟨e1, hc3⟩ := hc
  have e1 : C3 0 = p3 := e1
  subst e1
  have hP : va_P D vwCl (List.flatten [[(a, .inr (1, [.ref q1, .int 0])), (q1, .inl (cyO, 4, .inr (.inr (.inr (.inr (va_up (va_up (va_up (fun _ => none) (0 : Int32).toNatClampNeg (some (C0 0))) (1 : Int32).toNatClampNeg (some (C1 0))) (2 : Int32).toNatClampNeg (some (C2 0))))))))], (wC cyI C0 u0 w0), (wC cyI C1 u1 w1), (wC cyI C2 u2 w2), (wC cyI C3 u3 w3)]) H := hP
  have hD : va_D A0 (List.flatten [[(a, .inr (1, [.ref q1, .int 0])), (q1, .inl (cyO, 4, .inr (.inr (.inr (.inr (va_up (va_up (va_up (fun _ => none) (0 : Int32).toNatClampNeg (some (C0 0))) (1 : Int32).toNatClampNeg (some (C1 0))) (2 : Int32).toNatClampNeg (some (C2 0))))))))], (wC cyI C0 u0 w0), (wC cyI C1 u1 w1), (wC cyI C2 u2 w2), (wC cyI C3 u3 w3)]) := hD
  refine va_astq (D := D) (f := (va_up (va_up (va_up (fun _ => none) (0 : Int32).toNatClampNeg (some (C0 0))) (1 : Int32).toNatClampNeg (some (C1 0))) (2 : Int32).toNatClampNeg (some (C2 0)))) (r := (RX0, TX0, 19)) hx hb hK.1 hP hD hS 1 2 29 0 rfl rfl rfl rfl (vp_lit (by decide)) dX1_init_31 (fun H locs hP hD hS => ?_)
  have hP : va_P D vwCl (List.flatten [[(a, .inr (1, [.ref q1, .int 0])), (q1, .inl (cyO, 4, .inr (.inr (.inr (.inr (va_up (va_up (va_up (va_up (fun _ => none) (0 : Int32).toNatClampNeg (some (C0 0))) (1 : Int32).toNatClampNeg (some (C1 0))) (2 : Int32).toNatClampNeg (some (C2 0))) (3 : Int32).toNatClampNeg (some (C3 0))))))))], (wC cyI C0 u0 w0), (wC cyI C1 u1 w1), (wC cyI C2 u2 w2), (wC cyI C3 u3 w3)]) H := hP
  have hD : va_D A0 (List.flatten [[(a, .inr (1, [.ref q1, .int 0])), (q1, .inl (cyO, 4, .inr (.inr (.inr (.inr (va_up (va_up (va_up (va_up (fun _ => none) (0 : Int32).toNatClampNeg (some (C0 0))) (1 : Int32).toNatClampNeg (some (C1 0))) (2 : Int32).toNatClampNeg (some (C2 0))) (3 : Int32).toNatClampNeg (some (C3 0))))))))], (wC cyI C0 u0 w0), (wC cyI C1 u1 w1), (wC cyI C2 u2 w2), (wC cyI C3 u3 w3)]) := hD
  refine lv_iinc (v := 4) (lv' := [(1, .int 4), (0, .ref a)]) hx hb dX1_init_32 hl (k := 0) rfl (by decide) (by decide) rfl (fun ls hl => ?_)
  refine lv_goto (tgt := 14) hx hb dX1_init_35 (by decide) ?_
  refine lv_iload_n hx hb dX1_init_14 rfl (lv_at hl 0 rfl) ?_
  refine lv_iconst (v := 4) hx hb dX1_init_15 (by decide) ?_
  refine lv_icmp_ge (tgt := 38) hx hb dX1_init_16 (by decide) (fun c_3 => ?_) (fun c_3 => absurd (by decide) c_3)
  obtain ⟨BB, hBB⟩ : ∃ BB : Nat → Nat → Nat, BB = fun k => match k with | 0 => C0 | 1 => C1 | 2 => C2 | _ => C3 := ⟨_, rfl⟩
  obtain ⟨h, hh⟩ : ∃ h : Nat → (Nat → Nat → Int32) × (Nat → Int32), h = fun k => match k with | 0 => (u0, w0) | 1 => (u1, w1) | 2 => (u2, w2) | _ => (u3, w3) := ⟨_, rfl⟩
  have hP := va_P_cell (k := 1) (g := fun j => some (BB ((j + 0) % 4) 0)) hP rfl (fun j hj => by
    rw [hBB]
    rcases (show j = 0 ∨ j = 1 ∨ j = 2 ∨ j = 3 by omega) with rfl | rfl | rfl | rfl <;> rfl)
  have hD := va_D.set (p := 1) (a := q1) (e := .inl (cyO, 4, .inr (.inr (.inr (.inr (fun j => some (BB ((j + 0) % 4) 0))))))) hD rfl
  have hP : va_P D vwCl (wHM cyI cyO (fun k => [a, q1].getD k 0) BB h 0 (fun _ => 0)) H := by rw [hh]; rw [hBB] at hP ⊢; exact hP
  have hD : va_D A0 (wHM cyI cyO (fun k => [a, q1].getD k 0) BB h 0 (fun _ => 0)) := by rw [hh]; rw [hBB] at hD ⊢; exact hD
  refine W.widen (k := 37) (n := 592) (by omega) (by omega) ?_
  exact W.vret hx hb hr (fun t ht hW => ⟨⟨((fun k => [a, q1].getD k 0), BB, h, fun _ => 0), ⟨rfl, rfl⟩, rfl, by rw [ht]; exact hP, hD⟩, hS.F ht⟩) hS.2.2 dX1_init_38
