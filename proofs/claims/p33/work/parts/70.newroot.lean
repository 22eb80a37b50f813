/-- a new root: addresses (root, city, trial, snapshot, history, ways, pad, reader), the history's cities, ints, arrays -/
abbrev RtT : Type := (Nat → Nat → Nat) × (Nat → Nat → Nat) × (Nat → Nat → Int32) × (Nat → Nat → Nat → Int32) × (Nat → (Nat → Nat → Int32) × (Nat → Int32))
abbrev rtB (cyC cyI cyO : ClassId) (x : RtT) : List va_W := [wRt (x.1 0) (x.1 1) (x.1 2) (x.1 3) (x.1 4) (x.1 5) (x.1 6) (x.1 7) (x.2.2.1 0), wPd cyC (x.1 6) (x.2.2.2.1 0) (x.2.2.1 1), wRd (x.1 7) (x.1 6) (x.2.2.1 2), wC cyI (x.1 1) (x.2.2.2.1 1) (x.2.2.1 3), wHM cyI cyO (x.1 4) x.2.1 x.2.2.2.2 0 (x.2.2.1 4), wC cyI (x.1 2) (x.2.2.2.1 2) (x.2.2.1 5), wC cyI (x.1 3) (x.2.2.2.1 3) (x.2.2.1 6), wWy cyI (x.1 5) (x.2.2.2.1 4)]
def RI (a : Nat) (x : RtT) : Prop := x.1 0 0 = a ∧ x.2.2.1 0 3 = 0 ∧ x.2.2.1 0 8 = 0 ∧ (∀ k, x.2.2.2.1 0 0 k = 0) ∧ x.2.2.1 1 1 = 0 ∧ CN (x.1 1, x.2.2.2.1 1, x.2.2.1 3) ∧ x.2.2.1 4 1 = 0
set_option maxHeartbeats 4000000 in
set_option maxRecDepth 100000 in
theorem kX6_init (l : Launch) (D : va_G) (cyC cyI cyO : ClassId) (a : Nat) : MKC l yX6_init (Ty yX6_init cX6_init 1 none) ({ frames := 4, cells := 71, slots := 1137, locals := 160 } : Room) D cyC cyI cyO [(a, .inr (5, zX6))] [.ref a] (fun x : RtT => (rtB cyC cyI cyO x).flatten) (RI a) 71 1137 := by
  intro sz
  refine Met.ofW (cc := cX6_init) (maxL := 1) (ret := none) (by decide) rfl ?_
  intro p e s m args below meth cd s₁ B hml hv
  obtain ⟨rfl, ⟨hsz, hP, hK, hD0⟩, hO⟩ := hv
  have hx := B.exec
  have hb := B.bytes
  have hr := B.returns
  have hts : ∀ w ∈ TB, w.before ([.ref a] : List Value).toArray s = true := fun w h => atoms_spec (ws := (Ty yX6_init cX6_init 1 none)) B.pre w (List.mem_cons_of_mem _ h)
  have hown : s.vm.findClass RX6 = some m.cls := findClass_of_methodNamed B.named
  have hlocks := B.notSynchronized
  have hin : meth.name = "<init>" := (name_of_methodNamed B.named B.method).1
  subst hsz
  have hD := hD0.self (sz := s.heap.size)
  have hA : ∀ q : Nat, s.heap.size ≤ q → (va_A [(a, .inr (5, zX6))] s.heap.size) q := fun q h => Or.inr h
  generalize hAe : va_A [(a, .inr (5, zX6))] s.heap.size = A0 at hD hA ⊢
  have hS : va_S A0 s.heap s.heap [] := va_S.rf
  have hl := lv_entry ([.ref a]) (n := 1) (Nat.le_of_ble_eq_true rfl)
  rw [lg_entry_eq]
  generalize (lg_sl ([.ref a]) ++ List.replicate (1 - (lg_sl ([.ref a])).length) Slot.unset).toArray = ls at hl ⊢
  have hl : lv_has ls 1 [(0, .ref a)] := hl
  refine lv_aload_n hx hb dX6_init_0 rfl (lv_at hl 0 rfl) ?_
  refine W.objInit hx hb hown (hts _ wml_RX6_1) (hts _ wim_obj) (hts _ wcd_obj) rfl (by rw [hml]; exact hl.1) rfl dX6_init_1 (Nat.le_of_ble_eq_true rfl) (Nat.le_of_ble_eq_true rfl) ?_
  refine W.eq (g2 := F0 m 4 ls []) rfl ?_
  have hP : va_P D vwCl (List.flatten [[(a, .inr (5, [.null, .null, .null, .int 0, .null, .null, .null, .null, .int 0, .int 0, .int 0, .int 0]))]]) s.heap := hP
  have hD : va_D A0 (List.flatten [[(a, .inr (5, [.null, .null, .null, .int 0, .null, .null, .null, .null, .int 0, .int 0, .int 0, .int 0]))]]) := hD
  refine lv_aload_n hx hb dX6_init_4 rfl (lv_at hl 0 rfl) ?_
  refine va_new (ci := 0) (fs := zX0) (C := RX0) (T := TX0) (N := 19) hx hb hts inT_X0 tyX0 tyX0_ok hown (hts _ wcl_RX6_7) (hts _ wis_RX0) (hts _ win_RX0) hK.1 hP hD hS hA rfl zX0_ok (Nat.le_of_ble_eq_true rfl) (Nat.le_of_ble_eq_true rfl) dX6_init_5 (fun p0 H hP hD hS => ?_)
  rw [flat_snoc] at hP hD
  refine lv_dup hx hb dX6_init_8 rfl ?_
  refine mkC (bl := [[(a, .inr (5, [.null, .null, .null, .int 0, .null, .null, .null, .null, .int 0, .int 0, .int 0, .int 0]))], [(p0, .inr (0, zX0))]]) (b := [(p0, .inr (0, zX0))]) (b0 := p0) (As := []) (rest := [.ref p0, .ref a]) hx hb hml hown hts hl.1 (kX0_init l D cyC cyI cyO p0) bI_X0_init (hts _ wml_RX6_9) ⟨rfl, rfl⟩ ⟨Nat.le_of_ble_eq_true rfl, Nat.le_of_ble_eq_true rfl, Nat.le_of_ble_eq_true rfl, Nat.le_of_ble_eq_true rfl⟩ 1 rfl hP hD hS hA hK hO rfl rfl (Nat.le_of_ble_eq_true rfl) dX6_init_9 (fun x0 H locs hc hP hD hS => ?_)
  obtain ⟨C, u, w⟩ := x0
  obtain ⟨e1, hc0⟩ := hc
  have e1 : C 0 = p0 := e1
  subst e1
  have hP : va_P D vwCl (List.flatten [[(a, .inr (5, [.null, .null, .null, .int 0, .null, .null, .null, .null, .int 0, .int 0, .int 0, .int 0]))], (wC cyI C u w)]) H := hP
  have hD : va_D A0 (List.flatten [[(a, .inr (5, [.null, .null, .null, .int 0, .null, .null, .null, .null, .int 0, .int 0, .int 0, .int 0]))], (wC cyI C u w)]) := hD
  refine va_putF (D := D) (ci := 5) (v := .ref (C 0)) (ty := .object "RoofOrdinances$City") (C := RX6) (T := TX6) (N := 12) hx hb hts inT_X6 tyX6 tyX6_ok nmX6 hown hK.1 hP hD hS 0 rfl rfl 0 (by decide) (hts _ wfl_RX6_10) (fun _ h9 => h9) rfl hin rfl (by decide +kernel) rfl rfl (Nat.le_of_ble_eq_true rfl) dX6_init_12 (fun H locs hP hD hS => ?_)
  have hP : va_P D vwCl (List.flatten [[(a, .inr (5, [.ref (C 0), .null, .null, .int 0, .null, .null, .null, .null, .int 0, .int 0, .int 0, .int 0]))], (wC cyI C u w)]) H := hP
  have hD : va_D A0 (List.flatten [[(a, .inr (5, [.ref (C 0), .null, .null, .int 0, .null, .null, .null, .null, .int 0, .int 0, .int 0, .int 0]))], (wC cyI C u w)]) := hD
  refine lv_aload_n hx hb dX6_init_15 rfl (lv_at hl 0 rfl) ?_
  refine va_new (ci := 0) (fs := zX0) (C := RX0) (T := TX0) (N := 19) hx hb hts inT_X0 tyX0 tyX0_ok hown (hts _ wcl_RX6_7) (hts _ wis_RX0) (hts _ win_RX0) hK.1 hP hD hS hA rfl zX0_ok (Nat.le_of_ble_eq_true rfl) (Nat.le_of_ble_eq_true rfl) dX6_init_16 (fun p1 H hP hD hS => ?_)
  rw [flat_snoc] at hP hD
  refine lv_dup hx hb dX6_init_19 rfl ?_
  refine mkC (bl := [[(a, .inr (5, [.ref (C 0), .null, .null, .int 0, .null, .null, .null, .null, .int 0, .int 0, .int 0, .int 0]))], (wC cyI C u w), [(p1, .inr (0, zX0))]]) (b := [(p1, .inr (0, zX0))]) (b0 := p1) (As := []) (rest := [.ref p1, .ref a]) hx hb hml hown hts hl.1 (kX0_init l D cyC cyI cyO p1) bI_X0_init (hts _ wml_RX6_9) ⟨rfl, rfl⟩ ⟨Nat.le_of_ble_eq_true rfl, Nat.le_of_ble_eq_true rfl, Nat.le_of_ble_eq_true rfl, Nat.le_of_ble_eq_true rfl⟩ 2 rfl hP hD hS hA hK hO rfl rfl (Nat.le_of_ble_eq_true rfl) dX6_init_20 (fun x1 H locs hc hP hD hS => ?_)
  obtain ⟨TR, tu, tw⟩ := x1
  obtain ⟨e1, hc1⟩ := hc
  have e1 : TR 0 = p1 := e1
  subst e1
  have hP : va_P D vwCl (List.flatten [[(a, .inr (5, [.ref (C 0), .null, .null, .int 0, .null, .null, .null, .null, .int 0, .int 0, .int 0, .int 0]))], (wC cyI C u w), (wC cyI TR tu tw)]) H := hP
  have hD : va_D A0 (List.flatten [[(a, .inr (5, [.ref (C 0), .null, .null, .int 0, .null, .null, .null, .null, .int 0, .int 0, .int 0, .int 0]))], (wC cyI C u w), (wC cyI TR tu tw)]) := hD
  refine va_putF (D := D) (ci := 5) (v := .ref (TR 0)) (ty := .object "RoofOrdinances$City") (C := RX6) (T := TX6) (N := 12) hx hb hts inT_X6 tyX6 tyX6_ok nmX6 hown hK.1 hP hD hS 0 rfl rfl 1 (by decide) (hts _ wfl_RX6_16) (fun _ h9 => h9) rfl hin rfl (by decide +kernel) rfl rfl (Nat.le_of_ble_eq_true rfl) dX6_init_23 (fun H locs hP hD hS => ?_)
  have hP : va_P D vwCl (List.flatten [[(a, .inr (5, [.ref (C 0), .ref (TR 0), .null, .int 0, .null, .null, .null, .null, .int 0, .int 0, .int 0, .int 0]))], (wC cyI C u w), (wC cyI TR tu tw)]) H := hP
  have hD : va_D A0 (List.flatten [[(a, .inr (5, [.ref (C 0), .ref (TR 0), .null, .int 0, .null, .null, .null, .null, .int 0, .int 0, .int 0, .int 0]))], (wC cyI C u w), (wC cyI TR tu tw)]) := hD
  refine lv_aload_n hx hb dX6_init_26 rfl (lv_at hl 0 rfl) ?_
  refine va_new (ci := 0) (fs := zX0) (C := RX0) (T := TX0) (N := 19) hx hb hts inT_X0 tyX0 tyX0_ok hown (hts _ wcl_RX6_7) (hts _ wis_RX0) (hts _ win_RX0) hK.1 hP hD hS hA rfl zX0_ok (Nat.le_of_ble_eq_true rfl) (Nat.le_of_ble_eq_true rfl) dX6_init_27 (fun p2 H hP hD hS => ?_)
  rw [flat_snoc] at hP hD
  refine lv_dup hx hb dX6_init_30 rfl ?_
  refine mkC (bl := [[(a, .inr (5, [.ref (C 0), .ref (TR 0), .null, .int 0, .null, .null, .null, .null, .int 0, .int 0, .int 0, .int 0]))], (wC cyI C u w), (wC cyI TR tu tw), [(p2, .inr (0, zX0))]]) (b := [(p2, .inr (0, zX0))]) (b0 := p2) (As := []) (rest := [.ref p2, .ref a]) hx hb hml hown hts hl.1 (kX0_init l D cyC cyI cyO p2) bI_X0_init (hts _ wml_RX6_9) ⟨rfl, rfl⟩ ⟨Nat.le_of_ble_eq_true rfl, Nat.le_of_ble_eq_true rfl, Nat.le_of_ble_eq_true rfl, Nat.le_of_ble_eq_true rfl⟩ 3 rfl hP hD hS hA hK hO rfl rfl (Nat.le_of_ble_eq_true rfl) dX6_init_31 (fun x2 H locs hc hP hD hS => ?_)
  obtain ⟨SN, su, sw⟩ := x2
  obtain ⟨e1, hc2⟩ := hc
  have e1 : SN 0 = p2 := e1
  subst e1
  have hP : va_P D vwCl (List.flatten [[(a, .inr (5, [.ref (C 0), .ref (TR 0), .null, .int 0, .null, .null, .null, .null, .int 0, .int 0, .int 0, .int 0]))], (wC cyI C u w), (wC cyI TR tu tw), (wC cyI SN su sw)]) H := hP
  have hD : va_D A0 (List.flatten [[(a, .inr (5, [.ref (C 0), .ref (TR 0), .null, .int 0, .null, .null, .null, .null, .int 0, .int 0, .int 0, .int 0]))], (wC cyI C u w), (wC cyI TR tu tw), (wC cyI SN su sw)]) := hD
  refine va_putF (D := D) (ci := 5) (v := .ref (SN 0)) (ty := .object "RoofOrdinances$City") (C := RX6) (T := TX6) (N := 12) hx hb hts inT_X6 tyX6 tyX6_ok nmX6 hown hK.1 hP hD hS 0 rfl rfl 2 (by decide) (hts _ wfl_RX6_19) (fun _ h9 => h9) rfl hin rfl (by decide +kernel) rfl rfl (Nat.le_of_ble_eq_true rfl) dX6_init_34 (fun H locs hP hD hS => ?_)
  have hP : va_P D vwCl (List.flatten [[(a, .inr (5, [.ref (C 0), .ref (TR 0), .ref (SN 0), .int 0, .null, .null, .null, .null, .int 0, .int 0, .int 0, .int 0]))], (wC cyI C u w), (wC cyI TR tu tw), (wC cyI SN su sw)]) H := hP
  have hD : va_D A0 (List.flatten [[(a, .inr (5, [.ref (C 0), .ref (TR 0), .ref (SN 0), .int 0, .null, .null, .null, .null, .int 0, .int 0, .int 0, .int 0]))], (wC cyI C u w), (wC cyI TR tu tw), (wC cyI SN su sw)]) := hD
  refine lv_aload_n hx hb dX6_init_37 rfl (lv_at hl 0 rfl) ?_
  refine va_new (ci := 1) (fs := zX1) (C := RX1) (T := TX1) (N := 2) hx hb hts inT_X1 tyX1 tyX1_ok hown (hts _ wcl_RX6_22) (hts _ wis_RX1) (hts _ win_RX1) hK.1 hP hD hS hA rfl zX1_ok (Nat.le_of_ble_eq_true rfl) (Nat.le_of_ble_eq_true rfl) dX6_init_38 (fun p3 H hP hD hS => ?_)
  rw [flat_snoc] at hP hD
  refine lv_dup hx hb dX6_init_41 rfl ?_
  refine mkC (bl := [[(a, .inr (5, [.ref (C 0), .ref (TR 0), .ref (SN 0), .int 0, .null, .null, .null, .null, .int 0, .int 0, .int 0, .int 0]))], (wC cyI C u w), (wC cyI TR tu tw), (wC cyI SN su sw), [(p3, .inr (1, zX1))]]) (b := [(p3, .inr (1, zX1))]) (b0 := p3) (As := []) (rest := [.ref p3, .ref a]) hx hb hml hown hts hl.1 (kX1_init l D cyC cyI cyO p3) bI_X1_init (hts _ wml_RX6_24) ⟨rfl, rfl⟩ ⟨Nat.le_of_ble_eq_true rfl, Nat.le_of_ble_eq_true rfl, Nat.le_of_ble_eq_true rfl, Nat.le_of_ble_eq_true rfl⟩ 4 rfl hP hD hS hA hK hO rfl rfl (Nat.le_of_ble_eq_true rfl) dX6_init_42 (fun x3 H locs hc hP hD hS => ?_)
  obtain ⟨HI, BB, h, v⟩ := x3
  obtain ⟨e1, hv1⟩ := hc
  have e1 : HI 0 = p3 := e1
  subst e1
  have hP : va_P D vwCl (List.flatten [[(a, .inr (5, [.ref (C 0), .ref (TR 0), .ref (SN 0), .int 0, .null, .null, .null, .null, .int 0, .int 0, .int 0, .int 0]))], (wC cyI C u w), (wC cyI TR tu tw), (wC cyI SN su sw), (wHM cyI cyO HI BB h 0 v)]) H := hP
  have hD : va_D A0 (List.flatten [[(a, .inr (5, [.ref (C 0), .ref (TR 0), .ref (SN 0), .int 0, .null, .null, .null, .null, .int 0, .int 0, .int 0, .int 0]))], (wC cyI C u w), (wC cyI TR tu tw), (wC cyI SN su sw), (wHM cyI cyO HI BB h 0 v)]) := hD
  refine va_putF (D := D) (ci := 5) (v := .ref (HI 0)) (ty := .object "RoofOrdinances$History") (C := RX6) (T := TX6) (N := 12) hx hb hts inT_X6 tyX6 tyX6_ok nmX6 hown hK.1 hP hD hS 0 rfl rfl 4 (by decide) (hts _ wfl_RX6_25) (fun _ h9 => h9) rfl hin rfl (by decide +kernel) rfl rfl (Nat.le_of_ble_eq_true rfl) dX6_init_45 (fun H locs hP hD hS => ?_)
  have hP : va_P D vwCl (List.flatten [[(a, .inr (5, [.ref (C 0), .ref (TR 0), .ref (SN 0), .int 0, .ref (HI 0), .null, .null, .null, .int 0, .int 0, .int 0, .int 0]))], (wC cyI C u w), (wC cyI TR tu tw), (wC cyI SN su sw), (wHM cyI cyO HI BB h 0 v)]) H := hP
  have hD : va_D A0 (List.flatten [[(a, .inr (5, [.ref (C 0), .ref (TR 0), .ref (SN 0), .int 0, .ref (HI 0), .null, .null, .null, .int 0, .int 0, .int 0, .int 0]))], (wC cyI C u w), (wC cyI TR tu tw), (wC cyI SN su sw), (wHM cyI cyO HI BB h 0 v)]) := hD
  refine lv_aload_n hx hb dX6_init_48 rfl (lv_at hl 0 rfl) ?_
  refine va_new (ci := 4) (fs := zX5) (C := RX5) (T := TX5) (N := 2) hx hb hts inT_X5 tyX5 tyX5_ok hown (hts _ wcl_RX6_29) (hts _ wis_RX5) (hts _ win_RX5) hK.1 hP hD hS hA rfl zX5_ok (Nat.le_of_ble_eq_true rfl) (Nat.le_of_ble_eq_true rfl) dX6_init_49 (fun p4 H hP hD hS => ?_)
  rw [flat_snoc] at hP hD
  refine lv_dup hx hb dX6_init_52 rfl ?_
  refine mkN (bl := [[(a, .inr (5, [.ref (C 0), .ref (TR 0), .ref (SN 0), .int 0, .ref (HI 0), .null, .null, .null, .int 0, .int 0, .int 0, .int 0]))], (wC cyI C u w), (wC cyI TR tu tw), (wC cyI SN su sw), (wHM cyI cyO HI BB h 0 v), [(p4, .inr (4, zX5))]]) (b := [(p4, .inr (4, zX5))]) (b0 := p4) (As := []) (rest := [.ref p4, .ref a]) hx hb hml hown hts hl.1 (kX5_init l D cyC cyI cyO p4) bI_X5_init hK.2.2.2.2.2.2.2.2.1 ⟨rfl, rfl⟩ ⟨Nat.le_of_ble_eq_true rfl, Nat.le_of_ble_eq_true rfl, Nat.le_of_ble_eq_true rfl, Nat.le_of_ble_eq_true rfl⟩ 5 rfl hP hD hS hA hK hO rfl rfl (Nat.le_of_ble_eq_true rfl) dX6_init_53 (fun x4 H locs hc hP hD hS => ?_)
  obtain ⟨Y, gg⟩ := x4
  have e1 := hc
  have e1 : Y 0 = p4 := e1
  subst e1
  have hP : va_P D vwCl (List.flatten [[(a, .inr (5, [.ref (C 0), .ref (TR 0), .ref (SN 0), .int 0, .ref (HI 0), .null, .null, .null, .int 0, .int 0, .int 0, .int 0]))], (wC cyI C u w), (wC cyI TR tu tw), (wC cyI SN su sw), (wHM cyI cyO HI BB h 0 v), (wWy cyI Y gg)]) H := hP
  have hD : va_D A0 (List.flatten [[(a, .inr (5, [.ref (C 0), .ref (TR 0), .ref (SN 0), .int 0, .ref (HI 0), .null, .null, .null, .int 0, .int 0, .int 0, .int 0]))], (wC cyI C u w), (wC cyI TR tu tw), (wC cyI SN su sw), (wHM cyI cyO HI BB h 0 v), (wWy cyI Y gg)]) := hD
  refine va_putF (D := D) (ci := 5) (v := .ref (Y 0)) (ty := .object "RoofOrdinances$Ways") (C := RX6) (T := TX6) (N := 12) hx hb hts inT_X6 tyX6 tyX6_ok nmX6 hown hK.1 hP hD hS 0 rfl rfl 5 (by decide) (hts _ wfl_RX6_32) (fun _ h9 => h9) rfl hin rfl (by decide +kernel) rfl rfl (Nat.le_of_ble_eq_true rfl) dX6_init_56 (fun H locs hP hD hS => ?_)
  have hP : va_P D vwCl (List.flatten [[(a, .inr (5, [.ref (C 0), .ref (TR 0), .ref (SN 0), .int 0, .ref (HI 0), .ref (Y 0), .null, .null, .int 0, .int 0, .int 0, .int 0]))], (wC cyI C u w), (wC cyI TR tu tw), (wC cyI SN su sw), (wHM cyI cyO HI BB h 0 v), (wWy cyI Y gg)]) H := hP
  have hD : va_D A0 (List.flatten [[(a, .inr (5, [.ref (C 0), .ref (TR 0), .ref (SN 0), .int 0, .ref (HI 0), .ref (Y 0), .null, .null, .int 0, .int 0, .int 0, .int 0]))], (wC cyI C u w), (wC cyI TR tu tw), (wC cyI SN su sw), (wHM cyI cyO HI BB h 0 v), (wWy cyI Y gg)]) := hD
  refine lv_aload_n hx hb dX6_init_59 rfl (lv_at hl 0 rfl) ?_
  refine va_new (ci := 3) (fs := zX3) (C := RX3) (T := TX3) (N := 2) hx hb hts inT_X3 tyX3 tyX3_ok hown (hts _ wcl_RX6_36) (hts _ wis_RX3) (hts _ win_RX3) hK.1 hP hD hS hA rfl zX3_ok (Nat.le_of_ble_eq_true rfl) (Nat.le_of_ble_eq_true rfl) dX6_init_60 (fun p5 H hP hD hS => ?_)
  rw [flat_snoc] at hP hD
  refine lv_dup hx hb dX6_init_63 rfl ?_
  refine mkN (bl := [[(a, .inr (5, [.ref (C 0), .ref (TR 0), .ref (SN 0), .int 0, .ref (HI 0), .ref (Y 0), .null, .null, .int 0, .int 0, .int 0, .int 0]))], (wC cyI C u w), (wC cyI TR tu tw), (wC cyI SN su sw), (wHM cyI cyO HI BB h 0 v), (wWy cyI Y gg), [(p5, .inr (3, zX3))]]) (b := [(p5, .inr (3, zX3))]) (b0 := p5) (As := []) (rest := [.ref p5, .ref a]) hx hb hml hown hts hl.1 (kX3_init l D cyC cyI cyO p5) bI_X3_init hK.2.2.2.2.2.2.2.2.2 ⟨rfl, rfl⟩ ⟨Nat.le_of_ble_eq_true rfl, Nat.le_of_ble_eq_true rfl, Nat.le_of_ble_eq_true rfl, Nat.le_of_ble_eq_true rfl⟩ 6 rfl hP hD hS hA hK hO rfl rfl (Nat.le_of_ble_eq_true rfl) dX6_init_64 (fun x5 H locs hc hP hD hS => ?_)
  obtain ⟨P, sg, pw⟩ := x5
  obtain ⟨e1, hsg, hpw⟩ := hc
  have e1 : P 0 = p5 := e1
  subst e1
  have hP : va_P D vwCl (List.flatten [[(a, .inr (5, [.ref (C 0), .ref (TR 0), .ref (SN 0), .int 0, .ref (HI 0), .ref (Y 0), .null, .null, .int 0, .int 0, .int 0, .int 0]))], (wC cyI C u w), (wC cyI TR tu tw), (wC cyI SN su sw), (wHM cyI cyO HI BB h 0 v), (wWy cyI Y gg), (wPd cyC P sg pw)]) H := hP
  have hD : va_D A0 (List.flatten [[(a, .inr (5, [.ref (C 0), .ref (TR 0), .ref (SN 0), .int 0, .ref (HI 0), .ref (Y 0), .null, .null, .int 0, .int 0, .int 0, .int 0]))], (wC cyI C u w), (wC cyI TR tu tw), (wC cyI SN su sw), (wHM cyI cyO HI BB h 0 v), (wWy cyI Y gg), (wPd cyC P sg pw)]) := hD
  refine va_putF (D := D) (ci := 5) (v := .ref (P 0)) (ty := .object "RoofOrdinances$Pad") (C := RX6) (T := TX6) (N := 12) hx hb hts inT_X6 tyX6 tyX6_ok nmX6 hown hK.1 hP hD hS 0 rfl rfl 6 (by decide) (hts _ wfl_RX6_39) (fun _ h9 => h9) rfl hin rfl (by decide +kernel) rfl rfl (Nat.le_of_ble_eq_true rfl) dX6_init_67 (fun H locs hP hD hS => ?_)
  have hP : va_P D vwCl (List.flatten [[(a, .inr (5, [.ref (C 0), .ref (TR 0), .ref (SN 0), .int 0, .ref (HI 0), .ref (Y 0), .ref (P 0), .null, .int 0, .int 0, .int 0, .int 0]))], (wC cyI C u w), (wC cyI TR tu tw), (wC cyI SN su sw), (wHM cyI cyO HI BB h 0 v), (wWy cyI Y gg), (wPd cyC P sg pw)]) H := hP
  have hD : va_D A0 (List.flatten [[(a, .inr (5, [.ref (C 0), .ref (TR 0), .ref (SN 0), .int 0, .ref (HI 0), .ref (Y 0), .ref (P 0), .null, .int 0, .int 0, .int 0, .int 0]))], (wC cyI C u w), (wC cyI TR tu tw), (wC cyI SN su sw), (wHM cyI cyO HI BB h 0 v), (wWy cyI Y gg), (wPd cyC P sg pw)]) := hD
  refine lv_aload_n hx hb dX6_init_70 rfl (lv_at hl 0 rfl) ?_
  refine va_new (ci := 2) (fs := zX2) (C := RX2) (T := TX2) (N := 6) hx hb hts inT_X2 tyX2 tyX2_ok hown (hts _ wcl_RX6_43) (hts _ wis_RX2) (hts _ win_RX2) hK.1 hP hD hS hA rfl zX2_ok (Nat.le_of_ble_eq_true rfl) (Nat.le_of_ble_eq_true rfl) dX6_init_71 (fun p6 H hP hD hS => ?_)
  rw [flat_snoc] at hP hD
  refine lv_dup hx hb dX6_init_74 rfl ?_
  refine lv_aload_n hx hb dX6_init_75 rfl (lv_at hl 0 rfl) ?_
  refine va_get (D := D) (ci := 5) (v := .ref (P 0)) (C := RX6) (T := TX6) (N := 12) hx hb hts inT_X6 hown hK.1 hP 0 rfl rfl 6 (by decide) (hts _ wfl_RX6_39) (fun _ h9 => h9) rfl dX6_init_76 ?_
  refine mkC (bl := [[(a, .inr (5, [.ref (C 0), .ref (TR 0), .ref (SN 0), .int 0, .ref (HI 0), .ref (Y 0), .ref (P 0), .null, .int 0, .int 0, .int 0, .int 0]))], (wC cyI C u w), (wC cyI TR tu tw), (wC cyI SN su sw), (wHM cyI cyO HI BB h 0 v), (wWy cyI Y gg), (wPd cyC P sg pw), [(p6, .inr (2, zX2))]]) (b := [(p6, .inr (2, zX2))]) (b0 := p6) (As := [.ref (P 0)]) (rest := [.ref p6, .ref a]) hx hb hml hown hts hl.1 (kX2_init l D cyC cyI cyO P p6) bI_X2_init (hts _ wml_RX6_45) ⟨rfl, rfl⟩ ⟨Nat.le_of_ble_eq_true rfl, Nat.le_of_ble_eq_true rfl, Nat.le_of_ble_eq_true rfl, Nat.le_of_ble_eq_true rfl⟩ 7 rfl hP hD hS hA hK hO rfl rfl (Nat.le_of_ble_eq_true rfl) dX6_init_79 (fun x6 H locs hc hP hD hS => ?_)
  obtain ⟨R, rd⟩ := x6
  have e1 := hc
  have e1 : R 0 = p6 := e1
  subst e1
  have hP : va_P D vwCl (List.flatten [[(a, .inr (5, [.ref (C 0), .ref (TR 0), .ref (SN 0), .int 0, .ref (HI 0), .ref (Y 0), .ref (P 0), .null, .int 0, .int 0, .int 0, .int 0]))], (wC cyI C u w), (wC cyI TR tu tw), (wC cyI SN su sw), (wHM cyI cyO HI BB h 0 v), (wWy cyI Y gg), (wPd cyC P sg pw), (wRd R P rd)]) H := hP
  have hD : va_D A0 (List.flatten [[(a, .inr (5, [.ref (C 0), .ref (TR 0), .ref (SN 0), .int 0, .ref (HI 0), .ref (Y 0), .ref (P 0), .null, .int 0, .int 0, .int 0, .int 0]))], (wC cyI C u w), (wC cyI TR tu tw), (wC cyI SN su sw), (wHM cyI cyO HI BB h 0 v), (wWy cyI Y gg), (wPd cyC P sg pw), (wRd R P rd)]) := hD
  refine va_putF (D := D) (ci := 5) (v := .ref (R 0)) (ty := .object "RoofOrdinances$OrderReader") (C := RX6) (T := TX6) (N := 12) hx hb hts inT_X6 tyX6 tyX6_ok nmX6 hown hK.1 hP hD hS 0 rfl rfl 7 (by decide) (hts _ wfl_RX6_48) (fun _ h9 => h9) rfl hin rfl (by decide +kernel) rfl rfl (Nat.le_of_ble_eq_true rfl) dX6_init_82 (fun H locs hP hD hS => ?_)
  have hP : va_P D vwCl (List.flatten [[(a, .inr (5, [.ref (C 0), .ref (TR 0), .ref (SN 0), .int 0, .ref (HI 0), .ref (Y 0), .ref (P 0), .ref (R 0), .int 0, .int 0, .int 0, .int 0]))], (wC cyI C u w), (wC cyI TR tu tw), (wC cyI SN su sw), (wHM cyI cyO HI BB h 0 v), (wWy cyI Y gg), (wPd cyC P sg pw), (wRd R P rd)]) H := hP
  have hD : va_D A0 (List.flatten [[(a, .inr (5, [.ref (C 0), .ref (TR 0), .ref (SN 0), .int 0, .ref (HI 0), .ref (Y 0), .ref (P 0), .ref (R 0), .int 0, .int 0, .int 0, .int 0]))], (wC cyI C u w), (wC cyI TR tu tw), (wC cyI SN su sw), (wHM cyI cyO HI BB h 0 v), (wWy cyI Y gg), (wPd cyC P sg pw), (wRd R P rd)]) := hD
  have hP9 := bl_sub (bl := [[(a, .inr (5, [.ref (C 0), .ref (TR 0), .ref (SN 0), .int 0, .ref (HI 0), .ref (Y 0), .ref (P 0), .ref (R 0), .int 0, .int 0, .int 0, .int 0]))], (wC cyI C u w), (wC cyI TR tu tw), (wC cyI SN su sw), (wHM cyI cyO HI BB h 0 v), (wWy cyI Y gg), (wPd cyC P sg pw), (wRd R P rd)]) (WSb := [[(a, .inr (5, [.ref (C 0), .ref (TR 0), .ref (SN 0), .int 0, .ref (HI 0), .ref (Y 0), .ref (P 0), .ref (R 0), .int 0, .int 0, .int 0, .int 0]))], (wPd cyC P sg pw), (wRd R P rd), (wC cyI C u w), (wHM cyI cyO HI BB h 0 v), (wC cyI TR tu tw), (wC cyI SN su sw), (wWy cyI Y gg)]) [0, 6, 7, 1, 4, 2, 3, 5] rfl hP
  have hD9 := bl_subD (bl := [[(a, .inr (5, [.ref (C 0), .ref (TR 0), .ref (SN 0), .int 0, .ref (HI 0), .ref (Y 0), .ref (P 0), .ref (R 0), .int 0, .int 0, .int 0, .int 0]))], (wC cyI C u w), (wC cyI TR tu tw), (wC cyI SN su sw), (wHM cyI cyO HI BB h 0 v), (wWy cyI Y gg), (wPd cyC P sg pw), (wRd R P rd)]) (WSb := [[(a, .inr (5, [.ref (C 0), .ref (TR 0), .ref (SN 0), .int 0, .ref (HI 0), .ref (Y 0), .ref (P 0), .ref (R 0), .int 0, .int 0, .int 0, .int 0]))], (wPd cyC P sg pw), (wRd R P rd), (wC cyI C u w), (wHM cyI cyO HI BB h 0 v), (wC cyI TR tu tw), (wC cyI SN su sw), (wWy cyI Y gg)]) [0, 6, 7, 1, 4, 2, 3, 5] rfl rfl hD
  refine W.widen (k := 71) (n := 1137) (by omega) (by omega) ?_
  exact W.vret hx hb hr (fun t ht hW => ⟨⟨((fun k => [(fun _ => a), C, TR, SN, HI, Y, P, R].getD k (fun _ => 0)), BB, (fun k => [(fun _ => 0), pw, rd, w, v, tw, sw].getD k (fun _ => 0)), (fun k => [sg, u, tu, su, gg].getD k (fun _ _ => 0)), h), ⟨rfl, rfl, rfl, hsg, hpw, hc0, hv1⟩, rfl, by rw [ht]; exact hP9, hD9⟩, hS.F ht⟩) hS.2.2 dX6_init_85
