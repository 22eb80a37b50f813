theorem vaP_cgq {D : va_G} {cl : List vw_C} {ws : va_W} {H : Heap} {a n : Nat} {cI : ClassId} {f g : Nat → Option Nat} (q : Nat) (h : va_P D cl ws H) (hq : ws[q]? = some (a, .inl (cI, n, .inr (.inr (.inr (.inr f)))))) (hfg : ∀ j : Nat, j < n → f j = g j) : va_P D cl (ws.set q (a, .inl (cI, n, .inr (.inr (.inr (.inr g)))))) H := by
  have hl := (List.getElem?_eq_some_iff.mp hq).1
  have e : vp_cell cI (n, .inr (.inr (.inr (.inr f)))) = vp_cell cI (n, .inr (.inr (.inr (.inr g)))) := by
    have e2 : (fun j : Fin n => va_rf (f j.val)) = (fun j : Fin n => va_rf (g j.val)) := funext fun j => by rw [hfg j.1 j.2]
    simp only [vp_cell, arrV, e2]
  intro k p hk
  by_cases hkq : k = q
  · subst hkq
    rw [List.getElem?_set_self hl] at hk
    cases hk
    have h1 : H[a]? = some (vp_cell cI (n, .inr (.inr (.inr (.inr f))))) := h k _ hq
    show H[a]? = some (vp_cell cI (n, .inr (.inr (.inr (.inr g)))))
    rw [h1, e]
  · rw [List.getElem?_set_ne (Ne.symm hkq)] at hk
    exact h k p hk
def pX1_push (f : (Nat → Option Nat)) (v : (Nat → Int32)) (u0 : (Nat → Nat → Int32)) (w0 : (Nat → Int32)) (u1 : (Nat → Nat → Int32)) (w1 : (Nat → Int32)) (u2 : (Nat → Nat → Int32)) (w2 : (Nat → Int32)) (u3 : (Nat → Nat → Int32)) (w3 : (Nat → Int32)) (u : (Nat → Nat → Int32)) (w : (Nat → Int32)) (f2 : Nat → Option Nat) : (Nat → Option Nat) × (Nat → Int32) × (Nat → Nat → Int32) × (Nat → Int32) := (f2, (va_up v 1 (if 4 < ((v 1) + (1 : Int32)) then 4 else ((v 1) + (1 : Int32)))), (pX0_copyFrom u3 w3 u w).1, (pX0_copyFrom u3 w3 u w).2)
set_option maxHeartbeats 4000000 in
set_option maxRecDepth 100000 in
theorem kX1_push (l : Launch) (D : va_G) (cyC cyI cyO : ClassId) (A : Nat → Nat) (B0 : Nat → Nat) (B1 : Nat → Nat) (B2 : Nat → Nat) (B3 : Nat → Nat) (C : Nat → Nat) (f : (Nat → Option Nat)) (v : (Nat → Int32)) (u0 : (Nat → Nat → Int32)) (w0 : (Nat → Int32)) (u1 : (Nat → Nat → Int32)) (w1 : (Nat → Int32)) (u2 : (Nat → Nat → Int32)) (w2 : (Nat → Int32)) (u3 : (Nat → Nat → Int32)) (w3 : (Nat → Int32)) (u : (Nat → Nat → Int32)) (w : (Nat → Int32)) (f2 : Nat → Option Nat) (hf0 : f 0 = some (B0 0)) (hf1 : f 1 = some (B1 0)) (hf2 : f 2 = some (B2 0)) (hf3 : f 3 = some (B3 0)) (hg0 : f2 0 = some (B3 0)) (hg1 : f2 1 = some (B0 0)) (hg2 : f2 2 = some (B1 0)) (hg3 : f2 3 = some (B2 0)) : MU l yX1_push (Ty yX1_push cX1_push 4 none) ({ frames := 2, cells := 0, slots := 0, locals := 61 } : Room) D cyC cyI cyO (List.flatten [wHi cyO A f v, wC cyI B0 u0 w0, wC cyI B1 u1 w1, wC cyI B2 u2 w2, wC cyI B3 u3 w3, wC cyI C u w]) [.ref (A 0), .ref (C 0)] none (List.flatten [wHi cyO A (pX1_push f v u0 w0 u1 w1 u2 w2 u3 w3 u w f2).1 (pX1_push f v u0 w0 u1 w1 u2 w2 u3 w3 u w f2).2.1, wC cyI B0 u0 w0, wC cyI B1 u1 w1, wC cyI B2 u2 w2, wC cyI B3 (pX1_push f v u0 w0 u1 w1 u2 w2 u3 w3 u w f2).2.2.1 (pX1_push f v u0 w0 u1 w1 u2 w2 u3 w3 u w f2).2.2.2, wC cyI C u w]) := by
  intro sz
  refine Met.ofW (cc := cX1_push) (maxL := 4) (ret := none) (by decide) rfl ?_
  intro p e s m args below meth cd s₁ B hml hv
  obtain ⟨rfl, hsz, hP, hK, hD0⟩ := hv
  have hx := B.exec
  have hb := B.bytes
  have hr := B.returns
  have hts : ∀ w ∈ TB, w.before ([.ref (A 0), .ref (C 0)] : List Value).toArray s = true := fun w h => atoms_spec (ws := (Ty yX1_push cX1_push 4 none)) B.pre w (List.mem_cons_of_mem _ h)
  have hown : s.vm.findClass RX1 = some m.cls := findClass_of_methodNamed B.named
  have hlocks := B.notSynchronized
  subst hsz
  have hD := hD0.self (sz := s.heap.size)
  have hA : ∀ q : Nat, s.heap.size ≤ q → (va_A (List.flatten [wHi cyO A f v, wC cyI B0 u0 w0, wC cyI B1 u1 w1, wC cyI B2 u2 w2, wC cyI B3 u3 w3, wC cyI C u w]) s.heap.size) q := fun q h => Or.inr h
  generalize hAe : va_A (List.flatten [wHi cyO A f v, wC cyI B0 u0 w0, wC cyI B1 u1 w1, wC cyI B2 u2 w2, wC cyI B3 u3 w3, wC cyI C u w]) s.heap.size = A0 at hD hA ⊢
  have hS : va_S A0 s.heap s.heap [] := va_S.rf
  have hl := lv_entry ([.ref (A 0), .ref (C 0)]) (n := 4) (Nat.le_of_ble_eq_true rfl)
  rw [lg_entry_eq]
  generalize (lg_sl ([.ref (A 0), .ref (C 0)]) ++ List.replicate (4 - (lg_sl ([.ref (A 0), .ref (C 0)])).length) Slot.unset).toArray = ls at hl ⊢
  have hl : lv_has ls 4 [(0, .ref (A 0)), (1, .ref (C 0))] := hl
  refine lv_aload_n hx hb dX1_push_0 rfl (lv_at hl 0 rfl) ?_
  refine va_get (D := D) (ci := 1) (v := .ref (A 1)) (C := RX1) (T := TX1) (N := 2) hx hb hts inT_X1 hown hK.1 hP 0 rfl rfl 0 (by decide) (hts _ wfl_RX1_11) (fun _ h9 => h9) rfl dX1_push_1 ?_
  refine lv_iconst (v := 3) hx hb dX1_push_4 (by decide) ?_
  refine va_aldq (D := D) (f := f) hx hb hK.1 hP 1 2 rfl rfl (vp_lit (by decide)) dX1_push_5 ?_
  refine W.eq (g2 := F0 m _ ls [.ref (B3 0)]) (congrArg (fun q => F0 m _ ls (va_rf q :: [])) hf3) ?_
  refine lv_astore_n (lv' := [(2, .ref (B3 0)), (0, .ref (A 0)), (1, .ref (C 0))]) hx hb dX1_push_6 rfl hl (by decide) rfl (fun ls hl => ?_)
  refine lv_iconst (v := 3) hx hb dX1_push_7 (by decide) ?_
  refine lv_istore_n (lv' := [(3, .int 3), (2, .ref (B3 0)), (0, .ref (A 0)), (1, .ref (C 0))]) hx hb dX1_push_8 rfl hl (by decide) rfl (fun ls hl => ?_)
  refine lv_iload_n hx hb dX1_push_9 rfl (lv_at hl 0 rfl) ?_
  refine lv_if_le (tgt := 33) hx hb dX1_push_10 (by decide) (fun c_1 => absurd c_1 (by decide)) (fun c_1 => ?_)
  refine lv_aload_n hx hb dX1_push_13 rfl (lv_at hl 2 rfl) ?_
  refine va_get (D := D) (ci := 1) (v := .ref (A 1)) (C := RX1) (T := TX1) (N := 2) hx hb hts inT_X1 hown hK.1 hP 0 rfl rfl 0 (by decide) (hts _ wfl_RX1_11) (fun _ h9 => h9) rfl dX1_push_14 ?_
  refine lv_iload_n hx hb dX1_push_17 rfl (lv_at hl 0 rfl) ?_
  refine lv_aload_n hx hb dX1_push_18 rfl (lv_at hl 2 rfl) ?_
  refine va_get (D := D) (ci := 1) (v := .ref (A 1)) (C := RX1) (T := TX1) (N := 2) hx hb hts inT_X1 hown hK.1 hP 0 rfl rfl 0 (by decide) (hts _ wfl_RX1_11) (fun _ h9 => h9) rfl dX1_push_19 ?_
  refine lv_iload_n hx hb dX1_push_22 rfl (lv_at hl 0 rfl) ?_
  refine lv_iconst (v := 1) hx hb dX1_push_23 (by decide) ?_
  refine lv_isub hx hb dX1_push_24 ?_
  refine W.eq (g2 := F0 m _ ls [.int 2, .ref (A 1), .int 3, .ref (A 1)]) rfl ?_
  refine va_aldq (D := D) (f := f) hx hb hK.1 hP 1 2 rfl rfl (vp_lit (by decide)) dX1_push_25 ?_
  refine W.eq (g2 := F0 m _ ls [.ref (B2 0), .int 3, .ref (A 1)]) (congrArg (fun q => F0 m _ ls (va_rf q :: [.int 3, .ref (A 1)])) hf2) ?_
  refine va_astq (D := D) (f := f) (r := (RX0, TX0, 19)) hx hb hK.1 hP hD hS 1 2 20 0 rfl rfl rfl rfl (vp_lit (by decide)) dX1_push_26 (fun H locs hP hD hS => ?_)
  have hP : va_P D vwCl (List.flatten [wHi cyO A (va_up f 3 (some (B2 0))) v, wC cyI B0 u0 w0, wC cyI B1 u1 w1, wC cyI B2 u2 w2, wC cyI B3 u3 w3, wC cyI C u w]) H := hP
  have hD : va_D A0 (List.flatten [wHi cyO A (va_up f 3 (some (B2 0))) v, wC cyI B0 u0 w0, wC cyI B1 u1 w1, wC cyI B2 u2 w2, wC cyI B3 u3 w3, wC cyI C u w]) := hD
  refine lv_iinc (v := 2) (lv' := [(3, .int 2), (2, .ref (B3 0)), (0, .ref (A 0)), (1, .ref (C 0))]) hx hb dX1_push_27 hl (k := 0) rfl (by decide) (by decide) rfl (fun ls hl => ?_)
  refine lv_goto (tgt := 9) hx hb dX1_push_30 (by decide) ?_
  refine lv_iload_n hx hb dX1_push_9 rfl (lv_at hl 0 rfl) ?_
  refine lv_if_le (tgt := 33) hx hb dX1_push_10 (by decide) (fun c_2 => absurd c_2 (by decide)) (fun c_2 => ?_)
  refine lv_aload_n hx hb dX1_push_13 rfl (lv_at hl 2 rfl) ?_
  refine va_get (D := D) (ci := 1) (v := .ref (A 1)) (C := RX1) (T := TX1) (N := 2) hx hb hts inT_X1 hown hK.1 hP 0 rfl rfl 0 (by decide) (hts _ wfl_RX1_11) (fun _ h9 => h9) rfl dX1_push_14 ?_
  refine lv_iload_n hx hb dX1_push_17 rfl (lv_at hl 0 rfl) ?_
  refine lv_aload_n hx hb dX1_push_18 rfl (lv_at hl 2 rfl) ?_
  refine va_get (D := D) (ci := 1) (v := .ref (A 1)) (C := RX1) (T := TX1) (N := 2) hx hb hts inT_X1 hown hK.1 hP 0 rfl rfl 0 (by decide) (hts _ wfl_RX1_11) (fun _ h9 => h9) rfl dX1_push_19 ?_
  refine lv_iload_n hx hb dX1_push_22 rfl (lv_at hl 0 rfl) ?_
  refine lv_iconst (v := 1) hx hb dX1_push_23 (by decide) ?_
  refine lv_isub hx hb dX1_push_24 ?_
  refine W.eq (g2 := F0 m _ ls [.int 1, .ref (A 1), .int 2, .ref (A 1)]) rfl ?_
  refine va_aldq (D := D) (f := (va_up f 3 (some (B2 0)))) hx hb hK.1 hP 1 2 rfl rfl (vp_lit (by decide)) dX1_push_25 ?_
  refine W.eq (g2 := F0 m _ ls [.ref (B1 0), .int 2, .ref (A 1)]) (congrArg (fun q => F0 m _ ls (va_rf q :: [.int 2, .ref (A 1)])) hf1) ?_
  refine va_astq (D := D) (f := (va_up f 3 (some (B2 0)))) (r := (RX0, TX0, 19)) hx hb hK.1 hP hD hS 1 2 11 0 rfl rfl rfl rfl (vp_lit (by decide)) dX1_push_26 (fun H locs hP hD hS => ?_)
  have hP : va_P D vwCl (List.flatten [wHi cyO A (va_up (va_up f 3 (some (B2 0))) 2 (some (B1 0))) v, wC cyI B0 u0 w0, wC cyI B1 u1 w1, wC cyI B2 u2 w2, wC cyI B3 u3 w3, wC cyI C u w]) H := hP
  have hD : va_D A0 (List.flatten [wHi cyO A (va_up (va_up f 3 (some (B2 0))) 2 (some (B1 0))) v, wC cyI B0 u0 w0, wC cyI B1 u1 w1, wC cyI B2 u2 w2, wC cyI B3 u3 w3, wC cyI C u w]) := hD
  refine lv_iinc (v := 1) (lv' := [(3, .int 1), (2, .ref (B3 0)), (0, .ref (A 0)), (1, .ref (C 0))]) hx hb dX1_push_27 hl (k := 0) rfl (by decide) (by decide) rfl (fun ls hl => ?_)
  refine lv_goto (tgt := 9) hx hb dX1_push_30 (by decide) ?_
  refine lv_iload_n hx hb dX1_push_9 rfl (lv_at hl 0 rfl) ?_
  refine lv_if_le (tgt := 33) hx hb dX1_push_10 (by decide) (fun c_3 => absurd c_3 (by decide)) (fun c_3 => ?_)
  refine lv_aload_n hx hb dX1_push_13 rfl (lv_at hl 2 rfl) ?_
  refine va_get (D := D) (ci := 1) (v := .ref (A 1)) (C := RX1) (T := TX1) (N := 2) hx hb hts inT_X1 hown hK.1 hP 0 rfl rfl 0 (by decide) (hts _ wfl_RX1_11) (fun _ h9 => h9) rfl dX1_push_14 ?_
  refine lv_iload_n hx hb dX1_push_17 rfl (lv_at hl 0 rfl) ?_
  refine lv_aload_n hx hb dX1_push_18 rfl (lv_at hl 2 rfl) ?_
  refine va_get (D := D) (ci := 1) (v := .ref (A 1)) (C := RX1) (T := TX1) (N := 2) hx hb hts inT_X1 hown hK.1 hP 0 rfl rfl 0 (by decide) (hts _ wfl_RX1_11) (fun _ h9 => h9) rfl dX1_push_19 ?_
  refine lv_iload_n hx hb dX1_push_22 rfl (lv_at hl 0 rfl) ?_
  refine lv_iconst (v := 1) hx hb dX1_push_23 (by decide) ?_
  refine lv_isub hx hb dX1_push_24 ?_
  refine W.eq (g2 := F0 m _ ls [.int 0, .ref (A 1), .int 1, .ref (A 1)]) rfl ?_
  refine va_aldq (D := D) (f := (va_up (va_up f 3 (some (B2 0))) 2 (some (B1 0)))) hx hb hK.1 hP 1 2 rfl rfl (vp_lit (by decide)) dX1_push_25 ?_
  refine W.eq (g2 := F0 m _ ls [.ref (B0 0), .int 1, .ref (A 1)]) (congrArg (fun q => F0 m _ ls (va_rf q :: [.int 1, .ref (A 1)])) hf0) ?_
  refine va_astq (D := D) (f := (va_up (va_up f 3 (some (B2 0))) 2 (some (B1 0)))) (r := (RX0, TX0, 19)) hx hb hK.1 hP hD hS 1 2 2 0 rfl rfl rfl rfl (vp_lit (by decide)) dX1_push_26 (fun H locs hP hD hS => ?_)
  have hP : va_P D vwCl (List.flatten [wHi cyO A (va_up (va_up (va_up f 3 (some (B2 0))) 2 (some (B1 0))) 1 (some (B0 0))) v, wC cyI B0 u0 w0, wC cyI B1 u1 w1, wC cyI B2 u2 w2, wC cyI B3 u3 w3, wC cyI C u w]) H := hP
  have hD : va_D A0 (List.flatten [wHi cyO A (va_up (va_up (va_up f 3 (some (B2 0))) 2 (some (B1 0))) 1 (some (B0 0))) v, wC cyI B0 u0 w0, wC cyI B1 u1 w1, wC cyI B2 u2 w2, wC cyI B3 u3 w3, wC cyI C u w]) := hD
  refine lv_iinc (v := 0) (lv' := [(3, .int 0), (2, .ref (B3 0)), (0, .ref (A 0)), (1, .ref (C 0))]) hx hb dX1_push_27 hl (k := 0) rfl (by decide) (by decide) rfl (fun ls hl => ?_)
  refine lv_goto (tgt := 9) hx hb dX1_push_30 (by decide) ?_
  refine lv_iload_n hx hb dX1_push_9 rfl (lv_at hl 0 rfl) ?_
  refine lv_if_le (tgt := 33) hx hb dX1_push_10 (by decide) (fun c_4 => ?_) (fun c_4 => absurd (by decide) c_4)
  refine lv_aload_n hx hb dX1_push_33 rfl (lv_at hl 2 rfl) ?_
  refine va_get (D := D) (ci := 1) (v := .ref (A 1)) (C := RX1) (T := TX1) (N := 2) hx hb hts inT_X1 hown hK.1 hP 0 rfl rfl 0 (by decide) (hts _ wfl_RX1_11) (fun _ h9 => h9) rfl dX1_push_34 ?_
  refine lv_iconst (v := 0) hx hb dX1_push_37 (by decide) ?_
  refine lv_aload_n hx hb dX1_push_38 rfl (lv_at hl 1 rfl) ?_
  refine va_astq (D := D) (f := (va_up (va_up (va_up f 3 (some (B2 0))) 2 (some (B1 0))) 1 (some (B0 0)))) (r := (RX0, TX0, 19)) hx hb hK.1 hP hD hS 1 2 29 0 rfl rfl rfl rfl (vp_lit (by decide)) dX1_push_39 (fun H locs hP hD hS => ?_)
  have hP : va_P D vwCl (List.flatten [wHi cyO A (va_up (va_up (va_up (va_up f 3 (some (B2 0))) 2 (some (B1 0))) 1 (some (B0 0))) 0 (some (B3 0))) v, wC cyI B0 u0 w0, wC cyI B1 u1 w1, wC cyI B2 u2 w2, wC cyI B3 u3 w3, wC cyI C u w]) H := hP
  have hD : va_D A0 (List.flatten [wHi cyO A (va_up (va_up (va_up (va_up f 3 (some (B2 0))) 2 (some (B1 0))) 1 (some (B0 0))) 0 (some (B3 0))) v, wC cyI B0 u0 w0, wC cyI B1 u1 w1, wC cyI B2 u2 w2, wC cyI B3 u3 w3, wC cyI C u w]) := hD
  refine lv_aload_n hx hb dX1_push_40 rfl (lv_at hl 1 rfl) ?_
  refine lv_ifnull hx hb dX1_push_41 ?_
  refine lv_aload_n hx hb dX1_push_44 rfl (lv_at hl 1 rfl) ?_
  refine lv_aload_n hx hb dX1_push_45 rfl (lv_at hl 3 rfl) ?_
  obtain ⟨z_5, hz_5⟩ : ∃ q, q = (pX0_copyFrom u3 w3 u w) := ⟨_, rfl⟩
  refine mVB (bl := [wHi cyO A (va_up (va_up (va_up (va_up f 3 (some (B2 0))) 2 (some (B1 0))) 1 (some (B0 0))) 0 (some (B3 0))) v, wC cyI B0 u0 w0, wC cyI B1 u1 w1, wC cyI B2 u2 w2, wC cyI B3 u3 w3, wC cyI C u w]) (bl' := [wHi cyO A (va_up (va_up (va_up (va_up f 3 (some (B2 0))) 2 (some (B1 0))) 1 (some (B0 0))) 0 (some (B3 0))) v, wC cyI B0 u0 w0, wC cyI B1 u1 w1, wC cyI B2 u2 w2, wC cyI B3 z_5.1 z_5.2, wC cyI C u w]) (WSb := [wC cyI B3 u3 w3, wC cyI C u w]) (WSb' := [wC cyI B3 z_5.1 z_5.2, wC cyI C u w]) (As := [.ref (C 0)]) (rest := []) hx hb hml hown hts hl.1 (WS := (wC cyI B3 u3 w3 ++ (wC cyI C u w))) (WS' := (wC cyI B3 z_5.1 z_5.2 ++ (wC cyI C u w))) (ro := none) (by rw [hz_5]; exact kX0_copyFrom l D cyC cyI cyO B3 C u3 w3 u w) bV_X0_copyFrom wml_RX1_18 ⟨rfl, rfl⟩ ⟨Nat.le_of_ble_eq_true rfl, Nat.le_of_ble_eq_true rfl, Nat.zero_le _, Nat.zero_le _⟩ [4, 5] (by simp only [List.flatten_cons, List.flatten_nil, List.append_nil]) (by simp only [List.flatten_cons, List.flatten_nil, List.append_nil]) rfl rfl rfl rfl rfl hP hD hS hA hK 0 rfl rfl rfl rfl rfl (Nat.le_of_ble_eq_true rfl) dX1_push_46 (fun H locs hP hD hS => ?_)
  refine lv_aload_n hx hb dX1_push_49 rfl (lv_at hl 2 rfl) ?_
  refine lv_aload_n hx hb dX1_push_50 rfl (lv_at hl 2 rfl) ?_
  refine va_get (D := D) (ci := 1) (v := .int (v 1)) (C := RX1) (T := TX1) (N := 2) hx hb hts inT_X1 hown hK.1 hP 0 rfl rfl 1 (by decide) (hts _ wfl_RX1_22) (fun _ h9 => h9) rfl dX1_push_51 ?_
  refine lv_iconst (v := 1) hx hb dX1_push_54 (by decide) ?_
  refine lv_iadd hx hb dX1_push_55 ?_
  refine lv_iconst (v := 4) hx hb dX1_push_56 (by decide) ?_
  refine va_mmin hx hb (hml.trans hl.1.symm) hown (hts _ wml_RX1_26) (hts _ wst_J9_min_7cf53) (hts _ win_RJ9) (hts _ wcd_J9_min_7cf53) (Nat.le_of_ble_eq_true rfl) (Nat.le_of_ble_eq_true rfl) (Nat.zero_le _) (Nat.zero_le _) dX1_push_57 ?_
  refine va_put (D := D) (ci := 1) (v := .int (if 4 < ((v 1) + (1 : Int32)) then 4 else ((v 1) + (1 : Int32)))) (ty := .int) (C := RX1) (T := TX1) (N := 2) hx hb hts inT_X1 tyX1 tyX1_ok nmX1 hown hK.1 hP hD hS 0 rfl rfl 1 (by decide) (hts _ wfl_RX1_22) (fun _ h9 => h9) rfl (by decide +kernel) (by rfl) rfl (Nat.le_of_ble_eq_true rfl) dX1_push_60 (fun H locs hP hD hS => ?_)
  have hP : va_P D vwCl (List.flatten [wHi cyO A (va_up (va_up (va_up (va_up f 3 (some (B2 0))) 2 (some (B1 0))) 1 (some (B0 0))) 0 (some (B3 0))) (va_up v 1 (if 4 < ((v 1) + (1 : Int32)) then 4 else ((v 1) + (1 : Int32)))), wC cyI B0 u0 w0, wC cyI B1 u1 w1, wC cyI B2 u2 w2, wC cyI B3 z_5.1 z_5.2, wC cyI C u w]) H := hP
  have hD : va_D A0 (List.flatten [wHi cyO A (va_up (va_up (va_up (va_up f 3 (some (B2 0))) 2 (some (B1 0))) 1 (some (B0 0))) 0 (some (B3 0))) (va_up v 1 (if 4 < ((v 1) + (1 : Int32)) then 4 else ((v 1) + (1 : Int32)))), wC cyI B0 u0 w0, wC cyI B1 u1 w1, wC cyI B2 u2 w2, wC cyI B3 z_5.1 z_5.2, wC cyI C u w]) := hD
  have hP := vaP_cgq (g := f2) 1 hP rfl (fun j hj => by rcases (show j = 0 ∨ j = 1 ∨ j = 2 ∨ j = 3 by omega) with rfl | rfl | rfl | rfl <;> first | exact hg0.symm | exact hg1.symm | exact hg2.symm | exact hg3.symm)
  have hP : va_P D vwCl (List.flatten [wHi cyO A f2 (va_up v 1 (if 4 < ((v 1) + (1 : Int32)) then 4 else ((v 1) + (1 : Int32)))), wC cyI B0 u0 w0, wC cyI B1 u1 w1, wC cyI B2 u2 w2, wC cyI B3 z_5.1 z_5.2, wC cyI C u w]) H := hP
  have e9 : (pX1_push f v u0 w0 u1 w1 u2 w2 u3 w3 u w f2) = (f2, (va_up v 1 (if 4 < ((v 1) + (1 : Int32)) then 4 else ((v 1) + (1 : Int32)))), z_5.1, z_5.2) := by simp only [pX1_push, ← hz_5]
  have e9_0 : (pX1_push f v u0 w0 u1 w1 u2 w2 u3 w3 u w f2).1 = f2 := by rw [e9]
  have e9_1 : (pX1_push f v u0 w0 u1 w1 u2 w2 u3 w3 u w f2).2.1 = (va_up v 1 (if 4 < ((v 1) + (1 : Int32)) then 4 else ((v 1) + (1 : Int32)))) := by rw [e9]
  have e9_2 : (pX1_push f v u0 w0 u1 w1 u2 w2 u3 w3 u w f2).2.2.1 = z_5.1 := by rw [e9]
  have e9_3 : (pX1_push f v u0 w0 u1 w1 u2 w2 u3 w3 u w f2).2.2.2 = z_5.2 := by rw [e9]
  exact W.vret hx hb hr (fun t ht hW => ⟨⟨rfl, by rw [e9_0, e9_1, e9_2, e9_3, ht]; exact hP⟩, hS.F ht⟩) hS.2.2 dX1_push_63
theorem bV_X1_push : BV RX1 yX1_push cX1_push 4 none 1 := ⟨wcd_X1_push, wim_X1_push, wse_X1_push, win_RX1, by decide +kernel⟩
def pX1_popInto (f : (Nat → Option Nat)) (v : (Nat → Int32)) (u0 : (Nat → Nat → Int32)) (w0 : (Nat → Int32)) (u1 : (Nat → Nat → Int32)) (w1 : (Nat → Int32)) (u2 : (Nat → Nat → Int32)) (w2 : (Nat → Int32)) (u3 : (Nat → Nat → Int32)) (w3 : (Nat → Int32)) (u : (Nat → Nat → Int32)) (w : (Nat → Int32)) (f2 : Nat → Option Nat) : (Nat → Option Nat) × (Nat → Int32) × (Nat → Nat → Int32) × (Nat → Int32) := (f2, (va_up v 1 (if ((v 1) - (1 : Int32)) < 0 then 0 else ((v 1) - (1 : Int32)))), (pX0_copyFrom u w u0 w0).1, (pX0_copyFrom u w u0 w0).2)
set_option maxHeartbeats 4000000 in
set_option maxRecDepth 100000 in
theorem kX1_popInto (l : Launch) (D : va_G) (cyC cyI cyO : ClassId) (A : Nat → Nat) (B0 : Nat → Nat) (B1 : Nat → Nat) (B2 : Nat → Nat) (B3 : Nat → Nat) (C : Nat → Nat) (f : (Nat → Option Nat)) (v : (Nat → Int32)) (u0 : (Nat → Nat → Int32)) (w0 : (Nat → Int32)) (u1 : (Nat → Nat → Int32)) (w1 : (Nat → Int32)) (u2 : (Nat → Nat → Int32)) (w2 : (Nat → Int32)) (u3 : (Nat → Nat → Int32)) (w3 : (Nat → Int32)) (u : (Nat → Nat → Int32)) (w : (Nat → Int32)) (f2 : Nat → Option Nat) (hf0 : f 0 = some (B0 0)) (hf1 : f 1 = some (B1 0)) (hf2 : f 2 = some (B2 0)) (hf3 : f 3 = some (B3 0)) (hg0 : f2 0 = some (B1 0)) (hg1 : f2 1 = some (B2 0)) (hg2 : f2 2 = some (B3 0)) (hg3 : f2 3 = some (B0 0)) : MU l yX1_popInto (Ty yX1_popInto cX1_popInto 4 none) ({ frames := 2, cells := 0, slots := 0, locals := 61 } : Room) D cyC cyI cyO (List.flatten [wHi cyO A f v, wC cyI B0 u0 w0, wC cyI B1 u1 w1, wC cyI B2 u2 w2, wC cyI B3 u3 w3, wC cyI C u w]) [.ref (A 0), .ref (C 0)] none (List.flatten [wHi cyO A (pX1_popInto f v u0 w0 u1 w1 u2 w2 u3 w3 u w f2).1 (pX1_popInto f v u0 w0 u1 w1 u2 w2 u3 w3 u w f2).2.1, wC cyI B0 u0 w0, wC cyI B1 u1 w1, wC cyI B2 u2 w2, wC cyI B3 u3 w3, wC cyI C (pX1_popInto f v u0 w0 u1 w1 u2 w2 u3 w3 u w f2).2.2.1 (pX1_popInto f v u0 w0 u1 w1 u2 w2 u3 w3 u w f2).2.2.2]) := by
  intro sz
  refine Met.ofW (cc := cX1_popInto) (maxL := 4) (ret := none) (by decide) rfl ?_
  intro p e s m args below meth cd s₁ B hml hv
  obtain ⟨rfl, hsz, hP, hK, hD0⟩ := hv
  have hx := B.exec
  have hb := B.bytes
  have hr := B.returns
  have hts : ∀ w ∈ TB, w.before ([.ref (A 0), .ref (C 0)] : List Value).toArray s = true := fun w h => atoms_spec (ws := (Ty yX1_popInto cX1_popInto 4 none)) B.pre w (List.mem_cons_of_mem _ h)
  have hown : s.vm.findClass RX1 = some m.cls := findClass_of_methodNamed B.named
  have hlocks := B.notSynchronized
  subst hsz
  have hD := hD0.self (sz := s.heap.size)
  have hA : ∀ q : Nat, s.heap.size ≤ q → (va_A (List.flatten [wHi cyO A f v, wC cyI B0 u0 w0, wC cyI B1 u1 w1, wC cyI B2 u2 w2, wC cyI B3 u3 w3, wC cyI C u w]) s.heap.size) q := fun q h => Or.inr h
  generalize hAe : va_A (List.flatten [wHi cyO A f v, wC cyI B0 u0 w0, wC cyI B1 u1 w1, wC cyI B2 u2 w2, wC cyI B3 u3 w3, wC cyI C u w]) s.heap.size = A0 at hD hA ⊢
  have hS : va_S A0 s.heap s.heap [] := va_S.rf
  have hl := lv_entry ([.ref (A 0), .ref (C 0)]) (n := 4) (Nat.le_of_ble_eq_true rfl)
  rw [lg_entry_eq]
  generalize (lg_sl ([.ref (A 0), .ref (C 0)]) ++ List.replicate (4 - (lg_sl ([.ref (A 0), .ref (C 0)])).length) Slot.unset).toArray = ls at hl ⊢
  have hl : lv_has ls 4 [(0, .ref (A 0)), (1, .ref (C 0))] := hl
  refine lv_aload_n hx hb dX1_popInto_0 rfl (lv_at hl 0 rfl) ?_
  refine va_get (D := D) (ci := 1) (v := .ref (A 1)) (C := RX1) (T := TX1) (N := 2) hx hb hts inT_X1 hown hK.1 hP 0 rfl rfl 0 (by decide) (hts _ wfl_RX1_11) (fun _ h9 => h9) rfl dX1_popInto_1 ?_
  refine lv_iconst (v := 0) hx hb dX1_popInto_4 (by decide) ?_
  refine va_aldq (D := D) (f := f) hx hb hK.1 hP 1 2 rfl rfl (vp_lit (by decide)) dX1_popInto_5 ?_
  refine W.eq (g2 := F0 m _ ls [.ref (B0 0)]) (congrArg (fun q => F0 m _ ls (va_rf q :: [])) hf0) ?_
  refine lv_astore_n (lv' := [(2, .ref (B0 0)), (0, .ref (A 0)), (1, .ref (C 0))]) hx hb dX1_popInto_6 rfl hl (by decide) rfl (fun ls hl => ?_)
  refine lv_iconst (v := 1) hx hb dX1_popInto_7 (by decide) ?_
  refine lv_istore_n (lv' := [(3, .int 1), (2, .ref (B0 0)), (0, .ref (A 0)), (1, .ref (C 0))]) hx hb dX1_popInto_8 rfl hl (by decide) rfl (fun ls hl => ?_)
  refine lv_iload_n hx hb dX1_popInto_9 rfl (lv_at hl 0 rfl) ?_
  refine lv_iconst (v := 4) hx hb dX1_popInto_10 (by decide) ?_
  refine lv_icmp_ge (tgt := 34) hx hb dX1_popInto_11 (by decide) (fun c_1 => absurd c_1 (by decide)) (fun c_1 => ?_)
  refine lv_aload_n hx hb dX1_popInto_14 rfl (lv_at hl 2 rfl) ?_
  refine va_get (D := D) (ci := 1) (v := .ref (A 1)) (C := RX1) (T := TX1) (N := 2) hx hb hts inT_X1 hown hK.1 hP 0 rfl rfl 0 (by decide) (hts _ wfl_RX1_11) (fun _ h9 => h9) rfl dX1_popInto_15 ?_
  refine lv_iload_n hx hb dX1_popInto_18 rfl (lv_at hl 0 rfl) ?_
  refine lv_iconst (v := 1) hx hb dX1_popInto_19 (by decide) ?_
  refine lv_isub hx hb dX1_popInto_20 ?_
  refine W.eq (g2 := F0 m _ ls [.int 0, .ref (A 1)]) rfl ?_
  refine lv_aload_n hx hb dX1_popInto_21 rfl (lv_at hl 2 rfl) ?_
  refine va_get (D := D) (ci := 1) (v := .ref (A 1)) (C := RX1) (T := TX1) (N := 2) hx hb hts inT_X1 hown hK.1 hP 0 rfl rfl 0 (by decide) (hts _ wfl_RX1_11) (fun _ h9 => h9) rfl dX1_popInto_22 ?_
  refine lv_iload_n hx hb dX1_popInto_25 rfl (lv_at hl 0 rfl) ?_
  refine va_aldq (D := D) (f := f) hx hb hK.1 hP 1 2 rfl rfl (vp_lit (by decide)) dX1_popInto_26 ?_
  refine W.eq (g2 := F0 m _ ls [.ref (B1 0), .int 0, .ref (A 1)]) (congrArg (fun q => F0 m _ ls (va_rf q :: [.int 0, .ref (A 1)])) hf1) ?_
  refine va_astq (D := D) (f := f) (r := (RX0, TX0, 19)) hx hb hK.1 hP hD hS 1 2 11 0 rfl rfl rfl rfl (vp_lit (by decide)) dX1_popInto_27 (fun H locs hP hD hS => ?_)
  have hP : va_P D vwCl (List.flatten [wHi cyO A (va_up f 0 (some (B1 0))) v, wC cyI B0 u0 w0, wC cyI B1 u1 w1, wC cyI B2 u2 w2, wC cyI B3 u3 w3, wC cyI C u w]) H := hP
  have hD : va_D A0 (List.flatten [wHi cyO A (va_up f 0 (some (B1 0))) v, wC cyI B0 u0 w0, wC cyI B1 u1 w1, wC cyI B2 u2 w2, wC cyI B3 u3 w3, wC cyI C u w]) := hD
  refine lv_iinc (v := 2) (lv' := [(3, .int 2), (2, .ref (B0 0)), (0, .ref (A 0)), (1, .ref (C 0))]) hx hb dX1_popInto_28 hl (k := 0) rfl (by decide) (by decide) rfl (fun ls hl => ?_)
  refine lv_goto (tgt := 9) hx hb dX1_popInto_31 (by decide) ?_
  refine lv_iload_n hx hb dX1_popInto_9 rfl (lv_at hl 0 rfl) ?_
  refine lv_iconst (v := 4) hx hb dX1_popInto_10 (by decide) ?_
  refine lv_icmp_ge (tgt := 34) hx hb dX1_popInto_11 (by decide) (fun c_2 => absurd c_2 (by decide)) (fun c_2 => ?_)
  refine lv_aload_n hx hb dX1_popInto_14 rfl (lv_at hl 2 rfl) ?_
  refine va_get (D := D) (ci := 1) (v := .ref (A 1)) (C := RX1) (T := TX1) (N := 2) hx hb hts inT_X1 hown hK.1 hP 0 rfl rfl 0 (by decide) (hts _ wfl_RX1_11) (fun _ h9 => h9) rfl dX1_popInto_15 ?_
  refine lv_iload_n hx hb dX1_popInto_18 rfl (lv_at hl 0 rfl) ?_
  refine lv_iconst (v := 1) hx hb dX1_popInto_19 (by decide) ?_
  refine lv_isub hx hb dX1_popInto_20 ?_
  refine W.eq (g2 := F0 m _ ls [.int 1, .ref (A 1)]) rfl ?_
  refine lv_aload_n hx hb dX1_popInto_21 rfl (lv_at hl 2 rfl) ?_
  refine va_get (D := D) (ci := 1) (v := .ref (A 1)) (C := RX1) (T := TX1) (N := 2) hx hb hts inT_X1 hown hK.1 hP 0 rfl rfl 0 (by decide) (hts _ wfl_RX1_11) (fun _ h9 => h9) rfl dX1_popInto_22 ?_
  refine lv_iload_n hx hb dX1_popInto_25 rfl (lv_at hl 0 rfl) ?_
  refine va_aldq (D := D) (f := (va_up f 0 (some (B1 0)))) hx hb hK.1 hP 1 2 rfl rfl (vp_lit (by decide)) dX1_popInto_26 ?_
  refine W.eq (g2 := F0 m _ ls [.ref (B2 0), .int 1, .ref (A 1)]) (congrArg (fun q => F0 m _ ls (va_rf q :: [.int 1, .ref (A 1)])) hf2) ?_
  refine va_astq (D := D) (f := (va_up f 0 (some (B1 0)))) (r := (RX0, TX0, 19)) hx hb hK.1 hP hD hS 1 2 20 0 rfl rfl rfl rfl (vp_lit (by decide)) dX1_popInto_27 (fun H locs hP hD hS => ?_)
  have hP : va_P D vwCl (List.flatten [wHi cyO A (va_up (va_up f 0 (some (B1 0))) 1 (some (B2 0))) v, wC cyI B0 u0 w0, wC cyI B1 u1 w1, wC cyI B2 u2 w2, wC cyI B3 u3 w3, wC cyI C u w]) H := hP
  have hD : va_D A0 (List.flatten [wHi cyO A (va_up (va_up f 0 (some (B1 0))) 1 (some (B2 0))) v, wC cyI B0 u0 w0, wC cyI B1 u1 w1, wC cyI B2 u2 w2, wC cyI B3 u3 w3, wC cyI C u w]) := hD
  refine lv_iinc (v := 3) (lv' := [(3, .int 3), (2, .ref (B0 0)), (0, .ref (A 0)), (1, .ref (C 0))]) hx hb dX1_popInto_28 hl (k := 0) rfl (by decide) (by decide) rfl (fun ls hl => ?_)
  refine lv_goto (tgt := 9) hx hb dX1_popInto_31 (by decide) ?_
  refine lv_iload_n hx hb dX1_popInto_9 rfl (lv_at hl 0 rfl) ?_
  refine lv_iconst (v := 4) hx hb dX1_popInto_10 (by decide) ?_
  refine lv_icmp_ge (tgt := 34) hx hb dX1_popInto_11 (by decide) (fun c_3 => absurd c_3 (by decide)) (fun c_3 => ?_)
  refine lv_aload_n hx hb dX1_popInto_14 rfl (lv_at hl 2 rfl) ?_
  refine va_get (D := D) (ci := 1) (v := .ref (A 1)) (C := RX1) (T := TX1) (N := 2) hx hb hts inT_X1 hown hK.1 hP 0 rfl rfl 0 (by decide) (hts _ wfl_RX1_11) (fun _ h9 => h9) rfl dX1_popInto_15 ?_
  refine lv_iload_n hx hb dX1_popInto_18 rfl (lv_at hl 0 rfl) ?_
  refine lv_iconst (v := 1) hx hb dX1_popInto_19 (by decide) ?_
  refine lv_isub hx hb dX1_popInto_20 ?_
  refine W.eq (g2 := F0 m _ ls [.int 2, .ref (A 1)]) rfl ?_
  refine lv_aload_n hx hb dX1_popInto_21 rfl (lv_at hl 2 rfl) ?_
  refine va_get (D := D) (ci := 1) (v := .ref (A 1)) (C := RX1) (T := TX1) (N := 2) hx hb hts inT_X1 hown hK.1 hP 0 rfl rfl 0 (by decide) (hts _ wfl_RX1_11) (fun _ h9 => h9) rfl dX1_popInto_22 ?_
  refine lv_iload_n hx hb dX1_popInto_25 rfl (lv_at hl 0 rfl) ?_
  refine va_aldq (D := D) (f := (va_up (va_up f 0 (some (B1 0))) 1 (some (B2 0)))) hx hb hK.1 hP 1 2 rfl rfl (vp_lit (by decide)) dX1_popInto_26 ?_
  refine W.eq (g2 := F0 m _ ls [.ref (B3 0), .int 2, .ref (A 1)]) (congrArg (fun q => F0 m _ ls (va_rf q :: [.int 2, .ref (A 1)])) hf3) ?_
  refine va_astq (D := D) (f := (va_up (va_up f 0 (some (B1 0))) 1 (some (B2 0)))) (r := (RX0, TX0, 19)) hx hb hK.1 hP hD hS 1 2 29 0 rfl rfl rfl rfl (vp_lit (by decide)) dX1_popInto_27 (fun H locs hP hD hS => ?_)
  have hP : va_P D vwCl (List.flatten [wHi cyO A (va_up (va_up (va_up f 0 (some (B1 0))) 1 (some (B2 0))) 2 (some (B3 0))) v, wC cyI B0 u0 w0, wC cyI B1 u1 w1, wC cyI B2 u2 w2, wC cyI B3 u3 w3, wC cyI C u w]) H := hP
  have hD : va_D A0 (List.flatten [wHi cyO A (va_up (va_up (va_up f 0 (some (B1 0))) 1 (some (B2 0))) 2 (some (B3 0))) v, wC cyI B0 u0 w0, wC cyI B1 u1 w1, wC cyI B2 u2 w2, wC cyI B3 u3 w3, wC cyI C u w]) := hD
  refine lv_iinc (v := 4) (lv' := [(3, .int 4), (2, .ref (B0 0)), (0, .ref (A 0)), (1, .ref (C 0))]) hx hb dX1_popInto_28 hl (k := 0) rfl (by decide) (by decide) rfl (fun ls hl => ?_)
  refine lv_goto (tgt := 9) hx hb dX1_popInto_31 (by decide) ?_
  refine lv_iload_n hx hb dX1_popInto_9 rfl (lv_at hl 0 rfl) ?_
  refine lv_iconst (v := 4) hx hb dX1_popInto_10 (by decide) ?_
  refine lv_icmp_ge (tgt := 34) hx hb dX1_popInto_11 (by decide) (fun c_4 => ?_) (fun c_4 => absurd (by decide) c_4)
  refine lv_aload_n hx hb dX1_popInto_34 rfl (lv_at hl 2 rfl) ?_
  refine va_get (D := D) (ci := 1) (v := .ref (A 1)) (C := RX1) (T := TX1) (N := 2) hx hb hts inT_X1 hown hK.1 hP 0 rfl rfl 0 (by decide) (hts _ wfl_RX1_11) (fun _ h9 => h9) rfl dX1_popInto_35 ?_
  refine lv_iconst (v := 3) hx hb dX1_popInto_38 (by decide) ?_
  refine lv_aload_n hx hb dX1_popInto_39 rfl (lv_at hl 1 rfl) ?_
  refine va_astq (D := D) (f := (va_up (va_up (va_up f 0 (some (B1 0))) 1 (some (B2 0))) 2 (some (B3 0)))) (r := (RX0, TX0, 19)) hx hb hK.1 hP hD hS 1 2 2 0 rfl rfl rfl rfl (vp_lit (by decide)) dX1_popInto_40 (fun H locs hP hD hS => ?_)
  have hP : va_P D vwCl (List.flatten [wHi cyO A (va_up (va_up (va_up (va_up f 0 (some (B1 0))) 1 (some (B2 0))) 2 (some (B3 0))) 3 (some (B0 0))) v, wC cyI B0 u0 w0, wC cyI B1 u1 w1, wC cyI B2 u2 w2, wC cyI B3 u3 w3, wC cyI C u w]) H := hP
  have hD : va_D A0 (List.flatten [wHi cyO A (va_up (va_up (va_up (va_up f 0 (some (B1 0))) 1 (some (B2 0))) 2 (some (B3 0))) 3 (some (B0 0))) v, wC cyI B0 u0 w0, wC cyI B1 u1 w1, wC cyI B2 u2 w2, wC cyI B3 u3 w3, wC cyI C u w]) := hD
  refine lv_aload_n hx hb dX1_popInto_41 rfl (lv_at hl 1 rfl) ?_
  refine lv_ifnull hx hb dX1_popInto_42 ?_
  refine lv_aload_n hx hb dX1_popInto_45 rfl (lv_at hl 3 rfl) ?_
  refine lv_aload_n hx hb dX1_popInto_46 rfl (lv_at hl 1 rfl) ?_
  obtain ⟨z_5, hz_5⟩ : ∃ q, q = (pX0_copyFrom u w u0 w0) := ⟨_, rfl⟩
  refine mVB (bl := [wHi cyO A (va_up (va_up (va_up (va_up f 0 (some (B1 0))) 1 (some (B2 0))) 2 (some (B3 0))) 3 (some (B0 0))) v, wC cyI B0 u0 w0, wC cyI B1 u1 w1, wC cyI B2 u2 w2, wC cyI B3 u3 w3, wC cyI C u w]) (bl' := [wHi cyO A (va_up (va_up (va_up (va_up f 0 (some (B1 0))) 1 (some (B2 0))) 2 (some (B3 0))) 3 (some (B0 0))) v, wC cyI B0 u0 w0, wC cyI B1 u1 w1, wC cyI B2 u2 w2, wC cyI B3 u3 w3, wC cyI C z_5.1 z_5.2]) (WSb := [wC cyI C u w, wC cyI B0 u0 w0]) (WSb' := [wC cyI C z_5.1 z_5.2, wC cyI B0 u0 w0]) (As := [.ref (B0 0)]) (rest := []) hx hb hml hown hts hl.1 (WS := (wC cyI C u w ++ (wC cyI B0 u0 w0))) (WS' := (wC cyI C z_5.1 z_5.2 ++ (wC cyI B0 u0 w0))) (ro := none) (by rw [hz_5]; exact kX0_copyFrom l D cyC cyI cyO C B0 u w u0 w0) bV_X0_copyFrom wml_RX1_18 ⟨rfl, rfl⟩ ⟨Nat.le_of_ble_eq_true rfl, Nat.le_of_ble_eq_true rfl, Nat.zero_le _, Nat.zero_le _⟩ [5, 1] (by simp only [List.flatten_cons, List.flatten_nil, List.append_nil]) (by simp only [List.flatten_cons, List.flatten_nil, List.append_nil]) rfl rfl rfl rfl rfl hP hD hS hA hK 0 rfl rfl rfl rfl rfl (Nat.le_of_ble_eq_true rfl) dX1_popInto_47 (fun H locs hP hD hS => ?_)
  refine lv_aload_n hx hb dX1_popInto_50 rfl (lv_at hl 2 rfl) ?_
  refine lv_aload_n hx hb dX1_popInto_51 rfl (lv_at hl 2 rfl) ?_
  refine va_get (D := D) (ci := 1) (v := .int (v 1)) (C := RX1) (T := TX1) (N := 2) hx hb hts inT_X1 hown hK.1 hP 0 rfl rfl 1 (by decide) (hts _ wfl_RX1_22) (fun _ h9 => h9) rfl dX1_popInto_52 ?_
  refine lv_iconst (v := 1) hx hb dX1_popInto_55 (by decide) ?_
  refine lv_isub hx hb dX1_popInto_56 ?_
  refine lv_iconst (v := 0) hx hb dX1_popInto_57 (by decide) ?_
  refine va_mmax hx hb (hml.trans hl.1.symm) hown (hts _ wml_RX1_32) (hts _ wst_J9_max_7cf53) (hts _ win_RJ9) (hts _ wcd_J9_max_7cf53) (Nat.le_of_ble_eq_true rfl) (Nat.le_of_ble_eq_true rfl) (Nat.zero_le _) (Nat.zero_le _) dX1_popInto_58 ?_
  refine va_put (D := D) (ci := 1) (v := .int (if ((v 1) - (1 : Int32)) < 0 then 0 else ((v 1) - (1 : Int32)))) (ty := .int) (C := RX1) (T := TX1) (N := 2) hx hb hts inT_X1 tyX1 tyX1_ok nmX1 hown hK.1 hP hD hS 0 rfl rfl 1 (by decide) (hts _ wfl_RX1_22) (fun _ h9 => h9) rfl (by decide +kernel) (by rfl) rfl (Nat.le_of_ble_eq_true rfl) dX1_popInto_61 (fun H locs hP hD hS => ?_)
  have hP : va_P D vwCl (List.flatten [wHi cyO A (va_up (va_up (va_up (va_up f 0 (some (B1 0))) 1 (some (B2 0))) 2 (some (B3 0))) 3 (some (B0 0))) (va_up v 1 (if ((v 1) - (1 : Int32)) < 0 then 0 else ((v 1) - (1 : Int32)))), wC cyI B0 u0 w0, wC cyI B1 u1 w1, wC cyI B2 u2 w2, wC cyI B3 u3 w3, wC cyI C z_5.1 z_5.2]) H := hP
  have hD : va_D A0 (List.flatten [wHi cyO A (va_up (va_up (va_up (va_up f 0 (some (B1 0))) 1 (some (B2 0))) 2 (some (B3 0))) 3 (some (B0 0))) (va_up v 1 (if ((v 1) - (1 : Int32)) < 0 then 0 else ((v 1) - (1 : Int32)))), wC cyI B0 u0 w0, wC cyI B1 u1 w1, wC cyI B2 u2 w2, wC cyI B3 u3 w3, wC cyI C z_5.1 z_5.2]) := hD
  have hP := vaP_cgq (g := f2) 1 hP rfl (fun j hj => by rcases (show j = 0 ∨ j = 1 ∨ j = 2 ∨ j = 3 by omega) with rfl | rfl | rfl | rfl <;> first | exact hg0.symm | exact hg1.symm | exact hg2.symm | exact hg3.symm)
  have hP : va_P D vwCl (List.flatten [wHi cyO A f2 (va_up v 1 (if ((v 1) - (1 : Int32)) < 0 then 0 else ((v 1) - (1 : Int32)))), wC cyI B0 u0 w0, wC cyI B1 u1 w1, wC cyI B2 u2 w2, wC cyI B3 u3 w3, wC cyI C z_5.1 z_5.2]) H := hP
  have e9 : (pX1_popInto f v u0 w0 u1 w1 u2 w2 u3 w3 u w f2) = (f2, (va_up v 1 (if ((v 1) - (1 : Int32)) < 0 then 0 else ((v 1) - (1 : Int32)))), z_5.1, z_5.2) := by simp only [pX1_popInto, ← hz_5]
  have e9_0 : (pX1_popInto f v u0 w0 u1 w1 u2 w2 u3 w3 u w f2).1 = f2 := by rw [e9]
  have e9_1 : (pX1_popInto f v u0 w0 u1 w1 u2 w2 u3 w3 u w f2).2.1 = (va_up v 1 (if ((v 1) - (1 : Int32)) < 0 then 0 else ((v 1) - (1 : Int32)))) := by rw [e9]
  have e9_2 : (pX1_popInto f v u0 w0 u1 w1 u2 w2 u3 w3 u w f2).2.2.1 = z_5.1 := by rw [e9]
  have e9_3 : (pX1_popInto f v u0 w0 u1 w1 u2 w2 u3 w3 u w f2).2.2.2 = z_5.2 := by rw [e9]
  exact W.vret hx hb hr (fun t ht hW => ⟨⟨rfl, by rw [e9_0, e9_1, e9_2, e9_3, ht]; exact hP⟩, hS.F ht⟩) hS.2.2 dX1_popInto_64
theorem bV_X1_popInto : BV RX1 yX1_popInto cX1_popInto 4 none 1 := ⟨wcd_X1_popInto, wim_X1_popInto, wse_X1_popInto, win_RX1, by decide +kernel⟩
