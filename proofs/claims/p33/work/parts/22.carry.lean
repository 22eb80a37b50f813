abbrev ROd (l : Launch) (y : MethodName) (ws : List Cond) (rm : Room) (D : va_G) (cyC cyI cyO : ClassId) (WS : va_W) (av : List Value) (r : UInt64) : Prop := Met l y ws rm (va_Pc av (RP D cyC cyI cyO WS)) (vp_Sd (fun x => x = r)) 0 0 (fun _ => False)
def pX6_cleanness (rt : (Nat → Int32)) (sg : (Nat → Nat → Int32)) (pw : (Nat → Int32)) (rd : (Nat → Int32)) (u : (Nat → Nat → Int32)) (w : (Nat → Int32)) (h : (Nat → (Nat → Nat → Int32) × (Nat → Int32))) (r : Nat) (v : (Nat → Int32)) (tu : (Nat → Nat → Int32)) (tw : (Nat → Int32)) (su : (Nat → Nat → Int32)) (sw : (Nat → Int32)) (g : (Nat → Nat → Int32)) : UInt64 := (if (pJ6_bitCount_0f7a4 (pX0_allLines u w)) = 0 then FP.dconst1 else (FP.ddiv (FP.i2d (pJ6_bitCount_0f7a4 (pX0_cleanLines u w))) (FP.i2d (pJ6_bitCount_0f7a4 (pX0_allLines u w)))))
set_option maxHeartbeats 4000000 in
set_option maxRecDepth 100000 in
theorem kX6_cleanness (l : Launch) (D : va_G) (cyC cyI cyO : ClassId) (Z : Nat → Nat) (C : Nat → Nat) (TR : Nat → Nat) (SN : Nat → Nat) (HI : Nat → Nat) (Y : Nat → Nat) (P : Nat → Nat) (R : Nat → Nat) (BB : Nat → Nat → Nat) (rt : (Nat → Int32)) (sg : (Nat → Nat → Int32)) (pw : (Nat → Int32)) (rd : (Nat → Int32)) (u : (Nat → Nat → Int32)) (w : (Nat → Int32)) (h : (Nat → (Nat → Nat → Int32) × (Nat → Int32))) (r : Nat) (v : (Nat → Int32)) (tu : (Nat → Nat → Int32)) (tw : (Nat → Int32)) (su : (Nat → Nat → Int32)) (sw : (Nat → Int32)) (g : (Nat → Nat → Int32)) (hne : ¬ (pJ6_bitCount_0f7a4 (pX0_allLines u w)) = 0 → vf_n64 (FP.ddiv (FP.i2d (pJ6_bitCount_0f7a4 (pX0_cleanLines u w))) (FP.i2d (pJ6_bitCount_0f7a4 (pX0_allLines u w))))) : ROd l yX6_cleanness (Ty yX6_cleanness cX6_cleanness 2 (some .double)) ({ frames := 2, cells := 0, slots := 0, locals := 43 } : Room) D cyC cyI cyO (List.flatten [wRt Z C TR SN HI Y P R rt, wPd cyC P sg pw, wRd R P rd, wC cyI C u w, wHM cyI cyO HI BB h r v, wC cyI TR tu tw, wC cyI SN su sw, wWy cyI Y g]) [.ref (Z 0)] (pX6_cleanness rt sg pw rd u w h r v tu tw su sw g) := by
  refine Met.ofW (cc := cX6_cleanness) (maxL := 2) (ret := (some .double)) (by decide) rfl ?_
  intro p e s m args below meth cd s₁ B hml hv
  obtain ⟨rfl, hP, hK⟩ := hv
  have hx := B.exec
  have hb := B.bytes
  have hr := B.returns
  have hts : ∀ w ∈ TB, w.before ([.ref (Z 0)] : List Value).toArray s = true := fun w h => atoms_spec (ws := (Ty yX6_cleanness cX6_cleanness 2 (some .double))) B.pre w (List.mem_cons_of_mem _ h)
  have hown : s.vm.findClass RX6 = some m.cls := findClass_of_methodNamed B.named
  have hlocks := B.notSynchronized
  have hl := lv_entry ([.ref (Z 0)]) (n := 2) (Nat.le_of_ble_eq_true rfl)
  rw [lg_entry_eq]
  generalize (lg_sl ([.ref (Z 0)]) ++ List.replicate (2 - (lg_sl ([.ref (Z 0)])).length) Slot.unset).toArray = ls at hl ⊢
  have hl : lv_has ls 2 [(0, .ref (Z 0))] := hl
  refine lv_aload_n hx hb dX6_cleanness_0 rfl (lv_at hl 0 rfl) ?_
  refine va_get (D := D) (ci := 5) (v := .ref (C 0)) (C := RX6) (T := TX6) (N := 12) hx hb hts inT_X6 hown hK.1 hP 0 rfl rfl 0 (by decide) (hts _ wfl_RX6_10) (fun _ h9 => h9) rfl dX6_cleanness_1 ?_
  refine rVB (bl := [wRt Z C TR SN HI Y P R rt, wPd cyC P sg pw, wRd R P rd, wC cyI C u w, wHM cyI cyO HI BB h r v, wC cyI TR tu tw, wC cyI SN su sw, wWy cyI Y g]) (WSb := [wC cyI C u w]) (As := []) (rest := []) hx hb hml hown hts hl.1 (kX0_allLines l D cyC cyI cyO C u w) bV_X0_allLines wml_RX6_189 ⟨rfl, rfl⟩ ⟨Nat.le_of_ble_eq_true rfl, Nat.le_of_ble_eq_true rfl, Nat.zero_le _, Nat.zero_le _⟩ [3] (by simp only [List.flatten_cons, List.flatten_nil, List.append_nil]) rfl hP hK 0 rfl rfl rfl rfl rfl (Nat.le_of_ble_eq_true rfl) dX6_cleanness_4 ?_
  refine rS (As := [.int (pX0_allLines u w)]) (rest := []) hx hb hml hown hts hl.1 (kJ6_bitCount_0f7a4 l D cyC cyI cyO (pX0_allLines u w)) bS_J6_bitCount_0f7a4  wml_RX6_89 ⟨rfl, rfl⟩ ⟨Nat.le_of_ble_eq_true rfl, Nat.le_of_ble_eq_true rfl, Nat.zero_le _, Nat.zero_le _⟩ [] rfl hP hK rfl rfl (Nat.le_of_ble_eq_true rfl) dX6_cleanness_7 ?_
  refine lv_istore_n (lv' := [(1, .int (pJ6_bitCount_0f7a4 (pX0_allLines u w))), (0, .ref (Z 0))]) hx hb dX6_cleanness_10 rfl hl (by decide) rfl (fun ls hl => ?_)
  refine lv_iload_n hx hb dX6_cleanness_11 rfl (lv_at hl 0 rfl) ?_
  refine lv_if_ne (tgt := 17) hx hb dX6_cleanness_12 (by decide) (fun c_1 => ?_) (fun c_1 => ?_)
  · refine lv_aload_n hx hb dX6_cleanness_17 rfl (lv_at hl 1 rfl) ?_
    refine va_get (D := D) (ci := 5) (v := .ref (C 0)) (C := RX6) (T := TX6) (N := 12) hx hb hts inT_X6 hown hK.1 hP 0 rfl rfl 0 (by decide) (hts _ wfl_RX6_10) (fun _ h9 => h9) rfl dX6_cleanness_18 ?_
    refine rVB (bl := [wRt Z C TR SN HI Y P R rt, wPd cyC P sg pw, wRd R P rd, wC cyI C u w, wHM cyI cyO HI BB h r v, wC cyI TR tu tw, wC cyI SN su sw, wWy cyI Y g]) (WSb := [wC cyI C u w]) (As := []) (rest := []) hx hb hml hown hts hl.1 (kX0_cleanLines l D cyC cyI cyO C u w) bV_X0_cleanLines wml_RX6_131 ⟨rfl, rfl⟩ ⟨Nat.le_of_ble_eq_true rfl, Nat.le_of_ble_eq_true rfl, Nat.zero_le _, Nat.zero_le _⟩ [3] (by simp only [List.flatten_cons, List.flatten_nil, List.append_nil]) rfl hP hK 0 rfl rfl rfl rfl rfl (Nat.le_of_ble_eq_true rfl) dX6_cleanness_21 ?_
    refine rS (As := [.int (pX0_cleanLines u w)]) (rest := []) hx hb hml hown hts hl.1 (kJ6_bitCount_0f7a4 l D cyC cyI cyO (pX0_cleanLines u w)) bS_J6_bitCount_0f7a4  wml_RX6_89 ⟨rfl, rfl⟩ ⟨Nat.le_of_ble_eq_true rfl, Nat.le_of_ble_eq_true rfl, Nat.zero_le _, Nat.zero_le _⟩ [] rfl hP hK rfl rfl (Nat.le_of_ble_eq_true rfl) dX6_cleanness_24 ?_
    refine lv_i2d hx hb dX6_cleanness_27 ?_
    refine lv_iload_n hx hb dX6_cleanness_28 rfl (lv_at hl 0 rfl) ?_
    refine lv_i2d hx hb dX6_cleanness_29 ?_
    refine lv_ddiv hx hb dX6_cleanness_30 (hne c_1) ?_
    have e9 : (FP.ddiv (FP.i2d (pJ6_bitCount_0f7a4 (pX0_cleanLines u w))) (FP.i2d (pJ6_bitCount_0f7a4 (pX0_allLines u w)))) = (pX6_cleanness rt sg pw rd u w h r v tu tw su sw g) := by simp only [pX6_cleanness, if_neg c_1]
    exact W.dret (v := (FP.ddiv (FP.i2d (pJ6_bitCount_0f7a4 (pX0_cleanLines u w))) (FP.i2d (pJ6_bitCount_0f7a4 (pX0_allLines u w))))) hx hb hr (fun t ht hW => ⟨_, rfl, e9, ht⟩) (fun _ h => absurd h List.not_mem_nil) dX6_cleanness_31
  · refine lv_dconst1 hx hb dX6_cleanness_15 ?_
    have e9 : FP.dconst1 = (pX6_cleanness rt sg pw rd u w h r v tu tw su sw g) := by simp only [pX6_cleanness, if_pos c_1]
    exact W.dret (v := FP.dconst1) hx hb hr (fun t ht hW => ⟨_, rfl, e9, ht⟩) (fun _ h => absurd h List.not_mem_nil) dX6_cleanness_16
theorem bV_X6_cleanness : BV RX6 yX6_cleanness cX6_cleanness 2 (some .double) 0 := ⟨wcd_X6_cleanness, wim_X6_cleanness, wse_X6_cleanness, win_RX6, by decide +kernel⟩
def OK6 (rd : Nat → Int32) : Prop := (rd 3 = 104 ∨ rd 3 = 116 ∨ rd 3 = 119) → vp_in (rd 4) 4 ∧ vp_in (rd 5) 28
def pX6_carryOutOrder (rt : (Nat → Int32)) (sg : (Nat → Nat → Int32)) (pw : (Nat → Int32)) (rd : (Nat → Int32)) (u : (Nat → Nat → Int32)) (w : (Nat → Int32)) (h : (Nat → (Nat → Nat → Int32) × (Nat → Int32))) (r : Nat) (v : (Nat → Int32)) (tu : (Nat → Nat → Int32)) (tw : (Nat → Int32)) (su : (Nat → Nat → Int32)) (sw : (Nat → Int32)) (g : (Nat → Nat → Int32)) : Int32 × (Nat → Nat → Int32) × (Nat → Int32) := (if (rd 3) = 99 then (0, (pX0_toggleChimney u w (rd 5)).1, (pX0_toggleChimney u w (rd 5)).2) else (if (rd 3) = 104 then ((pX6_causeIn (pX0_hangLine u w (rd 4) (rd 5)).1), (pX0_hangLine u w (rd 4) (rd 5)).2.1, (pX0_hangLine u w (rd 4) (rd 5)).2.2) else (if (rd 3) = 116 then ((pX6_causeIn (pX0_takeLine u w (rd 4) (rd 5)).1), (pX0_takeLine u w (rd 4) (rd 5)).2.1, (pX0_takeLine u w (rd 4) (rd 5)).2.2) else (if (rd 3) = 119 then (if (pX0_standsAt u w (rd 4) (rd 5)) = 0 then ((-2), u, w) else ((pX6_causeIn (pX0_walkOver u w (rd 4) (rd 5)).1), (pX0_walkOver u w (rd 4) (rd 5)).2.1, (pX0_walkOver u w (rd 4) (rd 5)).2.2)) else (0, (pX0_passDay u w).1, (pX0_passDay u w).2)))))
set_option maxHeartbeats 4000000 in
set_option maxRecDepth 100000 in
theorem kX6_carryOutOrder (l : Launch) (D : va_G) (cyC cyI cyO : ClassId) (Z : Nat → Nat) (C : Nat → Nat) (TR : Nat → Nat) (SN : Nat → Nat) (HI : Nat → Nat) (Y : Nat → Nat) (P : Nat → Nat) (R : Nat → Nat) (BB : Nat → Nat → Nat) (rt : (Nat → Int32)) (sg : (Nat → Nat → Int32)) (pw : (Nat → Int32)) (rd : (Nat → Int32)) (u : (Nat → Nat → Int32)) (w : (Nat → Int32)) (h : (Nat → (Nat → Nat → Int32) × (Nat → Int32))) (r : Nat) (v : (Nat → Int32)) (tu : (Nat → Nat → Int32)) (tw : (Nat → Int32)) (su : (Nat → Nat → Int32)) (sw : (Nat → Int32)) (g : (Nat → Nat → Int32)) (hq : (w 12) < 4) (hord : OK6 rd) : MU l yX6_carryOutOrder (Ty yX6_carryOutOrder cX6_carryOutOrder 1 (some .int)) ({ frames := 5, cells := 0, slots := 0, locals := 115 } : Room) D cyC cyI cyO (List.flatten [wRt Z C TR SN HI Y P R rt, wPd cyC P sg pw, wRd R P rd, wC cyI C u w, wHM cyI cyO HI BB h r v, wC cyI TR tu tw, wC cyI SN su sw, wWy cyI Y g]) [.ref (Z 0)] (some (.int (pX6_carryOutOrder rt sg pw rd u w h r v tu tw su sw g).1)) (List.flatten [wRt Z C TR SN HI Y P R rt, wPd cyC P sg pw, wRd R P rd, wC cyI C (pX6_carryOutOrder rt sg pw rd u w h r v tu tw su sw g).2.1 (pX6_carryOutOrder rt sg pw rd u w h r v tu tw su sw g).2.2, wHM cyI cyO HI BB h r v, wC cyI TR tu tw, wC cyI SN su sw, wWy cyI Y g]) := by
  intro sz
  refine Met.ofW (cc := cX6_carryOutOrder) (maxL := 1) (ret := (some .int)) (by decide) rfl ?_
  intro p e s m args below meth cd s₁ B hml hv
  obtain ⟨rfl, hsz, hP, hK, hD0⟩ := hv
  have hx := B.exec
  have hb := B.bytes
  have hr := B.returns
  have hts : ∀ w ∈ TB, w.before ([.ref (Z 0)] : List Value).toArray s = true := fun w h => atoms_spec (ws := (Ty yX6_carryOutOrder cX6_carryOutOrder 1 (some .int))) B.pre w (List.mem_cons_of_mem _ h)
  have hown : s.vm.findClass RX6 = some m.cls := findClass_of_methodNamed B.named
  have hlocks := B.notSynchronized
  subst hsz
  have hD := hD0.self (sz := s.heap.size)
  have hA : ∀ q : Nat, s.heap.size ≤ q → (va_A (List.flatten [wRt Z C TR SN HI Y P R rt, wPd cyC P sg pw, wRd R P rd, wC cyI C u w, wHM cyI cyO HI BB h r v, wC cyI TR tu tw, wC cyI SN su sw, wWy cyI Y g]) s.heap.size) q := fun q h => Or.inr h
  generalize hAe : va_A (List.flatten [wRt Z C TR SN HI Y P R rt, wPd cyC P sg pw, wRd R P rd, wC cyI C u w, wHM cyI cyO HI BB h r v, wC cyI TR tu tw, wC cyI SN su sw, wWy cyI Y g]) s.heap.size = A0 at hD hA ⊢
  have hS : va_S A0 s.heap s.heap [] := va_S.rf
  have hl := lv_entry ([.ref (Z 0)]) (n := 1) (Nat.le_of_ble_eq_true rfl)
  rw [lg_entry_eq]
  generalize (lg_sl ([.ref (Z 0)]) ++ List.replicate (1 - (lg_sl ([.ref (Z 0)])).length) Slot.unset).toArray = ls at hl ⊢
  have hl : lv_has ls 1 [(0, .ref (Z 0))] := hl
  refine lv_aload_n hx hb dX6_carryOutOrder_0 rfl (lv_at hl 0 rfl) ?_
  refine va_get (D := D) (ci := 5) (v := .ref (R 0)) (C := RX6) (T := TX6) (N := 12) hx hb hts inT_X6 hown hK.1 hP 0 rfl rfl 7 (by decide) (hts _ wfl_RX6_48) (fun _ h9 => h9) rfl dX6_carryOutOrder_1 ?_
  refine va_get (D := D) (ci := 2) (v := .int (rd 3)) (C := RX2) (T := TX2) (N := 6) hx hb hts inT_X2 hown hK.1 hP 3 rfl rfl 3 (by decide) (hts _ wfl_RX6_279) (fun _ h9 => h9) rfl dX6_carryOutOrder_4 ?_
  by_cases c_1 : (rd 3) = 99
  · refine lv_lookup (off := 143) (tgt := 150) hx hb dX6_carryOutOrder_7 (by decide) (by rw [c_1]; rfl) (by decide) ?_
    refine lv_aload_n hx hb dX6_carryOutOrder_150 rfl (lv_at hl 0 rfl) ?_
    refine va_get (D := D) (ci := 5) (v := .ref (C 0)) (C := RX6) (T := TX6) (N := 12) hx hb hts inT_X6 hown hK.1 hP 0 rfl rfl 0 (by decide) (hts _ wfl_RX6_10) (fun _ h9 => h9) rfl dX6_carryOutOrder_151 ?_
    refine lv_aload_n hx hb dX6_carryOutOrder_154 rfl (lv_at hl 0 rfl) ?_
    refine va_get (D := D) (ci := 5) (v := .ref (R 0)) (C := RX6) (T := TX6) (N := 12) hx hb hts inT_X6 hown hK.1 hP 0 rfl rfl 7 (by decide) (hts _ wfl_RX6_48) (fun _ h9 => h9) rfl dX6_carryOutOrder_155 ?_
    refine va_get (D := D) (ci := 2) (v := .int (rd 5)) (C := RX2) (T := TX2) (N := 6) hx hb hts inT_X2 hown hK.1 hP 3 rfl rfl 5 (by decide) (hts _ wfl_RX6_286) (fun _ h9 => h9) rfl dX6_carryOutOrder_158 ?_
    obtain ⟨z_5, hz_5⟩ : ∃ q, q = (pX0_toggleChimney u w (rd 5)) := ⟨_, rfl⟩
    refine mVB (bl := [wRt Z C TR SN HI Y P R rt, wPd cyC P sg pw, wRd R P rd, wC cyI C u w, wHM cyI cyO HI BB h r v, wC cyI TR tu tw, wC cyI SN su sw, wWy cyI Y g]) (bl' := [wRt Z C TR SN HI Y P R rt, wPd cyC P sg pw, wRd R P rd, wC cyI C z_5.1 z_5.2, wHM cyI cyO HI BB h r v, wC cyI TR tu tw, wC cyI SN su sw, wWy cyI Y g]) (WSb := [wC cyI C u w]) (WSb' := [wC cyI C z_5.1 z_5.2]) (As := [.int (rd 5)]) (rest := []) hx hb hml hown hts hl.1 (WS := (wC cyI C u w)) (WS' := (wC cyI C z_5.1 z_5.2)) (ro := none) (by rw [hz_5]; exact kX0_toggleChimney l D cyC cyI cyO C u w (rd 5)) bV_X0_toggleChimney wml_RX6_81 ⟨rfl, rfl⟩ ⟨Nat.le_of_ble_eq_true rfl, Nat.le_of_ble_eq_true rfl, Nat.zero_le _, Nat.zero_le _⟩ [3] (by simp only [List.flatten_cons, List.flatten_nil, List.append_nil]) (by simp only [List.flatten_cons, List.flatten_nil, List.append_nil]) rfl rfl rfl rfl rfl hP hD hS hA hK 0 rfl rfl rfl rfl rfl (Nat.le_of_ble_eq_true rfl) dX6_carryOutOrder_161 (fun H locs hP hD hS => ?_)
    refine lv_iconst (v := 0) hx hb dX6_carryOutOrder_164 (by decide) ?_
    have e9 : (pX6_carryOutOrder rt sg pw rd u w h r v tu tw su sw g) = (0, z_5.1, z_5.2) := by simp only [pX6_carryOutOrder, ← hz_5, if_pos c_1]
    have e9_0 : (pX6_carryOutOrder rt sg pw rd u w h r v tu tw su sw g).1 = 0 := by rw [e9]
    have e9_1 : (pX6_carryOutOrder rt sg pw rd u w h r v tu tw su sw g).2.1 = z_5.1 := by rw [e9]
    have e9_2 : (pX6_carryOutOrder rt sg pw rd u w h r v tu tw su sw g).2.2 = z_5.2 := by rw [e9]
    exact W.iret (v := 0) hx hb hr (fun t ht hW => ⟨⟨by rw [e9_0], by rw [e9_1, e9_2, ht]; exact hP⟩, hS.F ht⟩) hS.2.2 dX6_carryOutOrder_165
  · by_cases c_2 : (rd 3) = 104
    · refine lv_lookup (off := 41) (tgt := 48) hx hb dX6_carryOutOrder_7 (by decide) (by rw [c_2]; rfl) (by decide) ?_
      refine lv_aload_n hx hb dX6_carryOutOrder_48 rfl (lv_at hl 0 rfl) ?_
      refine va_get (D := D) (ci := 5) (v := .ref (C 0)) (C := RX6) (T := TX6) (N := 12) hx hb hts inT_X6 hown hK.1 hP 0 rfl rfl 0 (by decide) (hts _ wfl_RX6_10) (fun _ h9 => h9) rfl dX6_carryOutOrder_49 ?_
      refine lv_aload_n hx hb dX6_carryOutOrder_52 rfl (lv_at hl 0 rfl) ?_
      refine va_get (D := D) (ci := 5) (v := .ref (R 0)) (C := RX6) (T := TX6) (N := 12) hx hb hts inT_X6 hown hK.1 hP 0 rfl rfl 7 (by decide) (hts _ wfl_RX6_48) (fun _ h9 => h9) rfl dX6_carryOutOrder_53 ?_
      refine va_get (D := D) (ci := 2) (v := .int (rd 4)) (C := RX2) (T := TX2) (N := 6) hx hb hts inT_X2 hown hK.1 hP 3 rfl rfl 4 (by decide) (hts _ wfl_RX6_283) (fun _ h9 => h9) rfl dX6_carryOutOrder_56 ?_
      refine lv_aload_n hx hb dX6_carryOutOrder_59 rfl (lv_at hl 0 rfl) ?_
      refine va_get (D := D) (ci := 5) (v := .ref (R 0)) (C := RX6) (T := TX6) (N := 12) hx hb hts inT_X6 hown hK.1 hP 0 rfl rfl 7 (by decide) (hts _ wfl_RX6_48) (fun _ h9 => h9) rfl dX6_carryOutOrder_60 ?_
      refine va_get (D := D) (ci := 2) (v := .int (rd 5)) (C := RX2) (T := TX2) (N := 6) hx hb hts inT_X2 hown hK.1 hP 3 rfl rfl 5 (by decide) (hts _ wfl_RX6_286) (fun _ h9 => h9) rfl dX6_carryOutOrder_63 ?_
      obtain ⟨z_6, hz_6⟩ : ∃ q, q = (pX0_hangLine u w (rd 4) (rd 5)) := ⟨_, rfl⟩
      refine mVB (bl := [wRt Z C TR SN HI Y P R rt, wPd cyC P sg pw, wRd R P rd, wC cyI C u w, wHM cyI cyO HI BB h r v, wC cyI TR tu tw, wC cyI SN su sw, wWy cyI Y g]) (bl' := [wRt Z C TR SN HI Y P R rt, wPd cyC P sg pw, wRd R P rd, wC cyI C z_6.2.1 z_6.2.2, wHM cyI cyO HI BB h r v, wC cyI TR tu tw, wC cyI SN su sw, wWy cyI Y g]) (WSb := [wC cyI C u w]) (WSb' := [wC cyI C z_6.2.1 z_6.2.2]) (As := [.int (rd 4), .int (rd 5)]) (rest := []) hx hb hml hown hts hl.1 (WS := (wC cyI C u w)) (WS' := (wC cyI C z_6.2.1 z_6.2.2)) (ro := (some (.int z_6.1))) (by rw [hz_6]; exact kX0_hangLine l D cyC cyI cyO C u w (rd 4) (rd 5) (hord (Or.inl c_2)).1 (hord (Or.inl c_2)).2 hq) bV_X0_hangLine wml_RX6_114 ⟨rfl, rfl⟩ ⟨Nat.le_of_ble_eq_true rfl, Nat.le_of_ble_eq_true rfl, Nat.zero_le _, Nat.zero_le _⟩ [3] (by simp only [List.flatten_cons, List.flatten_nil, List.append_nil]) (by simp only [List.flatten_cons, List.flatten_nil, List.append_nil]) rfl rfl rfl rfl rfl hP hD hS hA hK 0 rfl rfl rfl rfl rfl (Nat.le_of_ble_eq_true rfl) dX6_carryOutOrder_66 (fun H locs hP hD hS => ?_)
      refine rS (As := [.int z_6.1]) (rest := []) hx hb hml hown hts hl.1 (kX6_causeIn l D cyC cyI cyO z_6.1) bS_X6_causeIn  wml_RX6_289 ⟨rfl, rfl⟩ ⟨Nat.le_of_ble_eq_true rfl, Nat.le_of_ble_eq_true rfl, Nat.zero_le _, Nat.zero_le _⟩ [] rfl hP hK rfl rfl (Nat.le_of_ble_eq_true rfl) dX6_carryOutOrder_69 ?_
      have e9 : (pX6_carryOutOrder rt sg pw rd u w h r v tu tw su sw g) = ((pX6_causeIn z_6.1), z_6.2.1, z_6.2.2) := by simp only [pX6_carryOutOrder, ← hz_6, if_neg c_1, if_pos c_2]
      have e9_0 : (pX6_carryOutOrder rt sg pw rd u w h r v tu tw su sw g).1 = (pX6_causeIn z_6.1) := by rw [e9]
      have e9_1 : (pX6_carryOutOrder rt sg pw rd u w h r v tu tw su sw g).2.1 = z_6.2.1 := by rw [e9]
      have e9_2 : (pX6_carryOutOrder rt sg pw rd u w h r v tu tw su sw g).2.2 = z_6.2.2 := by rw [e9]
      exact W.iret (v := (pX6_causeIn z_6.1)) hx hb hr (fun t ht hW => ⟨⟨by rw [e9_0], by rw [e9_1, e9_2, ht]; exact hP⟩, hS.F ht⟩) hS.2.2 dX6_carryOutOrder_72
    · by_cases c_3 : (rd 3) = 116
      · refine lv_lookup (off := 66) (tgt := 73) hx hb dX6_carryOutOrder_7 (by decide) (by rw [c_3]; rfl) (by decide) ?_
        refine lv_aload_n hx hb dX6_carryOutOrder_73 rfl (lv_at hl 0 rfl) ?_
        refine va_get (D := D) (ci := 5) (v := .ref (C 0)) (C := RX6) (T := TX6) (N := 12) hx hb hts inT_X6 hown hK.1 hP 0 rfl rfl 0 (by decide) (hts _ wfl_RX6_10) (fun _ h9 => h9) rfl dX6_carryOutOrder_74 ?_
        refine lv_aload_n hx hb dX6_carryOutOrder_77 rfl (lv_at hl 0 rfl) ?_
        refine va_get (D := D) (ci := 5) (v := .ref (R 0)) (C := RX6) (T := TX6) (N := 12) hx hb hts inT_X6 hown hK.1 hP 0 rfl rfl 7 (by decide) (hts _ wfl_RX6_48) (fun _ h9 => h9) rfl dX6_carryOutOrder_78 ?_
        refine va_get (D := D) (ci := 2) (v := .int (rd 4)) (C := RX2) (T := TX2) (N := 6) hx hb hts inT_X2 hown hK.1 hP 3 rfl rfl 4 (by decide) (hts _ wfl_RX6_283) (fun _ h9 => h9) rfl dX6_carryOutOrder_81 ?_
        refine lv_aload_n hx hb dX6_carryOutOrder_84 rfl (lv_at hl 0 rfl) ?_
        refine va_get (D := D) (ci := 5) (v := .ref (R 0)) (C := RX6) (T := TX6) (N := 12) hx hb hts inT_X6 hown hK.1 hP 0 rfl rfl 7 (by decide) (hts _ wfl_RX6_48) (fun _ h9 => h9) rfl dX6_carryOutOrder_85 ?_
        refine va_get (D := D) (ci := 2) (v := .int (rd 5)) (C := RX2) (T := TX2) (N := 6) hx hb hts inT_X2 hown hK.1 hP 3 rfl rfl 5 (by decide) (hts _ wfl_RX6_286) (fun _ h9 => h9) rfl dX6_carryOutOrder_88 ?_
        obtain ⟨z_7, hz_7⟩ : ∃ q, q = (pX0_takeLine u w (rd 4) (rd 5)) := ⟨_, rfl⟩
        refine mVB (bl := [wRt Z C TR SN HI Y P R rt, wPd cyC P sg pw, wRd R P rd, wC cyI C u w, wHM cyI cyO HI BB h r v, wC cyI TR tu tw, wC cyI SN su sw, wWy cyI Y g]) (bl' := [wRt Z C TR SN HI Y P R rt, wPd cyC P sg pw, wRd R P rd, wC cyI C z_7.2.1 z_7.2.2, wHM cyI cyO HI BB h r v, wC cyI TR tu tw, wC cyI SN su sw, wWy cyI Y g]) (WSb := [wC cyI C u w]) (WSb' := [wC cyI C z_7.2.1 z_7.2.2]) (As := [.int (rd 4), .int (rd 5)]) (rest := []) hx hb hml hown hts hl.1 (WS := (wC cyI C u w)) (WS' := (wC cyI C z_7.2.1 z_7.2.2)) (ro := (some (.int z_7.1))) (by rw [hz_7]; exact kX0_takeLine l D cyC cyI cyO C u w (rd 4) (rd 5) (hord (Or.inr (Or.inl c_3))).2) bV_X0_takeLine wml_RX6_118 ⟨rfl, rfl⟩ ⟨Nat.le_of_ble_eq_true rfl, Nat.le_of_ble_eq_true rfl, Nat.zero_le _, Nat.zero_le _⟩ [3] (by simp only [List.flatten_cons, List.flatten_nil, List.append_nil]) (by simp only [List.flatten_cons, List.flatten_nil, List.append_nil]) rfl rfl rfl rfl rfl hP hD hS hA hK 0 rfl rfl rfl rfl rfl (Nat.le_of_ble_eq_true rfl) dX6_carryOutOrder_91 (fun H locs hP hD hS => ?_)
        refine rS (As := [.int z_7.1]) (rest := []) hx hb hml hown hts hl.1 (kX6_causeIn l D cyC cyI cyO z_7.1) bS_X6_causeIn  wml_RX6_289 ⟨rfl, rfl⟩ ⟨Nat.le_of_ble_eq_true rfl, Nat.le_of_ble_eq_true rfl, Nat.zero_le _, Nat.zero_le _⟩ [] rfl hP hK rfl rfl (Nat.le_of_ble_eq_true rfl) dX6_carryOutOrder_94 ?_
        have e9 : (pX6_carryOutOrder rt sg pw rd u w h r v tu tw su sw g) = ((pX6_causeIn z_7.1), z_7.2.1, z_7.2.2) := by simp only [pX6_carryOutOrder, ← hz_7, if_neg c_1, if_neg c_2, if_pos c_3]
        have e9_0 : (pX6_carryOutOrder rt sg pw rd u w h r v tu tw su sw g).1 = (pX6_causeIn z_7.1) := by rw [e9]
        have e9_1 : (pX6_carryOutOrder rt sg pw rd u w h r v tu tw su sw g).2.1 = z_7.2.1 := by rw [e9]
        have e9_2 : (pX6_carryOutOrder rt sg pw rd u w h r v tu tw su sw g).2.2 = z_7.2.2 := by rw [e9]
        exact W.iret (v := (pX6_causeIn z_7.1)) hx hb hr (fun t ht hW => ⟨⟨by rw [e9_0], by rw [e9_1, e9_2, ht]; exact hP⟩, hS.F ht⟩) hS.2.2 dX6_carryOutOrder_97
      · by_cases c_4 : (rd 3) = 119
        · refine lv_lookup (off := 91) (tgt := 98) hx hb dX6_carryOutOrder_7 (by decide) (by rw [c_4]; rfl) (by decide) ?_
          refine lv_aload_n hx hb dX6_carryOutOrder_98 rfl (lv_at hl 0 rfl) ?_
          refine va_get (D := D) (ci := 5) (v := .ref (C 0)) (C := RX6) (T := TX6) (N := 12) hx hb hts inT_X6 hown hK.1 hP 0 rfl rfl 0 (by decide) (hts _ wfl_RX6_10) (fun _ h9 => h9) rfl dX6_carryOutOrder_99 ?_
          refine lv_aload_n hx hb dX6_carryOutOrder_102 rfl (lv_at hl 0 rfl) ?_
          refine va_get (D := D) (ci := 5) (v := .ref (R 0)) (C := RX6) (T := TX6) (N := 12) hx hb hts inT_X6 hown hK.1 hP 0 rfl rfl 7 (by decide) (hts _ wfl_RX6_48) (fun _ h9 => h9) rfl dX6_carryOutOrder_103 ?_
          refine va_get (D := D) (ci := 2) (v := .int (rd 4)) (C := RX2) (T := TX2) (N := 6) hx hb hts inT_X2 hown hK.1 hP 3 rfl rfl 4 (by decide) (hts _ wfl_RX6_283) (fun _ h9 => h9) rfl dX6_carryOutOrder_106 ?_
          refine lv_aload_n hx hb dX6_carryOutOrder_109 rfl (lv_at hl 0 rfl) ?_
          refine va_get (D := D) (ci := 5) (v := .ref (R 0)) (C := RX6) (T := TX6) (N := 12) hx hb hts inT_X6 hown hK.1 hP 0 rfl rfl 7 (by decide) (hts _ wfl_RX6_48) (fun _ h9 => h9) rfl dX6_carryOutOrder_110 ?_
          refine va_get (D := D) (ci := 2) (v := .int (rd 5)) (C := RX2) (T := TX2) (N := 6) hx hb hts inT_X2 hown hK.1 hP 3 rfl rfl 5 (by decide) (hts _ wfl_RX6_286) (fun _ h9 => h9) rfl dX6_carryOutOrder_113 ?_
          refine rVB (bl := [wRt Z C TR SN HI Y P R rt, wPd cyC P sg pw, wRd R P rd, wC cyI C u w, wHM cyI cyO HI BB h r v, wC cyI TR tu tw, wC cyI SN su sw, wWy cyI Y g]) (WSb := [wC cyI C u w]) (As := [.int (rd 4), .int (rd 5)]) (rest := []) hx hb hml hown hts hl.1 (kX0_standsAt l D cyC cyI cyO C u w (rd 4) (rd 5) (hord (Or.inr (Or.inr c_4))).1) bV_X0_standsAt wml_RX6_121 ⟨rfl, rfl⟩ ⟨Nat.le_of_ble_eq_true rfl, Nat.le_of_ble_eq_true rfl, Nat.zero_le _, Nat.zero_le _⟩ [3] (by simp only [List.flatten_cons, List.flatten_nil, List.append_nil]) rfl hP hK 0 rfl rfl rfl rfl rfl (Nat.le_of_ble_eq_true rfl) dX6_carryOutOrder_116 ?_
          refine lv_if_ne (tgt := 125) hx hb dX6_carryOutOrder_119 (by decide) (fun c_8 => ?_) (fun c_8 => ?_)
          · refine lv_aload_n hx hb dX6_carryOutOrder_125 rfl (lv_at hl 0 rfl) ?_
            refine va_get (D := D) (ci := 5) (v := .ref (C 0)) (C := RX6) (T := TX6) (N := 12) hx hb hts inT_X6 hown hK.1 hP 0 rfl rfl 0 (by decide) (hts _ wfl_RX6_10) (fun _ h9 => h9) rfl dX6_carryOutOrder_126 ?_
            refine lv_aload_n hx hb dX6_carryOutOrder_129 rfl (lv_at hl 0 rfl) ?_
            refine va_get (D := D) (ci := 5) (v := .ref (R 0)) (C := RX6) (T := TX6) (N := 12) hx hb hts inT_X6 hown hK.1 hP 0 rfl rfl 7 (by decide) (hts _ wfl_RX6_48) (fun _ h9 => h9) rfl dX6_carryOutOrder_130 ?_
            refine va_get (D := D) (ci := 2) (v := .int (rd 4)) (C := RX2) (T := TX2) (N := 6) hx hb hts inT_X2 hown hK.1 hP 3 rfl rfl 4 (by decide) (hts _ wfl_RX6_283) (fun _ h9 => h9) rfl dX6_carryOutOrder_133 ?_
            refine lv_aload_n hx hb dX6_carryOutOrder_136 rfl (lv_at hl 0 rfl) ?_
            refine va_get (D := D) (ci := 5) (v := .ref (R 0)) (C := RX6) (T := TX6) (N := 12) hx hb hts inT_X6 hown hK.1 hP 0 rfl rfl 7 (by decide) (hts _ wfl_RX6_48) (fun _ h9 => h9) rfl dX6_carryOutOrder_137 ?_
            refine va_get (D := D) (ci := 2) (v := .int (rd 5)) (C := RX2) (T := TX2) (N := 6) hx hb hts inT_X2 hown hK.1 hP 3 rfl rfl 5 (by decide) (hts _ wfl_RX6_286) (fun _ h9 => h9) rfl dX6_carryOutOrder_140 ?_
            obtain ⟨z_9, hz_9⟩ : ∃ q, q = (pX0_walkOver u w (rd 4) (rd 5)) := ⟨_, rfl⟩
            refine mVB (bl := [wRt Z C TR SN HI Y P R rt, wPd cyC P sg pw, wRd R P rd, wC cyI C u w, wHM cyI cyO HI BB h r v, wC cyI TR tu tw, wC cyI SN su sw, wWy cyI Y g]) (bl' := [wRt Z C TR SN HI Y P R rt, wPd cyC P sg pw, wRd R P rd, wC cyI C z_9.2.1 z_9.2.2, wHM cyI cyO HI BB h r v, wC cyI TR tu tw, wC cyI SN su sw, wWy cyI Y g]) (WSb := [wC cyI C u w]) (WSb' := [wC cyI C z_9.2.1 z_9.2.2]) (As := [.int (rd 4), .int (rd 5)]) (rest := []) hx hb hml hown hts hl.1 (WS := (wC cyI C u w)) (WS' := (wC cyI C z_9.2.1 z_9.2.2)) (ro := (some (.int z_9.1))) (by rw [hz_9]; exact kX0_walkOver l D cyC cyI cyO C u w (rd 4) (rd 5) (hord (Or.inr (Or.inr c_4))).1 (hord (Or.inr (Or.inr c_4))).2) bV_X0_walkOver wml_RX6_125 ⟨rfl, rfl⟩ ⟨Nat.le_of_ble_eq_true rfl, Nat.le_of_ble_eq_true rfl, Nat.zero_le _, Nat.zero_le _⟩ [3] (by simp only [List.flatten_cons, List.flatten_nil, List.append_nil]) (by simp only [List.flatten_cons, List.flatten_nil, List.append_nil]) rfl rfl rfl rfl rfl hP hD hS hA hK 0 rfl rfl rfl rfl rfl (Nat.le_of_ble_eq_true rfl) dX6_carryOutOrder_143 (fun H locs hP hD hS => ?_)
            refine rS (As := [.int z_9.1]) (rest := []) hx hb hml hown hts hl.1 (kX6_causeIn l D cyC cyI cyO z_9.1) bS_X6_causeIn  wml_RX6_289 ⟨rfl, rfl⟩ ⟨Nat.le_of_ble_eq_true rfl, Nat.le_of_ble_eq_true rfl, Nat.zero_le _, Nat.zero_le _⟩ [] rfl hP hK rfl rfl (Nat.le_of_ble_eq_true rfl) dX6_carryOutOrder_146 ?_
            have e9 : (pX6_carryOutOrder rt sg pw rd u w h r v tu tw su sw g) = ((pX6_causeIn z_9.1), z_9.2.1, z_9.2.2) := by simp only [pX6_carryOutOrder, ← hz_9, if_neg c_1, if_neg c_2, if_neg c_3, if_pos c_4, if_neg c_8]
            have e9_0 : (pX6_carryOutOrder rt sg pw rd u w h r v tu tw su sw g).1 = (pX6_causeIn z_9.1) := by rw [e9]
            have e9_1 : (pX6_carryOutOrder rt sg pw rd u w h r v tu tw su sw g).2.1 = z_9.2.1 := by rw [e9]
            have e9_2 : (pX6_carryOutOrder rt sg pw rd u w h r v tu tw su sw g).2.2 = z_9.2.2 := by rw [e9]
            exact W.iret (v := (pX6_causeIn z_9.1)) hx hb hr (fun t ht hW => ⟨⟨by rw [e9_0], by rw [e9_1, e9_2, ht]; exact hP⟩, hS.F ht⟩) hS.2.2 dX6_carryOutOrder_149
          · refine lv_bipush (v := (-2)) hx hb dX6_carryOutOrder_122 (by decide) ?_
            have e9 : (pX6_carryOutOrder rt sg pw rd u w h r v tu tw su sw g) = ((-2), u, w) := by simp only [pX6_carryOutOrder, if_neg c_1, if_neg c_2, if_neg c_3, if_pos c_4, if_pos c_8]
            have e9_0 : (pX6_carryOutOrder rt sg pw rd u w h r v tu tw su sw g).1 = (-2) := by rw [e9]
            have e9_1 : (pX6_carryOutOrder rt sg pw rd u w h r v tu tw su sw g).2.1 = u := by rw [e9]
            have e9_2 : (pX6_carryOutOrder rt sg pw rd u w h r v tu tw su sw g).2.2 = w := by rw [e9]
            exact W.iret (v := (-2)) hx hb hr (fun t ht hW => ⟨⟨by rw [e9_0], by rw [e9_1, e9_2, ht]; exact hP⟩, hS.F ht⟩) hS.2.2 dX6_carryOutOrder_124
        · refine lv_lookup (off := 159) (tgt := 166) hx hb dX6_carryOutOrder_7 (by decide) (by refine (lv_osw (k := 99) c_1 (by decide)).trans ?_; refine (lv_osw (k := 104) c_2 (by decide)).trans ?_; refine (lv_osw (k := 116) c_3 (by decide)).trans ?_; refine (lv_osw (k := 119) c_4 (by decide)).trans ?_; rfl) (by decide) ?_
          refine lv_aload_n hx hb dX6_carryOutOrder_166 rfl (lv_at hl 0 rfl) ?_
          refine va_get (D := D) (ci := 5) (v := .ref (C 0)) (C := RX6) (T := TX6) (N := 12) hx hb hts inT_X6 hown hK.1 hP 0 rfl rfl 0 (by decide) (hts _ wfl_RX6_10) (fun _ h9 => h9) rfl dX6_carryOutOrder_167 ?_
          obtain ⟨z_10, hz_10⟩ : ∃ q, q = (pX0_passDay u w) := ⟨_, rfl⟩
          refine mVB (bl := [wRt Z C TR SN HI Y P R rt, wPd cyC P sg pw, wRd R P rd, wC cyI C u w, wHM cyI cyO HI BB h r v, wC cyI TR tu tw, wC cyI SN su sw, wWy cyI Y g]) (bl' := [wRt Z C TR SN HI Y P R rt, wPd cyC P sg pw, wRd R P rd, wC cyI C z_10.1 z_10.2, wHM cyI cyO HI BB h r v, wC cyI TR tu tw, wC cyI SN su sw, wWy cyI Y g]) (WSb := [wC cyI C u w]) (WSb' := [wC cyI C z_10.1 z_10.2]) (As := []) (rest := []) hx hb hml hown hts hl.1 (WS := (wC cyI C u w)) (WS' := (wC cyI C z_10.1 z_10.2)) (ro := none) (by rw [hz_10]; exact kX0_passDay l D cyC cyI cyO C u w hq) bV_X0_passDay wml_RX6_128 ⟨rfl, rfl⟩ ⟨Nat.le_of_ble_eq_true rfl, Nat.le_of_ble_eq_true rfl, Nat.zero_le _, Nat.zero_le _⟩ [3] (by simp only [List.flatten_cons, List.flatten_nil, List.append_nil]) (by simp only [List.flatten_cons, List.flatten_nil, List.append_nil]) rfl rfl rfl rfl rfl hP hD hS hA hK 0 rfl rfl rfl rfl rfl (Nat.le_of_ble_eq_true rfl) dX6_carryOutOrder_170 (fun H locs hP hD hS => ?_)
          refine lv_iconst (v := 0) hx hb dX6_carryOutOrder_173 (by decide) ?_
          have e9 : (pX6_carryOutOrder rt sg pw rd u w h r v tu tw su sw g) = (0, z_10.1, z_10.2) := by simp only [pX6_carryOutOrder, ← hz_10, if_neg c_1, if_neg c_2, if_neg c_3, if_neg c_4]
          have e9_0 : (pX6_carryOutOrder rt sg pw rd u w h r v tu tw su sw g).1 = 0 := by rw [e9]
          have e9_1 : (pX6_carryOutOrder rt sg pw rd u w h r v tu tw su sw g).2.1 = z_10.1 := by rw [e9]
          have e9_2 : (pX6_carryOutOrder rt sg pw rd u w h r v tu tw su sw g).2.2 = z_10.2 := by rw [e9]
          exact W.iret (v := 0) hx hb hr (fun t ht hW => ⟨⟨by rw [e9_0], by rw [e9_1, e9_2, ht]; exact hP⟩, hS.F ht⟩) hS.2.2 dX6_carryOutOrder_174
theorem bV_X6_carryOutOrder : BV RX6 yX6_carryOutOrder cX6_carryOutOrder 1 (some .int) 0 := ⟨wcd_X6_carryOutOrder, wim_X6_carryOutOrder, wse_X6_carryOutOrder, win_RX6, by decide +kernel⟩
