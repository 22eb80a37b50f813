theorem vp_le {x : Int32} {n N : Nat} (h : vp_in x n) (hN : n ≤ N) : vp_in x N := fun q => h (q.elim Or.inl (fun z => Or.inr (Nat.le_trans hN z)))
theorem wi_in {x : Int32} {a b : Int32} {N : Nat} (ha : a.toInt = 0) (hb : b.toInt < N) (h : ¬ pX6_isWithin x a b = 0) : vp_in x N := by
  unfold pX6_isWithin at h
  split at h
  · exact absurd rfl h
  · split at h
    · exact absurd rfl h
    · rename_i h1 h2
      have a1 := Int32.le_iff_toInt_le.mp (Int32.not_lt.mp h1)
      have a2 := Int32.le_iff_toInt_le.mp (Int32.not_lt.mp h2)
      rw [vp_in_iff]
      omega
theorem ig_in {x : Int32} (h : ¬ pX4_isGangway x = 0) : vp_in x 28 := by
  unfold pX4_isGangway at h
  split at h
  · exact absurd rfl h
  · rename_i h1
    exact wi_in rfl (by decide) h1
theorem io_in {x : Int32} (h : ¬ pX6_isOwner x = 0) : vp_in x 4 := wi_in rfl (by decide) h
theorem ir_in {x : Int32} (h : ¬ pX6_isRoof x = 0) : vp_in x 16 := wi_in rfl (by decide) h
def pX6_bears (rt : (Nat → Int32)) (sg : (Nat → Nat → Int32)) (pw : (Nat → Int32)) (rd : (Nat → Int32)) (u : (Nat → Nat → Int32)) (w : (Nat → Int32)) (h : (Nat → (Nat → Nat → Int32) × (Nat → Int32))) (r : Nat) (v : (Nat → Int32)) (tu : (Nat → Nat → Int32)) (tw : (Nat → Int32)) (su : (Nat → Nat → Int32)) (sw : (Nat → Int32)) (g : (Nat → Nat → Int32)) (a1 : Int32) (a2 : Int32) : Int32 × (Nat → (Nat → Nat → Int32) × (Nat → Int32)) × Nat × (Nat → Int32) × (Nat → Nat → Int32) × (Nat → Int32) := (if (pX4_isGangway a1) = 0 then ((-1), h, r, v, u, w) else (if (pX6_isWithin a2 0 9) = 0 then ((-1), h, r, v, u, w) else (((u 0) (a1).toNatClampNeg), (va_up h ((r + 3) % 4) (u, w)), ((r + 3) % 4), (va_up v 1 (if 4 < ((v 1) + (1 : Int32)) then 4 else ((v 1) + (1 : Int32)))), (pX0_letBear u w a1 a2).1, (pX0_letBear u w a1 a2).2)))
set_option maxHeartbeats 4000000 in
set_option maxRecDepth 100000 in
theorem kX6_bears (l : Launch) (D : va_G) (cyC cyI cyO : ClassId) (Z : Nat → Nat) (C : Nat → Nat) (TR : Nat → Nat) (SN : Nat → Nat) (HI : Nat → Nat) (Y : Nat → Nat) (P : Nat → Nat) (R : Nat → Nat) (BB : Nat → Nat → Nat) (rt : (Nat → Int32)) (sg : (Nat → Nat → Int32)) (pw : (Nat → Int32)) (rd : (Nat → Int32)) (u : (Nat → Nat → Int32)) (w : (Nat → Int32)) (h : (Nat → (Nat → Nat → Int32) × (Nat → Int32))) (r : Nat) (v : (Nat → Int32)) (tu : (Nat → Nat → Int32)) (tw : (Nat → Int32)) (su : (Nat → Nat → Int32)) (sw : (Nat → Int32)) (g : (Nat → Nat → Int32)) (a1 : Int32) (a2 : Int32) (hr4 : r < 4) : MU l yX6_bears (Ty yX6_bears cX6_bears 4 (some .int)) ({ frames := 3, cells := 0, slots := 0, locals := 84 } : Room) D cyC cyI cyO (List.flatten [wRt Z C TR SN HI Y P R rt, wPd cyC P sg pw, wRd R P rd, wC cyI C u w, wHM cyI cyO HI BB h r v, wC cyI TR tu tw, wC cyI SN su sw, wWy cyI Y g]) [.ref (Z 0), .int a1, .int a2] (some (.int (pX6_bears rt sg pw rd u w h r v tu tw su sw g a1 a2).1)) (List.flatten [wRt Z C TR SN HI Y P R rt, wPd cyC P sg pw, wRd R P rd, wC cyI C (pX6_bears rt sg pw rd u w h r v tu tw su sw g a1 a2).2.2.2.2.1 (pX6_bears rt sg pw rd u w h r v tu tw su sw g a1 a2).2.2.2.2.2, wHM cyI cyO HI BB (pX6_bears rt sg pw rd u w h r v tu tw su sw g a1 a2).2.1 (pX6_bears rt sg pw rd u w h r v tu tw su sw g a1 a2).2.2.1 (pX6_bears rt sg pw rd u w h r v tu tw su sw g a1 a2).2.2.2.1, wC cyI TR tu tw, wC cyI SN su sw, wWy cyI Y g]) := by
  intro sz
  refine Met.ofW (cc := cX6_bears) (maxL := 4) (ret := (some .int)) (by decide) rfl ?_
  intro p e s m args below meth cd s₁ B hml hv
  obtain ⟨rfl, hsz, hP, hK, hD0⟩ := hv
  have hx := B.exec
  have hb := B.bytes
  have hr := B.returns
  have hts : ∀ w ∈ TB, w.before ([.ref (Z 0), .int a1, .int a2] : List Value).toArray s = true := fun w h => atoms_spec (ws := (Ty yX6_bears cX6_bears 4 (some .int))) B.pre w (List.mem_cons_of_mem _ h)
  have hown : s.vm.findClass RX6 = some m.cls := findClass_of_methodNamed B.named
  have hlocks := B.notSynchronized
  subst hsz
  have hD := hD0.self (sz := s.heap.size)
  have hA : ∀ q : Nat, s.heap.size ≤ q → (va_A (List.flatten [wRt Z C TR SN HI Y P R rt, wPd cyC P sg pw, wRd R P rd, wC cyI C u w, wHM cyI cyO HI BB h r v, wC cyI TR tu tw, wC cyI SN su sw, wWy cyI Y g]) s.heap.size) q := fun q h => Or.inr h
  generalize hAe : va_A (List.flatten [wRt Z C TR SN HI Y P R rt, wPd cyC P sg pw, wRd R P rd, wC cyI C u w, wHM cyI cyO HI BB h r v, wC cyI TR tu tw, wC cyI SN su sw, wWy cyI Y g]) s.heap.size = A0 at hD hA ⊢
  have hS : va_S A0 s.heap s.heap [] := va_S.rf
  have hl := lv_entry ([.ref (Z 0), .int a1, .int a2]) (n := 4) (Nat.le_of_ble_eq_true rfl)
  rw [lg_entry_eq]
  generalize (lg_sl ([.ref (Z 0), .int a1, .int a2]) ++ List.replicate (4 - (lg_sl ([.ref (Z 0), .int a1, .int a2])).length) Slot.unset).toArray = ls at hl ⊢
  have hl : lv_has ls 4 [(0, .ref (Z 0)), (1, .int a1), (2, .int a2)] := hl
  refine lv_iload_n hx hb dX6_bears_0 rfl (lv_at hl 1 rfl) ?_
  refine rS (As := [.int a1]) (rest := []) hx hb hml hown hts hl.1 (kX4_isGangway l D cyC cyI cyO a1) bS_X4_isGangway  wml_RX6_52 ⟨rfl, rfl⟩ ⟨Nat.le_of_ble_eq_true rfl, Nat.le_of_ble_eq_true rfl, Nat.zero_le _, Nat.zero_le _⟩ [] rfl hP hK rfl rfl (Nat.le_of_ble_eq_true rfl) dX6_bears_1 ?_
  refine lv_if_eq (tgt := 17) hx hb dX6_bears_4 (by decide) (fun c_1 => ?_) (fun c_1 => ?_)
  · refine lv_iconst (v := (-1)) hx hb dX6_bears_17 (by decide) ?_
    have e9 : (pX6_bears rt sg pw rd u w h r v tu tw su sw g a1 a2) = ((-1), h, r, v, u, w) := by simp only [pX6_bears, if_pos c_1]
    have e9_0 : (pX6_bears rt sg pw rd u w h r v tu tw su sw g a1 a2).1 = (-1) := by rw [e9]
    have e9_1 : (pX6_bears rt sg pw rd u w h r v tu tw su sw g a1 a2).2.1 = h := by rw [e9]
    have e9_2 : (pX6_bears rt sg pw rd u w h r v tu tw su sw g a1 a2).2.2.1 = r := by rw [e9]
    have e9_3 : (pX6_bears rt sg pw rd u w h r v tu tw su sw g a1 a2).2.2.2.1 = v := by rw [e9]
    have e9_4 : (pX6_bears rt sg pw rd u w h r v tu tw su sw g a1 a2).2.2.2.2.1 = u := by rw [e9]
    have e9_5 : (pX6_bears rt sg pw rd u w h r v tu tw su sw g a1 a2).2.2.2.2.2 = w := by rw [e9]
    exact W.iret (v := (-1)) hx hb hr (fun t ht hW => ⟨⟨by rw [e9_0], by rw [e9_1, e9_2, e9_3, e9_4, e9_5, ht]; exact hP⟩, hS.F ht⟩) hS.2.2 dX6_bears_18
  · refine lv_iload_n hx hb dX6_bears_7 rfl (lv_at hl 2 rfl) ?_
    refine lv_iconst (v := 0) hx hb dX6_bears_8 (by decide) ?_
    refine lv_bipush (v := 9) hx hb dX6_bears_9 (by decide) ?_
    refine rS (As := [.int a2, .int 0, .int 9]) (rest := []) hx hb hml hown hts hl.1 (kX6_isWithin l D cyC cyI cyO a2 0 9) bS_X6_isWithin  wml_RX6_58 ⟨rfl, rfl⟩ ⟨Nat.le_of_ble_eq_true rfl, Nat.le_of_ble_eq_true rfl, Nat.zero_le _, Nat.zero_le _⟩ [] rfl hP hK rfl rfl (Nat.le_of_ble_eq_true rfl) dX6_bears_11 ?_
    refine lv_if_ne (tgt := 19) hx hb dX6_bears_14 (by decide) (fun c_2 => ?_) (fun c_2 => ?_)
    · refine lv_aload_n hx hb dX6_bears_19 rfl (lv_at hl 0 rfl) ?_
      refine va_get (D := D) (ci := 5) (v := .ref (HI 0)) (C := RX6) (T := TX6) (N := 12) hx hb hts inT_X6 hown hK.1 hP 0 rfl rfl 4 (by decide) (hts _ wfl_RX6_25) (fun _ h9 => h9) rfl dX6_bears_20 ?_
      refine lv_aload_n hx hb dX6_bears_23 rfl (lv_at hl 0 rfl) ?_
      refine va_get (D := D) (ci := 5) (v := .ref (C 0)) (C := RX6) (T := TX6) (N := 12) hx hb hts inT_X6 hown hK.1 hP 0 rfl rfl 0 (by decide) (hts _ wfl_RX6_10) (fun _ h9 => h9) rfl dX6_bears_24 ?_
      refine mVB (bl := [wRt Z C TR SN HI Y P R rt, wPd cyC P sg pw, wRd R P rd, wC cyI C u w, wHM cyI cyO HI BB h r v, wC cyI TR tu tw, wC cyI SN su sw, wWy cyI Y g]) (bl' := [wRt Z C TR SN HI Y P R rt, wPd cyC P sg pw, wRd R P rd, wC cyI C u w, wHM cyI cyO HI BB (va_up h ((r + 3) % 4) (u, w)) ((r + 3) % 4) (va_up v 1 (if 4 < ((v 1) + (1 : Int32)) then 4 else ((v 1) + (1 : Int32)))), wC cyI TR tu tw, wC cyI SN su sw, wWy cyI Y g]) (WSb := [wHM cyI cyO HI BB h r v, wC cyI C u w]) (WSb' := [wHM cyI cyO HI BB (va_up h ((r + 3) % 4) (u, w)) ((r + 3) % 4) (va_up v 1 (if 4 < ((v 1) + (1 : Int32)) then 4 else ((v 1) + (1 : Int32)))), wC cyI C u w]) (As := [.ref (C 0)]) (rest := []) hx hb hml hown hts hl.1 (WS := (List.flatten [wHM cyI cyO HI BB h r v, wC cyI C u w])) (WS' := (List.flatten [wHM cyI cyO HI BB (va_up h ((r + 3) % 4) (u, w)) ((r + 3) % 4) (va_up v 1 (if 4 < ((v 1) + (1 : Int32)) then 4 else ((v 1) + (1 : Int32)))), wC cyI C u w])) (ro := none) (kX1_pushM l D cyC cyI cyO HI BB C h r v u w hr4) bV_X1_push wml_RX6_62 ⟨rfl, rfl⟩ ⟨Nat.le_of_ble_eq_true rfl, Nat.le_of_ble_eq_true rfl, Nat.zero_le _, Nat.zero_le _⟩ [4, 3] rfl rfl rfl rfl rfl rfl rfl hP hD hS hA hK 0 rfl rfl rfl rfl rfl (Nat.le_of_ble_eq_true rfl) dX6_bears_27 (fun H locs hP hD hS => ?_)
      refine lv_aload_n hx hb dX6_bears_30 rfl (lv_at hl 0 rfl) ?_
      refine va_get (D := D) (ci := 5) (v := .ref (C 0)) (C := RX6) (T := TX6) (N := 12) hx hb hts inT_X6 hown hK.1 hP 0 rfl rfl 0 (by decide) (hts _ wfl_RX6_10) (fun _ h9 => h9) rfl dX6_bears_31 ?_
      refine va_get (D := D) (ci := 0) (v := .ref (C 1)) (C := RX0) (T := TX0) (N := 19) hx hb hts inT_X0 hown hK.1 hP 4 rfl rfl 0 (by decide) (hts _ wfl_RX6_66) (fun _ h9 => h9) rfl dX6_bears_34 ?_
      refine lv_iload_n hx hb dX6_bears_37 rfl (lv_at hl 1 rfl) ?_
      refine va_iald (D := D) (f := (u 0)) hx hb hK.1 hP 5 1 rfl rfl (ig_in c_1) dX6_bears_38 ?_
      refine lv_istore_n (lv' := [(3, .int ((u 0) (a1).toNatClampNeg)), (0, .ref (Z 0)), (1, .int a1), (2, .int a2)]) hx hb dX6_bears_39 rfl hl (by decide) rfl (fun ls hl => ?_)
      refine lv_aload_n hx hb dX6_bears_40 rfl (lv_at hl 1 rfl) ?_
      refine va_get (D := D) (ci := 5) (v := .ref (C 0)) (C := RX6) (T := TX6) (N := 12) hx hb hts inT_X6 hown hK.1 hP 0 rfl rfl 0 (by decide) (hts _ wfl_RX6_10) (fun _ h9 => h9) rfl dX6_bears_41 ?_
      refine lv_iload_n hx hb dX6_bears_44 rfl (lv_at hl 2 rfl) ?_
      refine lv_iload_n hx hb dX6_bears_45 rfl (lv_at hl 3 rfl) ?_
      obtain ⟨z_3, hz_3⟩ : ∃ q, q = (pX0_letBear u w a1 a2) := ⟨_, rfl⟩
      refine mVB (bl := [wRt Z C TR SN HI Y P R rt, wPd cyC P sg pw, wRd R P rd, wC cyI C u w, wHM cyI cyO HI BB (va_up h ((r + 3) % 4) (u, w)) ((r + 3) % 4) (va_up v 1 (if 4 < ((v 1) + (1 : Int32)) then 4 else ((v 1) + (1 : Int32)))), wC cyI TR tu tw, wC cyI SN su sw, wWy cyI Y g]) (bl' := [wRt Z C TR SN HI Y P R rt, wPd cyC P sg pw, wRd R P rd, wC cyI C z_3.1 z_3.2, wHM cyI cyO HI BB (va_up h ((r + 3) % 4) (u, w)) ((r + 3) % 4) (va_up v 1 (if 4 < ((v 1) + (1 : Int32)) then 4 else ((v 1) + (1 : Int32)))), wC cyI TR tu tw, wC cyI SN su sw, wWy cyI Y g]) (WSb := [wC cyI C u w]) (WSb' := [wC cyI C z_3.1 z_3.2]) (As := [.int a1, .int a2]) (rest := []) hx hb hml hown hts hl.1 (WS := (wC cyI C u w)) (WS' := (wC cyI C z_3.1 z_3.2)) (ro := none) (by rw [hz_3]; exact kX0_letBear l D cyC cyI cyO C u w a1 a2 (ig_in c_1)) bV_X0_letBear wml_RX6_70 ⟨rfl, rfl⟩ ⟨Nat.le_of_ble_eq_true rfl, Nat.le_of_ble_eq_true rfl, Nat.zero_le _, Nat.zero_le _⟩ [3] (by simp only [List.flatten_cons, List.flatten_nil, List.append_nil]) (by simp only [List.flatten_cons, List.flatten_nil, List.append_nil]) rfl rfl rfl rfl rfl hP hD hS hA hK 0 rfl rfl rfl rfl rfl (Nat.le_of_ble_eq_true rfl) dX6_bears_46 (fun H locs hP hD hS => ?_)
      refine lv_iload_n hx hb dX6_bears_49 rfl (lv_at hl 0 rfl) ?_
      have e9 : (pX6_bears rt sg pw rd u w h r v tu tw su sw g a1 a2) = (((u 0) (a1).toNatClampNeg), (va_up h ((r + 3) % 4) (u, w)), ((r + 3) % 4), (va_up v 1 (if 4 < ((v 1) + (1 : Int32)) then 4 else ((v 1) + (1 : Int32)))), z_3.1, z_3.2) := by simp only [pX6_bears, ← hz_3, if_neg c_1, if_neg c_2]
      have e9_0 : (pX6_bears rt sg pw rd u w h r v tu tw su sw g a1 a2).1 = ((u 0) (a1).toNatClampNeg) := by rw [e9]
      have e9_1 : (pX6_bears rt sg pw rd u w h r v tu tw su sw g a1 a2).2.1 = (va_up h ((r + 3) % 4) (u, w)) := by rw [e9]
      have e9_2 : (pX6_bears rt sg pw rd u w h r v tu tw su sw g a1 a2).2.2.1 = ((r + 3) % 4) := by rw [e9]
      have e9_3 : (pX6_bears rt sg pw rd u w h r v tu tw su sw g a1 a2).2.2.2.1 = (va_up v 1 (if 4 < ((v 1) + (1 : Int32)) then 4 else ((v 1) + (1 : Int32)))) := by rw [e9]
      have e9_4 : (pX6_bears rt sg pw rd u w h r v tu tw su sw g a1 a2).2.2.2.2.1 = z_3.1 := by rw [e9]
      have e9_5 : (pX6_bears rt sg pw rd u w h r v tu tw su sw g a1 a2).2.2.2.2.2 = z_3.2 := by rw [e9]
      exact W.iret (v := ((u 0) (a1).toNatClampNeg)) hx hb hr (fun t ht hW => ⟨⟨by rw [e9_0], by rw [e9_1, e9_2, e9_3, e9_4, e9_5, ht]; exact hP⟩, hS.F ht⟩) hS.2.2 dX6_bears_50
    · refine lv_iconst (v := (-1)) hx hb dX6_bears_17 (by decide) ?_
      have e9 : (pX6_bears rt sg pw rd u w h r v tu tw su sw g a1 a2) = ((-1), h, r, v, u, w) := by simp only [pX6_bears, if_neg c_1, if_pos c_2]
      have e9_0 : (pX6_bears rt sg pw rd u w h r v tu tw su sw g a1 a2).1 = (-1) := by rw [e9]
      have e9_1 : (pX6_bears rt sg pw rd u w h r v tu tw su sw g a1 a2).2.1 = h := by rw [e9]
      have e9_2 : (pX6_bears rt sg pw rd u w h r v tu tw su sw g a1 a2).2.2.1 = r := by rw [e9]
      have e9_3 : (pX6_bears rt sg pw rd u w h r v tu tw su sw g a1 a2).2.2.2.1 = v := by rw [e9]
      have e9_4 : (pX6_bears rt sg pw rd u w h r v tu tw su sw g a1 a2).2.2.2.2.1 = u := by rw [e9]
      have e9_5 : (pX6_bears rt sg pw rd u w h r v tu tw su sw g a1 a2).2.2.2.2.2 = w := by rw [e9]
      exact W.iret (v := (-1)) hx hb hr (fun t ht hW => ⟨⟨by rw [e9_0], by rw [e9_1, e9_2, e9_3, e9_4, e9_5, ht]; exact hP⟩, hS.F ht⟩) hS.2.2 dX6_bears_18
theorem bV_X6_bears : BV RX6 yX6_bears cX6_bears 4 (some .int) 2 := ⟨wcd_X6_bears, wim_X6_bears, wse_X6_bears, win_RX6, by decide +kernel⟩
def pX6_wind (rt : (Nat → Int32)) (sg : (Nat → Nat → Int32)) (pw : (Nat → Int32)) (rd : (Nat → Int32)) (u : (Nat → Nat → Int32)) (w : (Nat → Int32)) (h : (Nat → (Nat → Nat → Int32) × (Nat → Int32))) (r : Nat) (v : (Nat → Int32)) (tu : (Nat → Nat → Int32)) (tw : (Nat → Int32)) (su : (Nat → Nat → Int32)) (sw : (Nat → Int32)) (g : (Nat → Nat → Int32)) (a1 : Int32) : Int32 × (Nat → (Nat → Nat → Int32) × (Nat → Int32)) × Nat × (Nat → Int32) × (Nat → Nat → Int32) × (Nat → Int32) := (if (pX6_isWithin a1 0 3) = 0 then ((-1), h, r, v, u, w) else ((w 11), (va_up h ((r + 3) % 4) (u, w)), ((r + 3) % 4), (va_up v 1 (if 4 < ((v 1) + (1 : Int32)) then 4 else ((v 1) + (1 : Int32)))), u, (va_up w 11 a1)))
set_option maxHeartbeats 4000000 in
set_option maxRecDepth 100000 in
theorem kX6_wind (l : Launch) (D : va_G) (cyC cyI cyO : ClassId) (Z : Nat → Nat) (C : Nat → Nat) (TR : Nat → Nat) (SN : Nat → Nat) (HI : Nat → Nat) (Y : Nat → Nat) (P : Nat → Nat) (R : Nat → Nat) (BB : Nat → Nat → Nat) (rt : (Nat → Int32)) (sg : (Nat → Nat → Int32)) (pw : (Nat → Int32)) (rd : (Nat → Int32)) (u : (Nat → Nat → Int32)) (w : (Nat → Int32)) (h : (Nat → (Nat → Nat → Int32) × (Nat → Int32))) (r : Nat) (v : (Nat → Int32)) (tu : (Nat → Nat → Int32)) (tw : (Nat → Int32)) (su : (Nat → Nat → Int32)) (sw : (Nat → Int32)) (g : (Nat → Nat → Int32)) (a1 : Int32) (hr4 : r < 4) : MU l yX6_wind (Ty yX6_wind cX6_wind 3 (some .int)) ({ frames := 3, cells := 0, slots := 0, locals := 84 } : Room) D cyC cyI cyO (List.flatten [wRt Z C TR SN HI Y P R rt, wPd cyC P sg pw, wRd R P rd, wC cyI C u w, wHM cyI cyO HI BB h r v, wC cyI TR tu tw, wC cyI SN su sw, wWy cyI Y g]) [.ref (Z 0), .int a1] (some (.int (pX6_wind rt sg pw rd u w h r v tu tw su sw g a1).1)) (List.flatten [wRt Z C TR SN HI Y P R rt, wPd cyC P sg pw, wRd R P rd, wC cyI C (pX6_wind rt sg pw rd u w h r v tu tw su sw g a1).2.2.2.2.1 (pX6_wind rt sg pw rd u w h r v tu tw su sw g a1).2.2.2.2.2, wHM cyI cyO HI BB (pX6_wind rt sg pw rd u w h r v tu tw su sw g a1).2.1 (pX6_wind rt sg pw rd u w h r v tu tw su sw g a1).2.2.1 (pX6_wind rt sg pw rd u w h r v tu tw su sw g a1).2.2.2.1, wC cyI TR tu tw, wC cyI SN su sw, wWy cyI Y g]) := by
  intro sz
  refine Met.ofW (cc := cX6_wind) (maxL := 3) (ret := (some .int)) (by decide) rfl ?_
  intro p e s m args below meth cd s₁ B hml hv
  obtain ⟨rfl, hsz, hP, hK, hD0⟩ := hv
  have hx := B.exec
  have hb := B.bytes
  have hr := B.returns
  have hts : ∀ w ∈ TB, w.before ([.ref (Z 0), .int a1] : List Value).toArray s = true := fun w h => atoms_spec (ws := (Ty yX6_wind cX6_wind 3 (some .int))) B.pre w (List.mem_cons_of_mem _ h)
  have hown : s.vm.findClass RX6 = some m.cls := findClass_of_methodNamed B.named
  have hlocks := B.notSynchronized
  subst hsz
  have hD := hD0.self (sz := s.heap.size)
  have hA : ∀ q : Nat, s.heap.size ≤ q → (va_A (List.flatten [wRt Z C TR SN HI Y P R rt, wPd cyC P sg pw, wRd R P rd, wC cyI C u w, wHM cyI cyO HI BB h r v, wC cyI TR tu tw, wC cyI SN su sw, wWy cyI Y g]) s.heap.size) q := fun q h => Or.inr h
  generalize hAe : va_A (List.flatten [wRt Z C TR SN HI Y P R rt, wPd cyC P sg pw, wRd R P rd, wC cyI C u w, wHM cyI cyO HI BB h r v, wC cyI TR tu tw, wC cyI SN su sw, wWy cyI Y g]) s.heap.size = A0 at hD hA ⊢
  have hS : va_S A0 s.heap s.heap [] := va_S.rf
  have hl := lv_entry ([.ref (Z 0), .int a1]) (n := 3) (Nat.le_of_ble_eq_true rfl)
  rw [lg_entry_eq]
  generalize (lg_sl ([.ref (Z 0), .int a1]) ++ List.replicate (3 - (lg_sl ([.ref (Z 0), .int a1])).length) Slot.unset).toArray = ls at hl ⊢
  have hl : lv_has ls 3 [(0, .ref (Z 0)), (1, .int a1)] := hl
  refine lv_iload_n hx hb dX6_wind_0 rfl (lv_at hl 1 rfl) ?_
  refine lv_iconst (v := 0) hx hb dX6_wind_1 (by decide) ?_
  refine lv_iconst (v := 3) hx hb dX6_wind_2 (by decide) ?_
  refine rS (As := [.int a1, .int 0, .int 3]) (rest := []) hx hb hml hown hts hl.1 (kX6_isWithin l D cyC cyI cyO a1 0 3) bS_X6_isWithin  wml_RX6_58 ⟨rfl, rfl⟩ ⟨Nat.le_of_ble_eq_true rfl, Nat.le_of_ble_eq_true rfl, Nat.zero_le _, Nat.zero_le _⟩ [] rfl hP hK rfl rfl (Nat.le_of_ble_eq_true rfl) dX6_wind_3 ?_
  refine lv_if_ne (tgt := 11) hx hb dX6_wind_6 (by decide) (fun c_1 => ?_) (fun c_1 => ?_)
  · refine lv_aload_n hx hb dX6_wind_11 rfl (lv_at hl 0 rfl) ?_
    refine va_get (D := D) (ci := 5) (v := .ref (HI 0)) (C := RX6) (T := TX6) (N := 12) hx hb hts inT_X6 hown hK.1 hP 0 rfl rfl 4 (by decide) (hts _ wfl_RX6_25) (fun _ h9 => h9) rfl dX6_wind_12 ?_
    refine lv_aload_n hx hb dX6_wind_15 rfl (lv_at hl 0 rfl) ?_
    refine va_get (D := D) (ci := 5) (v := .ref (C 0)) (C := RX6) (T := TX6) (N := 12) hx hb hts inT_X6 hown hK.1 hP 0 rfl rfl 0 (by decide) (hts _ wfl_RX6_10) (fun _ h9 => h9) rfl dX6_wind_16 ?_
    refine mVB (bl := [wRt Z C TR SN HI Y P R rt, wPd cyC P sg pw, wRd R P rd, wC cyI C u w, wHM cyI cyO HI BB h r v, wC cyI TR tu tw, wC cyI SN su sw, wWy cyI Y g]) (bl' := [wRt Z C TR SN HI Y P R rt, wPd cyC P sg pw, wRd R P rd, wC cyI C u w, wHM cyI cyO HI BB (va_up h ((r + 3) % 4) (u, w)) ((r + 3) % 4) (va_up v 1 (if 4 < ((v 1) + (1 : Int32)) then 4 else ((v 1) + (1 : Int32)))), wC cyI TR tu tw, wC cyI SN su sw, wWy cyI Y g]) (WSb := [wHM cyI cyO HI BB h r v, wC cyI C u w]) (WSb' := [wHM cyI cyO HI BB (va_up h ((r + 3) % 4) (u, w)) ((r + 3) % 4) (va_up v 1 (if 4 < ((v 1) + (1 : Int32)) then 4 else ((v 1) + (1 : Int32)))), wC cyI C u w]) (As := [.ref (C 0)]) (rest := []) hx hb hml hown hts hl.1 (WS := (List.flatten [wHM cyI cyO HI BB h r v, wC cyI C u w])) (WS' := (List.flatten [wHM cyI cyO HI BB (va_up h ((r + 3) % 4) (u, w)) ((r + 3) % 4) (va_up v 1 (if 4 < ((v 1) + (1 : Int32)) then 4 else ((v 1) + (1 : Int32)))), wC cyI C u w])) (ro := none) (kX1_pushM l D cyC cyI cyO HI BB C h r v u w hr4) bV_X1_push wml_RX6_62 ⟨rfl, rfl⟩ ⟨Nat.le_of_ble_eq_true rfl, Nat.le_of_ble_eq_true rfl, Nat.zero_le _, Nat.zero_le _⟩ [4, 3] rfl rfl rfl rfl rfl rfl rfl hP hD hS hA hK 0 rfl rfl rfl rfl rfl (Nat.le_of_ble_eq_true rfl) dX6_wind_19 (fun H locs hP hD hS => ?_)
    refine lv_aload_n hx hb dX6_wind_22 rfl (lv_at hl 0 rfl) ?_
    refine va_get (D := D) (ci := 5) (v := .ref (C 0)) (C := RX6) (T := TX6) (N := 12) hx hb hts inT_X6 hown hK.1 hP 0 rfl rfl 0 (by decide) (hts _ wfl_RX6_10) (fun _ h9 => h9) rfl dX6_wind_23 ?_
    refine va_get (D := D) (ci := 0) (v := .int (w 11)) (C := RX0) (T := TX0) (N := 19) hx hb hts inT_X0 hown hK.1 hP 4 rfl rfl 11 (by decide) (hts _ wfl_RX6_74) (fun _ h9 => h9) rfl dX6_wind_26 ?_
    refine lv_istore_n (lv' := [(2, .int (w 11)), (0, .ref (Z 0)), (1, .int a1)]) hx hb dX6_wind_29 rfl hl (by decide) rfl (fun ls hl => ?_)
    refine lv_aload_n hx hb dX6_wind_30 rfl (lv_at hl 1 rfl) ?_
    refine va_get (D := D) (ci := 5) (v := .ref (C 0)) (C := RX6) (T := TX6) (N := 12) hx hb hts inT_X6 hown hK.1 hP 0 rfl rfl 0 (by decide) (hts _ wfl_RX6_10) (fun _ h9 => h9) rfl dX6_wind_31 ?_
    refine lv_iload_n hx hb dX6_wind_34 rfl (lv_at hl 2 rfl) ?_
    refine va_put (D := D) (ci := 0) (v := .int a1) (ty := .int) (C := RX0) (T := TX0) (N := 19) hx hb hts inT_X0 tyX0 tyX0_ok nmX0 hown hK.1 hP hD hS 4 rfl rfl 11 (by decide) (hts _ wfl_RX6_74) (fun _ h9 => h9) rfl (by decide +kernel) (by rfl) rfl (Nat.le_of_ble_eq_true rfl) dX6_wind_35 (fun H locs hP hD hS => ?_)
    have hP : va_P D vwCl (List.flatten [wRt Z C TR SN HI Y P R rt, wPd cyC P sg pw, wRd R P rd, wC cyI C u (va_up w 11 a1), wHM cyI cyO HI BB (va_up h ((r + 3) % 4) (u, w)) ((r + 3) % 4) (va_up v 1 (if 4 < ((v 1) + (1 : Int32)) then 4 else ((v 1) + (1 : Int32)))), wC cyI TR tu tw, wC cyI SN su sw, wWy cyI Y g]) H := hP
    have hD : va_D A0 (List.flatten [wRt Z C TR SN HI Y P R rt, wPd cyC P sg pw, wRd R P rd, wC cyI C u (va_up w 11 a1), wHM cyI cyO HI BB (va_up h ((r + 3) % 4) (u, w)) ((r + 3) % 4) (va_up v 1 (if 4 < ((v 1) + (1 : Int32)) then 4 else ((v 1) + (1 : Int32)))), wC cyI TR tu tw, wC cyI SN su sw, wWy cyI Y g]) := hD
    refine lv_iload_n hx hb dX6_wind_38 rfl (lv_at hl 0 rfl) ?_
    have e9 : (pX6_wind rt sg pw rd u w h r v tu tw su sw g a1) = ((w 11), (va_up h ((r + 3) % 4) (u, w)), ((r + 3) % 4), (va_up v 1 (if 4 < ((v 1) + (1 : Int32)) then 4 else ((v 1) + (1 : Int32)))), u, (va_up w 11 a1)) := by simp only [pX6_wind, if_neg c_1]
    have e9_0 : (pX6_wind rt sg pw rd u w h r v tu tw su sw g a1).1 = (w 11) := by rw [e9]
    have e9_1 : (pX6_wind rt sg pw rd u w h r v tu tw su sw g a1).2.1 = (va_up h ((r + 3) % 4) (u, w)) := by rw [e9]
    have e9_2 : (pX6_wind rt sg pw rd u w h r v tu tw su sw g a1).2.2.1 = ((r + 3) % 4) := by rw [e9]
    have e9_3 : (pX6_wind rt sg pw rd u w h r v tu tw su sw g a1).2.2.2.1 = (va_up v 1 (if 4 < ((v 1) + (1 : Int32)) then 4 else ((v 1) + (1 : Int32)))) := by rw [e9]
    have e9_4 : (pX6_wind rt sg pw rd u w h r v tu tw su sw g a1).2.2.2.2.1 = u := by rw [e9]
    have e9_5 : (pX6_wind rt sg pw rd u w h r v tu tw su sw g a1).2.2.2.2.2 = (va_up w 11 a1) := by rw [e9]
    exact W.iret (v := (w 11)) hx hb hr (fun t ht hW => ⟨⟨by rw [e9_0], by rw [e9_1, e9_2, e9_3, e9_4, e9_5, ht]; exact hP⟩, hS.F ht⟩) hS.2.2 dX6_wind_39
  · refine lv_iconst (v := (-1)) hx hb dX6_wind_9 (by decide) ?_
    have e9 : (pX6_wind rt sg pw rd u w h r v tu tw su sw g a1) = ((-1), h, r, v, u, w) := by simp only [pX6_wind, if_pos c_1]
    have e9_0 : (pX6_wind rt sg pw rd u w h r v tu tw su sw g a1).1 = (-1) := by rw [e9]
    have e9_1 : (pX6_wind rt sg pw rd u w h r v tu tw su sw g a1).2.1 = h := by rw [e9]
    have e9_2 : (pX6_wind rt sg pw rd u w h r v tu tw su sw g a1).2.2.1 = r := by rw [e9]
    have e9_3 : (pX6_wind rt sg pw rd u w h r v tu tw su sw g a1).2.2.2.1 = v := by rw [e9]
    have e9_4 : (pX6_wind rt sg pw rd u w h r v tu tw su sw g a1).2.2.2.2.1 = u := by rw [e9]
    have e9_5 : (pX6_wind rt sg pw rd u w h r v tu tw su sw g a1).2.2.2.2.2 = w := by rw [e9]
    exact W.iret (v := (-1)) hx hb hr (fun t ht hW => ⟨⟨by rw [e9_0], by rw [e9_1, e9_2, e9_3, e9_4, e9_5, ht]; exact hP⟩, hS.F ht⟩) hS.2.2 dX6_wind_10
theorem bV_X6_wind : BV RX6 yX6_wind cX6_wind 3 (some .int) 1 := ⟨wcd_X6_wind, wim_X6_wind, wse_X6_wind, win_RX6, by decide +kernel⟩
def pX6_chimney (rt : (Nat → Int32)) (sg : (Nat → Nat → Int32)) (pw : (Nat → Int32)) (rd : (Nat → Int32)) (u : (Nat → Nat → Int32)) (w : (Nat → Int32)) (h : (Nat → (Nat → Nat → Int32) × (Nat → Int32))) (r : Nat) (v : (Nat → Int32)) (tu : (Nat → Nat → Int32)) (tw : (Nat → Int32)) (su : (Nat → Nat → Int32)) (sw : (Nat → Int32)) (g : (Nat → Nat → Int32)) (a1 : Int32) : Int32 × (Nat → (Nat → Nat → Int32) × (Nat → Int32)) × Nat × (Nat → Int32) × (Nat → Nat → Int32) × (Nat → Int32) := (if (pX6_isRoof a1) = 0 then ((-1), h, r, v, u, w) else ((pJ6_bitCount_0f7a4 (pX0_smokeBlown (pX0_toggleChimney u w a1).1 (pX0_toggleChimney u w a1).2 ((pX0_toggleChimney u w a1).2 11))), (va_up h ((r + 3) % 4) (u, w)), ((r + 3) % 4), (va_up v 1 (if 4 < ((v 1) + (1 : Int32)) then 4 else ((v 1) + (1 : Int32)))), (pX0_toggleChimney u w a1).1, (pX0_toggleChimney u w a1).2))
set_option maxHeartbeats 4000000 in
set_option maxRecDepth 100000 in
theorem kX6_chimney (l : Launch) (D : va_G) (cyC cyI cyO : ClassId) (Z : Nat → Nat) (C : Nat → Nat) (TR : Nat → Nat) (SN : Nat → Nat) (HI : Nat → Nat) (Y : Nat → Nat) (P : Nat → Nat) (R : Nat → Nat) (BB : Nat → Nat → Nat) (rt : (Nat → Int32)) (sg : (Nat → Nat → Int32)) (pw : (Nat → Int32)) (rd : (Nat → Int32)) (u : (Nat → Nat → Int32)) (w : (Nat → Int32)) (h : (Nat → (Nat → Nat → Int32) × (Nat → Int32))) (r : Nat) (v : (Nat → Int32)) (tu : (Nat → Nat → Int32)) (tw : (Nat → Int32)) (su : (Nat → Nat → Int32)) (sw : (Nat → Int32)) (g : (Nat → Nat → Int32)) (a1 : Int32) (hr4 : r < 4) (hq : (w 12) < 4) : MU l yX6_chimney (Ty yX6_chimney cX6_chimney 2 (some .int)) ({ frames := 3, cells := 0, slots := 0, locals := 84 } : Room) D cyC cyI cyO (List.flatten [wRt Z C TR SN HI Y P R rt, wPd cyC P sg pw, wRd R P rd, wC cyI C u w, wHM cyI cyO HI BB h r v, wC cyI TR tu tw, wC cyI SN su sw, wWy cyI Y g]) [.ref (Z 0), .int a1] (some (.int (pX6_chimney rt sg pw rd u w h r v tu tw su sw g a1).1)) (List.flatten [wRt Z C TR SN HI Y P R rt, wPd cyC P sg pw, wRd R P rd, wC cyI C (pX6_chimney rt sg pw rd u w h r v tu tw su sw g a1).2.2.2.2.1 (pX6_chimney rt sg pw rd u w h r v tu tw su sw g a1).2.2.2.2.2, wHM cyI cyO HI BB (pX6_chimney rt sg pw rd u w h r v tu tw su sw g a1).2.1 (pX6_chimney rt sg pw rd u w h r v tu tw su sw g a1).2.2.1 (pX6_chimney rt sg pw rd u w h r v tu tw su sw g a1).2.2.2.1, wC cyI TR tu tw, wC cyI SN su sw, wWy cyI Y g]) := by
  intro sz
  refine Met.ofW (cc := cX6_chimney) (maxL := 2) (ret := (some .int)) (by decide) rfl ?_
  intro p e s m args below meth cd s₁ B hml hv
  obtain ⟨rfl, hsz, hP, hK, hD0⟩ := hv
  have hx := B.exec
  have hb := B.bytes
  have hr := B.returns
  have hts : ∀ w ∈ TB, w.before ([.ref (Z 0), .int a1] : List Value).toArray s = true := fun w h => atoms_spec (ws := (Ty yX6_chimney cX6_chimney 2 (some .int))) B.pre w (List.mem_cons_of_mem _ h)
  have hown : s.vm.findClass RX6 = some m.cls := findClass_of_methodNamed B.named
  have hlocks := B.notSynchronized
  subst hsz
  have hD := hD0.self (sz := s.heap.size)
  have hA : ∀ q : Nat, s.heap.size ≤ q → (va_A (List.flatten [wRt Z C TR SN HI Y P R rt, wPd cyC P sg pw, wRd R P rd, wC cyI C u w, wHM cyI cyO HI BB h r v, wC cyI TR tu tw, wC cyI SN su sw, wWy cyI Y g]) s.heap.size) q := fun q h => Or.inr h
  generalize hAe : va_A (List.flatten [wRt Z C TR SN HI Y P R rt, wPd cyC P sg pw, wRd R P rd, wC cyI C u w, wHM cyI cyO HI BB h r v, wC cyI TR tu tw, wC cyI SN su sw, wWy cyI Y g]) s.heap.size = A0 at hD hA ⊢
  have hS : va_S A0 s.heap s.heap [] := va_S.rf
  have hl := lv_entry ([.ref (Z 0), .int a1]) (n := 2) (Nat.le_of_ble_eq_true rfl)
  rw [lg_entry_eq]
  generalize (lg_sl ([.ref (Z 0), .int a1]) ++ List.replicate (2 - (lg_sl ([.ref (Z 0), .int a1])).length) Slot.unset).toArray = ls at hl ⊢
  have hl : lv_has ls 2 [(0, .ref (Z 0)), (1, .int a1)] := hl
  refine lv_iload_n hx hb dX6_chimney_0 rfl (lv_at hl 1 rfl) ?_
  refine rS (As := [.int a1]) (rest := []) hx hb hml hown hts hl.1 (kX6_isRoof l D cyC cyI cyO a1) bS_X6_isRoof  wml_RX6_78 ⟨rfl, rfl⟩ ⟨Nat.le_of_ble_eq_true rfl, Nat.le_of_ble_eq_true rfl, Nat.zero_le _, Nat.zero_le _⟩ [] rfl hP hK rfl rfl (Nat.le_of_ble_eq_true rfl) dX6_chimney_1 ?_
  refine lv_if_ne (tgt := 9) hx hb dX6_chimney_4 (by decide) (fun c_1 => ?_) (fun c_1 => ?_)
  · refine lv_aload_n hx hb dX6_chimney_9 rfl (lv_at hl 0 rfl) ?_
    refine va_get (D := D) (ci := 5) (v := .ref (HI 0)) (C := RX6) (T := TX6) (N := 12) hx hb hts inT_X6 hown hK.1 hP 0 rfl rfl 4 (by decide) (hts _ wfl_RX6_25) (fun _ h9 => h9) rfl dX6_chimney_10 ?_
    refine lv_aload_n hx hb dX6_chimney_13 rfl (lv_at hl 0 rfl) ?_
    refine va_get (D := D) (ci := 5) (v := .ref (C 0)) (C := RX6) (T := TX6) (N := 12) hx hb hts inT_X6 hown hK.1 hP 0 rfl rfl 0 (by decide) (hts _ wfl_RX6_10) (fun _ h9 => h9) rfl dX6_chimney_14 ?_
    refine mVB (bl := [wRt Z C TR SN HI Y P R rt, wPd cyC P sg pw, wRd R P rd, wC cyI C u w, wHM cyI cyO HI BB h r v, wC cyI TR tu tw, wC cyI SN su sw, wWy cyI Y g]) (bl' := [wRt Z C TR SN HI Y P R rt, wPd cyC P sg pw, wRd R P rd, wC cyI C u w, wHM cyI cyO HI BB (va_up h ((r + 3) % 4) (u, w)) ((r + 3) % 4) (va_up v 1 (if 4 < ((v 1) + (1 : Int32)) then 4 else ((v 1) + (1 : Int32)))), wC cyI TR tu tw, wC cyI SN su sw, wWy cyI Y g]) (WSb := [wHM cyI cyO HI BB h r v, wC cyI C u w]) (WSb' := [wHM cyI cyO HI BB (va_up h ((r + 3) % 4) (u, w)) ((r + 3) % 4) (va_up v 1 (if 4 < ((v 1) + (1 : Int32)) then 4 else ((v 1) + (1 : Int32)))), wC cyI C u w]) (As := [.ref (C 0)]) (rest := []) hx hb hml hown hts hl.1 (WS := (List.flatten [wHM cyI cyO HI BB h r v, wC cyI C u w])) (WS' := (List.flatten [wHM cyI cyO HI BB (va_up h ((r + 3) % 4) (u, w)) ((r + 3) % 4) (va_up v 1 (if 4 < ((v 1) + (1 : Int32)) then 4 else ((v 1) + (1 : Int32)))), wC cyI C u w])) (ro := none) (kX1_pushM l D cyC cyI cyO HI BB C h r v u w hr4) bV_X1_push wml_RX6_62 ⟨rfl, rfl⟩ ⟨Nat.le_of_ble_eq_true rfl, Nat.le_of_ble_eq_true rfl, Nat.zero_le _, Nat.zero_le _⟩ [4, 3] rfl rfl rfl rfl rfl rfl rfl hP hD hS hA hK 0 rfl rfl rfl rfl rfl (Nat.le_of_ble_eq_true rfl) dX6_chimney_17 (fun H locs hP hD hS => ?_)
    refine lv_aload_n hx hb dX6_chimney_20 rfl (lv_at hl 0 rfl) ?_
    refine va_get (D := D) (ci := 5) (v := .ref (C 0)) (C := RX6) (T := TX6) (N := 12) hx hb hts inT_X6 hown hK.1 hP 0 rfl rfl 0 (by decide) (hts _ wfl_RX6_10) (fun _ h9 => h9) rfl dX6_chimney_21 ?_
    refine lv_iload_n hx hb dX6_chimney_24 rfl (lv_at hl 1 rfl) ?_
    obtain ⟨z_2, hz_2⟩ : ∃ q, q = (pX0_toggleChimney u w a1) := ⟨_, rfl⟩
    refine mVB (bl := [wRt Z C TR SN HI Y P R rt, wPd cyC P sg pw, wRd R P rd, wC cyI C u w, wHM cyI cyO HI BB (va_up h ((r + 3) % 4) (u, w)) ((r + 3) % 4) (va_up v 1 (if 4 < ((v 1) + (1 : Int32)) then 4 else ((v 1) + (1 : Int32)))), wC cyI TR tu tw, wC cyI SN su sw, wWy cyI Y g]) (bl' := [wRt Z C TR SN HI Y P R rt, wPd cyC P sg pw, wRd R P rd, wC cyI C z_2.1 z_2.2, wHM cyI cyO HI BB (va_up h ((r + 3) % 4) (u, w)) ((r + 3) % 4) (va_up v 1 (if 4 < ((v 1) + (1 : Int32)) then 4 else ((v 1) + (1 : Int32)))), wC cyI TR tu tw, wC cyI SN su sw, wWy cyI Y g]) (WSb := [wC cyI C u w]) (WSb' := [wC cyI C z_2.1 z_2.2]) (As := [.int a1]) (rest := []) hx hb hml hown hts hl.1 (WS := (wC cyI C u w)) (WS' := (wC cyI C z_2.1 z_2.2)) (ro := none) (by rw [hz_2]; exact kX0_toggleChimney l D cyC cyI cyO C u w a1) bV_X0_toggleChimney wml_RX6_81 ⟨rfl, rfl⟩ ⟨Nat.le_of_ble_eq_true rfl, Nat.le_of_ble_eq_true rfl, Nat.zero_le _, Nat.zero_le _⟩ [3] (by simp only [List.flatten_cons, List.flatten_nil, List.append_nil]) (by simp only [List.flatten_cons, List.flatten_nil, List.append_nil]) rfl rfl rfl rfl rfl hP hD hS hA hK 0 rfl rfl rfl rfl rfl (Nat.le_of_ble_eq_true rfl) dX6_chimney_25 (fun H locs hP hD hS => ?_)
    refine lv_aload_n hx hb dX6_chimney_28 rfl (lv_at hl 0 rfl) ?_
    refine va_get (D := D) (ci := 5) (v := .ref (C 0)) (C := RX6) (T := TX6) (N := 12) hx hb hts inT_X6 hown hK.1 hP 0 rfl rfl 0 (by decide) (hts _ wfl_RX6_10) (fun _ h9 => h9) rfl dX6_chimney_29 ?_
    refine lv_aload_n hx hb dX6_chimney_32 rfl (lv_at hl 0 rfl) ?_
    refine va_get (D := D) (ci := 5) (v := .ref (C 0)) (C := RX6) (T := TX6) (N := 12) hx hb hts inT_X6 hown hK.1 hP 0 rfl rfl 0 (by decide) (hts _ wfl_RX6_10) (fun _ h9 => h9) rfl dX6_chimney_33 ?_
    refine va_get (D := D) (ci := 0) (v := .int (z_2.2 11)) (C := RX0) (T := TX0) (N := 19) hx hb hts inT_X0 hown hK.1 hP 4 rfl rfl 11 (by decide) (hts _ wfl_RX6_74) (fun _ h9 => h9) rfl dX6_chimney_36 ?_
    refine rVB (bl := [wRt Z C TR SN HI Y P R rt, wPd cyC P sg pw, wRd R P rd, wC cyI C z_2.1 z_2.2, wHM cyI cyO HI BB (va_up h ((r + 3) % 4) (u, w)) ((r + 3) % 4) (va_up v 1 (if 4 < ((v 1) + (1 : Int32)) then 4 else ((v 1) + (1 : Int32)))), wC cyI TR tu tw, wC cyI SN su sw, wWy cyI Y g]) (WSb := [wC cyI C z_2.1 z_2.2]) (As := [.int (z_2.2 11)]) (rest := []) hx hb hml hown hts hl.1 (kX0_smokeBlown l D cyC cyI cyO C z_2.1 z_2.2 (z_2.2 11) (by rw [hz_2]; exact hq)) bV_X0_smokeBlown wml_RX6_85 ⟨rfl, rfl⟩ ⟨Nat.le_of_ble_eq_true rfl, Nat.le_of_ble_eq_true rfl, Nat.zero_le _, Nat.zero_le _⟩ [3] (by simp only [List.flatten_cons, List.flatten_nil, List.append_nil]) rfl hP hK 0 rfl rfl rfl rfl rfl (Nat.le_of_ble_eq_true rfl) dX6_chimney_39 ?_
    refine rS (As := [.int (pX0_smokeBlown z_2.1 z_2.2 (z_2.2 11))]) (rest := []) hx hb hml hown hts hl.1 (kJ6_bitCount_0f7a4 l D cyC cyI cyO (pX0_smokeBlown z_2.1 z_2.2 (z_2.2 11))) bS_J6_bitCount_0f7a4  wml_RX6_89 ⟨rfl, rfl⟩ ⟨Nat.le_of_ble_eq_true rfl, Nat.le_of_ble_eq_true rfl, Nat.zero_le _, Nat.zero_le _⟩ [] rfl hP hK rfl rfl (Nat.le_of_ble_eq_true rfl) dX6_chimney_42 ?_
    have e9 : (pX6_chimney rt sg pw rd u w h r v tu tw su sw g a1) = ((pJ6_bitCount_0f7a4 (pX0_smokeBlown z_2.1 z_2.2 (z_2.2 11))), (va_up h ((r + 3) % 4) (u, w)), ((r + 3) % 4), (va_up v 1 (if 4 < ((v 1) + (1 : Int32)) then 4 else ((v 1) + (1 : Int32)))), z_2.1, z_2.2) := by simp only [pX6_chimney, ← hz_2, if_neg c_1]
    have e9_0 : (pX6_chimney rt sg pw rd u w h r v tu tw su sw g a1).1 = (pJ6_bitCount_0f7a4 (pX0_smokeBlown z_2.1 z_2.2 (z_2.2 11))) := by rw [e9]
    have e9_1 : (pX6_chimney rt sg pw rd u w h r v tu tw su sw g a1).2.1 = (va_up h ((r + 3) % 4) (u, w)) := by rw [e9]
    have e9_2 : (pX6_chimney rt sg pw rd u w h r v tu tw su sw g a1).2.2.1 = ((r + 3) % 4) := by rw [e9]
    have e9_3 : (pX6_chimney rt sg pw rd u w h r v tu tw su sw g a1).2.2.2.1 = (va_up v 1 (if 4 < ((v 1) + (1 : Int32)) then 4 else ((v 1) + (1 : Int32)))) := by rw [e9]
    have e9_4 : (pX6_chimney rt sg pw rd u w h r v tu tw su sw g a1).2.2.2.2.1 = z_2.1 := by rw [e9]
    have e9_5 : (pX6_chimney rt sg pw rd u w h r v tu tw su sw g a1).2.2.2.2.2 = z_2.2 := by rw [e9]
    exact W.iret (v := (pJ6_bitCount_0f7a4 (pX0_smokeBlown z_2.1 z_2.2 (z_2.2 11)))) hx hb hr (fun t ht hW => ⟨⟨by rw [e9_0], by rw [e9_1, e9_2, e9_3, e9_4, e9_5, ht]; exact hP⟩, hS.F ht⟩) hS.2.2 dX6_chimney_45
  · refine lv_iconst (v := (-1)) hx hb dX6_chimney_7 (by decide) ?_
    have e9 : (pX6_chimney rt sg pw rd u w h r v tu tw su sw g a1) = ((-1), h, r, v, u, w) := by simp only [pX6_chimney, if_pos c_1]
    have e9_0 : (pX6_chimney rt sg pw rd u w h r v tu tw su sw g a1).1 = (-1) := by rw [e9]
    have e9_1 : (pX6_chimney rt sg pw rd u w h r v tu tw su sw g a1).2.1 = h := by rw [e9]
    have e9_2 : (pX6_chimney rt sg pw rd u w h r v tu tw su sw g a1).2.2.1 = r := by rw [e9]
    have e9_3 : (pX6_chimney rt sg pw rd u w h r v tu tw su sw g a1).2.2.2.1 = v := by rw [e9]
    have e9_4 : (pX6_chimney rt sg pw rd u w h r v tu tw su sw g a1).2.2.2.2.1 = u := by rw [e9]
    have e9_5 : (pX6_chimney rt sg pw rd u w h r v tu tw su sw g a1).2.2.2.2.2 = w := by rw [e9]
    exact W.iret (v := (-1)) hx hb hr (fun t ht hW => ⟨⟨by rw [e9_0], by rw [e9_1, e9_2, e9_3, e9_4, e9_5, ht]; exact hP⟩, hS.F ht⟩) hS.2.2 dX6_chimney_8
theorem bV_X6_chimney : BV RX6 yX6_chimney cX6_chimney 2 (some .int) 1 := ⟨wcd_X6_chimney, wim_X6_chimney, wse_X6_chimney, win_RX6, by decide +kernel⟩
def pX6_coop (rt : (Nat → Int32)) (sg : (Nat → Nat → Int32)) (pw : (Nat → Int32)) (rd : (Nat → Int32)) (u : (Nat → Nat → Int32)) (w : (Nat → Int32)) (h : (Nat → (Nat → Nat → Int32) × (Nat → Int32))) (r : Nat) (v : (Nat → Int32)) (tu : (Nat → Nat → Int32)) (tw : (Nat → Int32)) (su : (Nat → Nat → Int32)) (sw : (Nat → Int32)) (g : (Nat → Nat → Int32)) (a1 : Int32) : Int32 × (Nat → (Nat → Nat → Int32) × (Nat → Int32)) × Nat × (Nat → Int32) × (Nat → Nat → Int32) × (Nat → Int32) := (if (pX6_isRoof a1) = 0 then ((-1), h, r, v, u, w) else ((pJ6_bitCount_0f7a4 ((w 10) ^^^ ((1 : Int32) <<< (a1 &&& 31)))), (va_up h ((r + 3) % 4) (u, w)), ((r + 3) % 4), (va_up v 1 (if 4 < ((v 1) + (1 : Int32)) then 4 else ((v 1) + (1 : Int32)))), u, (va_up w 10 ((w 10) ^^^ ((1 : Int32) <<< (a1 &&& 31))))))
set_option maxHeartbeats 4000000 in
set_option maxRecDepth 100000 in
theorem kX6_coop (l : Launch) (D : va_G) (cyC cyI cyO : ClassId) (Z : Nat → Nat) (C : Nat → Nat) (TR : Nat → Nat) (SN : Nat → Nat) (HI : Nat → Nat) (Y : Nat → Nat) (P : Nat → Nat) (R : Nat → Nat) (BB : Nat → Nat → Nat) (rt : (Nat → Int32)) (sg : (Nat → Nat → Int32)) (pw : (Nat → Int32)) (rd : (Nat → Int32)) (u : (Nat → Nat → Int32)) (w : (Nat → Int32)) (h : (Nat → (Nat → Nat → Int32) × (Nat → Int32))) (r : Nat) (v : (Nat → Int32)) (tu : (Nat → Nat → Int32)) (tw : (Nat → Int32)) (su : (Nat → Nat → Int32)) (sw : (Nat → Int32)) (g : (Nat → Nat → Int32)) (a1 : Int32) (hr4 : r < 4) : MU l yX6_coop (Ty yX6_coop cX6_coop 2 (some .int)) ({ frames := 3, cells := 0, slots := 0, locals := 84 } : Room) D cyC cyI cyO (List.flatten [wRt Z C TR SN HI Y P R rt, wPd cyC P sg pw, wRd R P rd, wC cyI C u w, wHM cyI cyO HI BB h r v, wC cyI TR tu tw, wC cyI SN su sw, wWy cyI Y g]) [.ref (Z 0), .int a1] (some (.int (pX6_coop rt sg pw rd u w h r v tu tw su sw g a1).1)) (List.flatten [wRt Z C TR SN HI Y P R rt, wPd cyC P sg pw, wRd R P rd, wC cyI C (pX6_coop rt sg pw rd u w h r v tu tw su sw g a1).2.2.2.2.1 (pX6_coop rt sg pw rd u w h r v tu tw su sw g a1).2.2.2.2.2, wHM cyI cyO HI BB (pX6_coop rt sg pw rd u w h r v tu tw su sw g a1).2.1 (pX6_coop rt sg pw rd u w h r v tu tw su sw g a1).2.2.1 (pX6_coop rt sg pw rd u w h r v tu tw su sw g a1).2.2.2.1, wC cyI TR tu tw, wC cyI SN su sw, wWy cyI Y g]) := by
  intro sz
  refine Met.ofW (cc := cX6_coop) (maxL := 2) (ret := (some .int)) (by decide) rfl ?_
  intro p e s m args below meth cd s₁ B hml hv
  obtain ⟨rfl, hsz, hP, hK, hD0⟩ := hv
  have hx := B.exec
  have hb := B.bytes
  have hr := B.returns
  have hts : ∀ w ∈ TB, w.before ([.ref (Z 0), .int a1] : List Value).toArray s = true := fun w h => atoms_spec (ws := (Ty yX6_coop cX6_coop 2 (some .int))) B.pre w (List.mem_cons_of_mem _ h)
  have hown : s.vm.findClass RX6 = some m.cls := findClass_of_methodNamed B.named
  have hlocks := B.notSynchronized
  subst hsz
  have hD := hD0.self (sz := s.heap.size)
  have hA : ∀ q : Nat, s.heap.size ≤ q → (va_A (List.flatten [wRt Z C TR SN HI Y P R rt, wPd cyC P sg pw, wRd R P rd, wC cyI C u w, wHM cyI cyO HI BB h r v, wC cyI TR tu tw, wC cyI SN su sw, wWy cyI Y g]) s.heap.size) q := fun q h => Or.inr h
  generalize hAe : va_A (List.flatten [wRt Z C TR SN HI Y P R rt, wPd cyC P sg pw, wRd R P rd, wC cyI C u w, wHM cyI cyO HI BB h r v, wC cyI TR tu tw, wC cyI SN su sw, wWy cyI Y g]) s.heap.size = A0 at hD hA ⊢
  have hS : va_S A0 s.heap s.heap [] := va_S.rf
  have hl := lv_entry ([.ref (Z 0), .int a1]) (n := 2) (Nat.le_of_ble_eq_true rfl)
  rw [lg_entry_eq]
  generalize (lg_sl ([.ref (Z 0), .int a1]) ++ List.replicate (2 - (lg_sl ([.ref (Z 0), .int a1])).length) Slot.unset).toArray = ls at hl ⊢
  have hl : lv_has ls 2 [(0, .ref (Z 0)), (1, .int a1)] := hl
  refine lv_iload_n hx hb dX6_coop_0 rfl (lv_at hl 1 rfl) ?_
  refine rS (As := [.int a1]) (rest := []) hx hb hml hown hts hl.1 (kX6_isRoof l D cyC cyI cyO a1) bS_X6_isRoof  wml_RX6_78 ⟨rfl, rfl⟩ ⟨Nat.le_of_ble_eq_true rfl, Nat.le_of_ble_eq_true rfl, Nat.zero_le _, Nat.zero_le _⟩ [] rfl hP hK rfl rfl (Nat.le_of_ble_eq_true rfl) dX6_coop_1 ?_
  refine lv_if_ne (tgt := 9) hx hb dX6_coop_4 (by decide) (fun c_1 => ?_) (fun c_1 => ?_)
  · refine lv_aload_n hx hb dX6_coop_9 rfl (lv_at hl 0 rfl) ?_
    refine va_get (D := D) (ci := 5) (v := .ref (HI 0)) (C := RX6) (T := TX6) (N := 12) hx hb hts inT_X6 hown hK.1 hP 0 rfl rfl 4 (by decide) (hts _ wfl_RX6_25) (fun _ h9 => h9) rfl dX6_coop_10 ?_
    refine lv_aload_n hx hb dX6_coop_13 rfl (lv_at hl 0 rfl) ?_
    refine va_get (D := D) (ci := 5) (v := .ref (C 0)) (C := RX6) (T := TX6) (N := 12) hx hb hts inT_X6 hown hK.1 hP 0 rfl rfl 0 (by decide) (hts _ wfl_RX6_10) (fun _ h9 => h9) rfl dX6_coop_14 ?_
    refine mVB (bl := [wRt Z C TR SN HI Y P R rt, wPd cyC P sg pw, wRd R P rd, wC cyI C u w, wHM cyI cyO HI BB h r v, wC cyI TR tu tw, wC cyI SN su sw, wWy cyI Y g]) (bl' := [wRt Z C TR SN HI Y P R rt, wPd cyC P sg pw, wRd R P rd, wC cyI C u w, wHM cyI cyO HI BB (va_up h ((r + 3) % 4) (u, w)) ((r + 3) % 4) (va_up v 1 (if 4 < ((v 1) + (1 : Int32)) then 4 else ((v 1) + (1 : Int32)))), wC cyI TR tu tw, wC cyI SN su sw, wWy cyI Y g]) (WSb := [wHM cyI cyO HI BB h r v, wC cyI C u w]) (WSb' := [wHM cyI cyO HI BB (va_up h ((r + 3) % 4) (u, w)) ((r + 3) % 4) (va_up v 1 (if 4 < ((v 1) + (1 : Int32)) then 4 else ((v 1) + (1 : Int32)))), wC cyI C u w]) (As := [.ref (C 0)]) (rest := []) hx hb hml hown hts hl.1 (WS := (List.flatten [wHM cyI cyO HI BB h r v, wC cyI C u w])) (WS' := (List.flatten [wHM cyI cyO HI BB (va_up h ((r + 3) % 4) (u, w)) ((r + 3) % 4) (va_up v 1 (if 4 < ((v 1) + (1 : Int32)) then 4 else ((v 1) + (1 : Int32)))), wC cyI C u w])) (ro := none) (kX1_pushM l D cyC cyI cyO HI BB C h r v u w hr4) bV_X1_push wml_RX6_62 ⟨rfl, rfl⟩ ⟨Nat.le_of_ble_eq_true rfl, Nat.le_of_ble_eq_true rfl, Nat.zero_le _, Nat.zero_le _⟩ [4, 3] rfl rfl rfl rfl rfl rfl rfl hP hD hS hA hK 0 rfl rfl rfl rfl rfl (Nat.le_of_ble_eq_true rfl) dX6_coop_17 (fun H locs hP hD hS => ?_)
    refine lv_aload_n hx hb dX6_coop_20 rfl (lv_at hl 0 rfl) ?_
    refine va_get (D := D) (ci := 5) (v := .ref (C 0)) (C := RX6) (T := TX6) (N := 12) hx hb hts inT_X6 hown hK.1 hP 0 rfl rfl 0 (by decide) (hts _ wfl_RX6_10) (fun _ h9 => h9) rfl dX6_coop_21 ?_
    refine lv_dup hx hb dX6_coop_24 rfl ?_
    refine va_get (D := D) (ci := 0) (v := .int (w 10)) (C := RX0) (T := TX0) (N := 19) hx hb hts inT_X0 hown hK.1 hP 4 rfl rfl 10 (by decide) (hts _ wfl_RX6_94) (fun _ h9 => h9) rfl dX6_coop_25 ?_
    refine lv_iconst (v := 1) hx hb dX6_coop_28 (by decide) ?_
    refine lv_iload_n hx hb dX6_coop_29 rfl (lv_at hl 1 rfl) ?_
    refine lv_ishl hx hb dX6_coop_30 ?_
    refine lv_ixor hx hb dX6_coop_31 ?_
    refine va_put (D := D) (ci := 0) (v := .int ((w 10) ^^^ ((1 : Int32) <<< (a1 &&& 31)))) (ty := .int) (C := RX0) (T := TX0) (N := 19) hx hb hts inT_X0 tyX0 tyX0_ok nmX0 hown hK.1 hP hD hS 4 rfl rfl 10 (by decide) (hts _ wfl_RX6_94) (fun _ h9 => h9) rfl (by decide +kernel) (by rfl) rfl (Nat.le_of_ble_eq_true rfl) dX6_coop_32 (fun H locs hP hD hS => ?_)
    have hP : va_P D vwCl (List.flatten [wRt Z C TR SN HI Y P R rt, wPd cyC P sg pw, wRd R P rd, wC cyI C u (va_up w 10 ((w 10) ^^^ ((1 : Int32) <<< (a1 &&& 31)))), wHM cyI cyO HI BB (va_up h ((r + 3) % 4) (u, w)) ((r + 3) % 4) (va_up v 1 (if 4 < ((v 1) + (1 : Int32)) then 4 else ((v 1) + (1 : Int32)))), wC cyI TR tu tw, wC cyI SN su sw, wWy cyI Y g]) H := hP
    have hD : va_D A0 (List.flatten [wRt Z C TR SN HI Y P R rt, wPd cyC P sg pw, wRd R P rd, wC cyI C u (va_up w 10 ((w 10) ^^^ ((1 : Int32) <<< (a1 &&& 31)))), wHM cyI cyO HI BB (va_up h ((r + 3) % 4) (u, w)) ((r + 3) % 4) (va_up v 1 (if 4 < ((v 1) + (1 : Int32)) then 4 else ((v 1) + (1 : Int32)))), wC cyI TR tu tw, wC cyI SN su sw, wWy cyI Y g]) := hD
    refine lv_aload_n hx hb dX6_coop_35 rfl (lv_at hl 0 rfl) ?_
    refine va_get (D := D) (ci := 5) (v := .ref (C 0)) (C := RX6) (T := TX6) (N := 12) hx hb hts inT_X6 hown hK.1 hP 0 rfl rfl 0 (by decide) (hts _ wfl_RX6_10) (fun _ h9 => h9) rfl dX6_coop_36 ?_
    refine va_get (D := D) (ci := 0) (v := .int ((w 10) ^^^ ((1 : Int32) <<< (a1 &&& 31)))) (C := RX0) (T := TX0) (N := 19) hx hb hts inT_X0 hown hK.1 hP 4 rfl rfl 10 (by decide) (hts _ wfl_RX6_94) (fun _ h9 => h9) rfl dX6_coop_39 ?_
    refine rS (As := [.int ((w 10) ^^^ ((1 : Int32) <<< (a1 &&& 31)))]) (rest := []) hx hb hml hown hts hl.1 (kJ6_bitCount_0f7a4 l D cyC cyI cyO ((w 10) ^^^ ((1 : Int32) <<< (a1 &&& 31)))) bS_J6_bitCount_0f7a4  wml_RX6_89 ⟨rfl, rfl⟩ ⟨Nat.le_of_ble_eq_true rfl, Nat.le_of_ble_eq_true rfl, Nat.zero_le _, Nat.zero_le _⟩ [] rfl hP hK rfl rfl (Nat.le_of_ble_eq_true rfl) dX6_coop_42 ?_
    have e9 : (pX6_coop rt sg pw rd u w h r v tu tw su sw g a1) = ((pJ6_bitCount_0f7a4 ((w 10) ^^^ ((1 : Int32) <<< (a1 &&& 31)))), (va_up h ((r + 3) % 4) (u, w)), ((r + 3) % 4), (va_up v 1 (if 4 < ((v 1) + (1 : Int32)) then 4 else ((v 1) + (1 : Int32)))), u, (va_up w 10 ((w 10) ^^^ ((1 : Int32) <<< (a1 &&& 31))))) := by simp only [pX6_coop, if_neg c_1]
    have e9_0 : (pX6_coop rt sg pw rd u w h r v tu tw su sw g a1).1 = (pJ6_bitCount_0f7a4 ((w 10) ^^^ ((1 : Int32) <<< (a1 &&& 31)))) := by rw [e9]
    have e9_1 : (pX6_coop rt sg pw rd u w h r v tu tw su sw g a1).2.1 = (va_up h ((r + 3) % 4) (u, w)) := by rw [e9]
    have e9_2 : (pX6_coop rt sg pw rd u w h r v tu tw su sw g a1).2.2.1 = ((r + 3) % 4) := by rw [e9]
    have e9_3 : (pX6_coop rt sg pw rd u w h r v tu tw su sw g a1).2.2.2.1 = (va_up v 1 (if 4 < ((v 1) + (1 : Int32)) then 4 else ((v 1) + (1 : Int32)))) := by rw [e9]
    have e9_4 : (pX6_coop rt sg pw rd u w h r v tu tw su sw g a1).2.2.2.2.1 = u := by rw [e9]
    have e9_5 : (pX6_coop rt sg pw rd u w h r v tu tw su sw g a1).2.2.2.2.2 = (va_up w 10 ((w 10) ^^^ ((1 : Int32) <<< (a1 &&& 31)))) := by rw [e9]
    exact W.iret (v := (pJ6_bitCount_0f7a4 ((w 10) ^^^ ((1 : Int32) <<< (a1 &&& 31))))) hx hb hr (fun t ht hW => ⟨⟨by rw [e9_0], by rw [e9_1, e9_2, e9_3, e9_4, e9_5, ht]; exact hP⟩, hS.F ht⟩) hS.2.2 dX6_coop_45
  · refine lv_iconst (v := (-1)) hx hb dX6_coop_7 (by decide) ?_
    have e9 : (pX6_coop rt sg pw rd u w h r v tu tw su sw g a1) = ((-1), h, r, v, u, w) := by simp only [pX6_coop, if_pos c_1]
    have e9_0 : (pX6_coop rt sg pw rd u w h r v tu tw su sw g a1).1 = (-1) := by rw [e9]
    have e9_1 : (pX6_coop rt sg pw rd u w h r v tu tw su sw g a1).2.1 = h := by rw [e9]
    have e9_2 : (pX6_coop rt sg pw rd u w h r v tu tw su sw g a1).2.2.1 = r := by rw [e9]
    have e9_3 : (pX6_coop rt sg pw rd u w h r v tu tw su sw g a1).2.2.2.1 = v := by rw [e9]
    have e9_4 : (pX6_coop rt sg pw rd u w h r v tu tw su sw g a1).2.2.2.2.1 = u := by rw [e9]
    have e9_5 : (pX6_coop rt sg pw rd u w h r v tu tw su sw g a1).2.2.2.2.2 = w := by rw [e9]
    exact W.iret (v := (-1)) hx hb hr (fun t ht hW => ⟨⟨by rw [e9_0], by rw [e9_1, e9_2, e9_3, e9_4, e9_5, ht]; exact hP⟩, hS.F ht⟩) hS.2.2 dX6_coop_8
theorem bV_X6_coop : BV RX6 yX6_coop cX6_coop 2 (some .int) 1 := ⟨wcd_X6_coop, wim_X6_coop, wse_X6_coop, win_RX6, by decide +kernel⟩
def pX6_owner (rt : (Nat → Int32)) (sg : (Nat → Nat → Int32)) (pw : (Nat → Int32)) (rd : (Nat → Int32)) (u : (Nat → Nat → Int32)) (w : (Nat → Int32)) (h : (Nat → (Nat → Nat → Int32) × (Nat → Int32))) (r : Nat) (v : (Nat → Int32)) (tu : (Nat → Nat → Int32)) (tw : (Nat → Int32)) (su : (Nat → Nat → Int32)) (sw : (Nat → Int32)) (g : (Nat → Nat → Int32)) (a1 : Int32) (a2 : Int32) (a3 : Int32) (a4 : Int32) : Int32 × (Nat → (Nat → Nat → Int32) × (Nat → Int32)) × Nat × (Nat → Int32) × (Nat → Nat → Int32) × (Nat → Int32) := (if (pX6_isOwner a1) = 0 then ((-1), h, r, v, u, w) else (if (pX6_isWithin a2 1 9) = 0 then ((-1), h, r, v, u, w) else (if (pX6_isWithin a3 0 65535) = 0 then ((-1), h, r, v, u, w) else (((u 4) (a1).toNatClampNeg), (va_up h ((r + 3) % 4) (u, w)), ((r + 3) % 4), (va_up v 1 (if 4 < ((v 1) + (1 : Int32)) then 4 else ((v 1) + (1 : Int32)))), (pX0_setTruce (va_up (va_up u 4 (upd (u 4) (a1).toNatClampNeg a2)) 5 (upd (u 5) (a1).toNatClampNeg a3)) w a1 a4).1, (pX0_setTruce (va_up (va_up u 4 (upd (u 4) (a1).toNatClampNeg a2)) 5 (upd (u 5) (a1).toNatClampNeg a3)) w a1 a4).2))))
set_option maxHeartbeats 4000000 in
set_option maxRecDepth 100000 in
theorem kX6_owner (l : Launch) (D : va_G) (cyC cyI cyO : ClassId) (Z : Nat → Nat) (C : Nat → Nat) (TR : Nat → Nat) (SN : Nat → Nat) (HI : Nat → Nat) (Y : Nat → Nat) (P : Nat → Nat) (R : Nat → Nat) (BB : Nat → Nat → Nat) (rt : (Nat → Int32)) (sg : (Nat → Nat → Int32)) (pw : (Nat → Int32)) (rd : (Nat → Int32)) (u : (Nat → Nat → Int32)) (w : (Nat → Int32)) (h : (Nat → (Nat → Nat → Int32) × (Nat → Int32))) (r : Nat) (v : (Nat → Int32)) (tu : (Nat → Nat → Int32)) (tw : (Nat → Int32)) (su : (Nat → Nat → Int32)) (sw : (Nat → Int32)) (g : (Nat → Nat → Int32)) (a1 : Int32) (a2 : Int32) (a3 : Int32) (a4 : Int32) (hr4 : r < 4) : MU l yX6_owner (Ty yX6_owner cX6_owner 6 (some .int)) ({ frames := 3, cells := 0, slots := 0, locals := 84 } : Room) D cyC cyI cyO (List.flatten [wRt Z C TR SN HI Y P R rt, wPd cyC P sg pw, wRd R P rd, wC cyI C u w, wHM cyI cyO HI BB h r v, wC cyI TR tu tw, wC cyI SN su sw, wWy cyI Y g]) [.ref (Z 0), .int a1, .int a2, .int a3, .int a4] (some (.int (pX6_owner rt sg pw rd u w h r v tu tw su sw g a1 a2 a3 a4).1)) (List.flatten [wRt Z C TR SN HI Y P R rt, wPd cyC P sg pw, wRd R P rd, wC cyI C (pX6_owner rt sg pw rd u w h r v tu tw su sw g a1 a2 a3 a4).2.2.2.2.1 (pX6_owner rt sg pw rd u w h r v tu tw su sw g a1 a2 a3 a4).2.2.2.2.2, wHM cyI cyO HI BB (pX6_owner rt sg pw rd u w h r v tu tw su sw g a1 a2 a3 a4).2.1 (pX6_owner rt sg pw rd u w h r v tu tw su sw g a1 a2 a3 a4).2.2.1 (pX6_owner rt sg pw rd u w h r v tu tw su sw g a1 a2 a3 a4).2.2.2.1, wC cyI TR tu tw, wC cyI SN su sw, wWy cyI Y g]) := by
  intro sz
  refine Met.ofW (cc := cX6_owner) (maxL := 6) (ret := (some .int)) (by decide) rfl ?_
  intro p e s m args below meth cd s₁ B hml hv
  obtain ⟨rfl, hsz, hP, hK, hD0⟩ := hv
  have hx := B.exec
  have hb := B.bytes
  have hr := B.returns
  have hts : ∀ w ∈ TB, w.before ([.ref (Z 0), .int a1, .int a2, .int a3, .int a4] : List Value).toArray s = true := fun w h => atoms_spec (ws := (Ty yX6_owner cX6_owner 6 (some .int))) B.pre w (List.mem_cons_of_mem _ h)
  have hown : s.vm.findClass RX6 = some m.cls := findClass_of_methodNamed B.named
  have hlocks := B.notSynchronized
  subst hsz
  have hD := hD0.self (sz := s.heap.size)
  have hA : ∀ q : Nat, s.heap.size ≤ q → (va_A (List.flatten [wRt Z C TR SN HI Y P R rt, wPd cyC P sg pw, wRd R P rd, wC cyI C u w, wHM cyI cyO HI BB h r v, wC cyI TR tu tw, wC cyI SN su sw, wWy cyI Y g]) s.heap.size) q := fun q h => Or.inr h
  generalize hAe : va_A (List.flatten [wRt Z C TR SN HI Y P R rt, wPd cyC P sg pw, wRd R P rd, wC cyI C u w, wHM cyI cyO HI BB h r v, wC cyI TR tu tw, wC cyI SN su sw, wWy cyI Y g]) s.heap.size = A0 at hD hA ⊢
  have hS : va_S A0 s.heap s.heap [] := va_S.rf
  have hl := lv_entry ([.ref (Z 0), .int a1, .int a2, .int a3, .int a4]) (n := 6) (Nat.le_of_ble_eq_true rfl)
  rw [lg_entry_eq]
  generalize (lg_sl ([.ref (Z 0), .int a1, .int a2, .int a3, .int a4]) ++ List.replicate (6 - (lg_sl ([.ref (Z 0), .int a1, .int a2, .int a3, .int a4])).length) Slot.unset).toArray = ls at hl ⊢
  have hl : lv_has ls 6 [(0, .ref (Z 0)), (1, .int a1), (2, .int a2), (3, .int a3), (4, .int a4)] := hl
  refine lv_iload_n hx hb dX6_owner_0 rfl (lv_at hl 1 rfl) ?_
  refine rS (As := [.int a1]) (rest := []) hx hb hml hown hts hl.1 (kX6_isOwner l D cyC cyI cyO a1) bS_X6_isOwner  wml_RX6_97 ⟨rfl, rfl⟩ ⟨Nat.le_of_ble_eq_true rfl, Nat.le_of_ble_eq_true rfl, Nat.zero_le _, Nat.zero_le _⟩ [] rfl hP hK rfl rfl (Nat.le_of_ble_eq_true rfl) dX6_owner_1 ?_
  refine lv_if_eq (tgt := 27) hx hb dX6_owner_4 (by decide) (fun c_1 => ?_) (fun c_1 => ?_)
  · refine lv_iconst (v := (-1)) hx hb dX6_owner_27 (by decide) ?_
    have e9 : (pX6_owner rt sg pw rd u w h r v tu tw su sw g a1 a2 a3 a4) = ((-1), h, r, v, u, w) := by simp only [pX6_owner, if_pos c_1]
    have e9_0 : (pX6_owner rt sg pw rd u w h r v tu tw su sw g a1 a2 a3 a4).1 = (-1) := by rw [e9]
    have e9_1 : (pX6_owner rt sg pw rd u w h r v tu tw su sw g a1 a2 a3 a4).2.1 = h := by rw [e9]
    have e9_2 : (pX6_owner rt sg pw rd u w h r v tu tw su sw g a1 a2 a3 a4).2.2.1 = r := by rw [e9]
    have e9_3 : (pX6_owner rt sg pw rd u w h r v tu tw su sw g a1 a2 a3 a4).2.2.2.1 = v := by rw [e9]
    have e9_4 : (pX6_owner rt sg pw rd u w h r v tu tw su sw g a1 a2 a3 a4).2.2.2.2.1 = u := by rw [e9]
    have e9_5 : (pX6_owner rt sg pw rd u w h r v tu tw su sw g a1 a2 a3 a4).2.2.2.2.2 = w := by rw [e9]
    exact W.iret (v := (-1)) hx hb hr (fun t ht hW => ⟨⟨by rw [e9_0], by rw [e9_1, e9_2, e9_3, e9_4, e9_5, ht]; exact hP⟩, hS.F ht⟩) hS.2.2 dX6_owner_28
  · refine lv_iload_n hx hb dX6_owner_7 rfl (lv_at hl 2 rfl) ?_
    refine lv_iconst (v := 1) hx hb dX6_owner_8 (by decide) ?_
    refine lv_bipush (v := 9) hx hb dX6_owner_9 (by decide) ?_
    refine rS (As := [.int a2, .int 1, .int 9]) (rest := []) hx hb hml hown hts hl.1 (kX6_isWithin l D cyC cyI cyO a2 1 9) bS_X6_isWithin  wml_RX6_58 ⟨rfl, rfl⟩ ⟨Nat.le_of_ble_eq_true rfl, Nat.le_of_ble_eq_true rfl, Nat.zero_le _, Nat.zero_le _⟩ [] rfl hP hK rfl rfl (Nat.le_of_ble_eq_true rfl) dX6_owner_11 ?_
    refine lv_if_eq (tgt := 27) hx hb dX6_owner_14 (by decide) (fun c_2 => ?_) (fun c_2 => ?_)
    · refine lv_iconst (v := (-1)) hx hb dX6_owner_27 (by decide) ?_
      have e9 : (pX6_owner rt sg pw rd u w h r v tu tw su sw g a1 a2 a3 a4) = ((-1), h, r, v, u, w) := by simp only [pX6_owner, if_neg c_1, if_pos c_2]
      have e9_0 : (pX6_owner rt sg pw rd u w h r v tu tw su sw g a1 a2 a3 a4).1 = (-1) := by rw [e9]
      have e9_1 : (pX6_owner rt sg pw rd u w h r v tu tw su sw g a1 a2 a3 a4).2.1 = h := by rw [e9]
      have e9_2 : (pX6_owner rt sg pw rd u w h r v tu tw su sw g a1 a2 a3 a4).2.2.1 = r := by rw [e9]
      have e9_3 : (pX6_owner rt sg pw rd u w h r v tu tw su sw g a1 a2 a3 a4).2.2.2.1 = v := by rw [e9]
      have e9_4 : (pX6_owner rt sg pw rd u w h r v tu tw su sw g a1 a2 a3 a4).2.2.2.2.1 = u := by rw [e9]
      have e9_5 : (pX6_owner rt sg pw rd u w h r v tu tw su sw g a1 a2 a3 a4).2.2.2.2.2 = w := by rw [e9]
      exact W.iret (v := (-1)) hx hb hr (fun t ht hW => ⟨⟨by rw [e9_0], by rw [e9_1, e9_2, e9_3, e9_4, e9_5, ht]; exact hP⟩, hS.F ht⟩) hS.2.2 dX6_owner_28
    · refine lv_iload_n hx hb dX6_owner_17 rfl (lv_at hl 3 rfl) ?_
      refine lv_iconst (v := 0) hx hb dX6_owner_18 (by decide) ?_
      refine lv_ldc (v := 65535) hx hb hown (hts _ wco_RX6_100) dX6_owner_19 ?_
      refine rS (As := [.int a3, .int 0, .int 65535]) (rest := []) hx hb hml hown hts hl.1 (kX6_isWithin l D cyC cyI cyO a3 0 65535) bS_X6_isWithin  wml_RX6_58 ⟨rfl, rfl⟩ ⟨Nat.le_of_ble_eq_true rfl, Nat.le_of_ble_eq_true rfl, Nat.zero_le _, Nat.zero_le _⟩ [] rfl hP hK rfl rfl (Nat.le_of_ble_eq_true rfl) dX6_owner_21 ?_
      refine lv_if_ne (tgt := 29) hx hb dX6_owner_24 (by decide) (fun c_3 => ?_) (fun c_3 => ?_)
      · refine lv_aload_n hx hb dX6_owner_29 rfl (lv_at hl 0 rfl) ?_
        refine va_get (D := D) (ci := 5) (v := .ref (HI 0)) (C := RX6) (T := TX6) (N := 12) hx hb hts inT_X6 hown hK.1 hP 0 rfl rfl 4 (by decide) (hts _ wfl_RX6_25) (fun _ h9 => h9) rfl dX6_owner_30 ?_
        refine lv_aload_n hx hb dX6_owner_33 rfl (lv_at hl 0 rfl) ?_
        refine va_get (D := D) (ci := 5) (v := .ref (C 0)) (C := RX6) (T := TX6) (N := 12) hx hb hts inT_X6 hown hK.1 hP 0 rfl rfl 0 (by decide) (hts _ wfl_RX6_10) (fun _ h9 => h9) rfl dX6_owner_34 ?_
        refine mVB (bl := [wRt Z C TR SN HI Y P R rt, wPd cyC P sg pw, wRd R P rd, wC cyI C u w, wHM cyI cyO HI BB h r v, wC cyI TR tu tw, wC cyI SN su sw, wWy cyI Y g]) (bl' := [wRt Z C TR SN HI Y P R rt, wPd cyC P sg pw, wRd R P rd, wC cyI C u w, wHM cyI cyO HI BB (va_up h ((r + 3) % 4) (u, w)) ((r + 3) % 4) (va_up v 1 (if 4 < ((v 1) + (1 : Int32)) then 4 else ((v 1) + (1 : Int32)))), wC cyI TR tu tw, wC cyI SN su sw, wWy cyI Y g]) (WSb := [wHM cyI cyO HI BB h r v, wC cyI C u w]) (WSb' := [wHM cyI cyO HI BB (va_up h ((r + 3) % 4) (u, w)) ((r + 3) % 4) (va_up v 1 (if 4 < ((v 1) + (1 : Int32)) then 4 else ((v 1) + (1 : Int32)))), wC cyI C u w]) (As := [.ref (C 0)]) (rest := []) hx hb hml hown hts hl.1 (WS := (List.flatten [wHM cyI cyO HI BB h r v, wC cyI C u w])) (WS' := (List.flatten [wHM cyI cyO HI BB (va_up h ((r + 3) % 4) (u, w)) ((r + 3) % 4) (va_up v 1 (if 4 < ((v 1) + (1 : Int32)) then 4 else ((v 1) + (1 : Int32)))), wC cyI C u w])) (ro := none) (kX1_pushM l D cyC cyI cyO HI BB C h r v u w hr4) bV_X1_push wml_RX6_62 ⟨rfl, rfl⟩ ⟨Nat.le_of_ble_eq_true rfl, Nat.le_of_ble_eq_true rfl, Nat.zero_le _, Nat.zero_le _⟩ [4, 3] rfl rfl rfl rfl rfl rfl rfl hP hD hS hA hK 0 rfl rfl rfl rfl rfl (Nat.le_of_ble_eq_true rfl) dX6_owner_37 (fun H locs hP hD hS => ?_)
        refine lv_aload_n hx hb dX6_owner_40 rfl (lv_at hl 0 rfl) ?_
        refine va_get (D := D) (ci := 5) (v := .ref (C 0)) (C := RX6) (T := TX6) (N := 12) hx hb hts inT_X6 hown hK.1 hP 0 rfl rfl 0 (by decide) (hts _ wfl_RX6_10) (fun _ h9 => h9) rfl dX6_owner_41 ?_
        refine va_get (D := D) (ci := 0) (v := .ref (C 5)) (C := RX0) (T := TX0) (N := 19) hx hb hts inT_X0 hown hK.1 hP 4 rfl rfl 4 (by decide) (hts _ wfl_RX6_101) (fun _ h9 => h9) rfl dX6_owner_44 ?_
        refine lv_iload_n hx hb dX6_owner_47 rfl (lv_at hl 1 rfl) ?_
        refine va_iald (D := D) (f := (u 4)) hx hb hK.1 hP 9 1 rfl rfl (io_in c_1) dX6_owner_48 ?_
        refine lv_istore (lv' := [(5, .int ((u 4) (a1).toNatClampNeg)), (0, .ref (Z 0)), (1, .int a1), (2, .int a2), (3, .int a3), (4, .int a4)]) hx hb dX6_owner_49 hl (by decide) rfl (fun ls hl => ?_)
        refine lv_aload_n hx hb dX6_owner_51 rfl (lv_at hl 1 rfl) ?_
        refine va_get (D := D) (ci := 5) (v := .ref (C 0)) (C := RX6) (T := TX6) (N := 12) hx hb hts inT_X6 hown hK.1 hP 0 rfl rfl 0 (by decide) (hts _ wfl_RX6_10) (fun _ h9 => h9) rfl dX6_owner_52 ?_
        refine va_get (D := D) (ci := 0) (v := .ref (C 5)) (C := RX0) (T := TX0) (N := 19) hx hb hts inT_X0 hown hK.1 hP 4 rfl rfl 4 (by decide) (hts _ wfl_RX6_101) (fun _ h9 => h9) rfl dX6_owner_55 ?_
        refine lv_iload_n hx hb dX6_owner_58 rfl (lv_at hl 2 rfl) ?_
        refine lv_iload_n hx hb dX6_owner_59 rfl (lv_at hl 3 rfl) ?_
        obtain ⟨z_4, hz_4⟩ : ∃ q, q = (upd (u 4) (a1).toNatClampNeg a2) := ⟨_, rfl⟩
        refine va_iast (D := D) (f := (u 4)) hx hb hK.1 hP hD hS 9 1 rfl rfl (io_in c_1) dX6_owner_60 (fun H locs hP hD hS => ?_)
        have hP : va_P D vwCl (List.flatten [wRt Z C TR SN HI Y P R rt, wPd cyC P sg pw, wRd R P rd, wC cyI C (va_up u 4 (upd (u 4) (a1).toNatClampNeg a2)) w, wHM cyI cyO HI BB (va_up h ((r + 3) % 4) (u, w)) ((r + 3) % 4) (va_up v 1 (if 4 < ((v 1) + (1 : Int32)) then 4 else ((v 1) + (1 : Int32)))), wC cyI TR tu tw, wC cyI SN su sw, wWy cyI Y g]) H := hP
        have hD : va_D A0 (List.flatten [wRt Z C TR SN HI Y P R rt, wPd cyC P sg pw, wRd R P rd, wC cyI C (va_up u 4 (upd (u 4) (a1).toNatClampNeg a2)) w, wHM cyI cyO HI BB (va_up h ((r + 3) % 4) (u, w)) ((r + 3) % 4) (va_up v 1 (if 4 < ((v 1) + (1 : Int32)) then 4 else ((v 1) + (1 : Int32)))), wC cyI TR tu tw, wC cyI SN su sw, wWy cyI Y g]) := hD
        rw [← hz_4] at hP hD
        refine lv_aload_n hx hb dX6_owner_61 rfl (lv_at hl 1 rfl) ?_
        refine va_get (D := D) (ci := 5) (v := .ref (C 0)) (C := RX6) (T := TX6) (N := 12) hx hb hts inT_X6 hown hK.1 hP 0 rfl rfl 0 (by decide) (hts _ wfl_RX6_10) (fun _ h9 => h9) rfl dX6_owner_62 ?_
        refine va_get (D := D) (ci := 0) (v := .ref (C 6)) (C := RX0) (T := TX0) (N := 19) hx hb hts inT_X0 hown hK.1 hP 4 rfl rfl 5 (by decide) (hts _ wfl_RX6_104) (fun _ h9 => h9) rfl dX6_owner_65 ?_
        refine lv_iload_n hx hb dX6_owner_68 rfl (lv_at hl 2 rfl) ?_
        refine lv_iload_n hx hb dX6_owner_69 rfl (lv_at hl 4 rfl) ?_
        obtain ⟨z_5, hz_5⟩ : ∃ q, q = (upd (u 5) (a1).toNatClampNeg a3) := ⟨_, rfl⟩
        refine va_iast (D := D) (f := (u 5)) hx hb hK.1 hP hD hS 10 1 rfl rfl (io_in c_1) dX6_owner_70 (fun H locs hP hD hS => ?_)
        have hP : va_P D vwCl (List.flatten [wRt Z C TR SN HI Y P R rt, wPd cyC P sg pw, wRd R P rd, wC cyI C (va_up (va_up u 4 z_4) 5 (upd (u 5) (a1).toNatClampNeg a3)) w, wHM cyI cyO HI BB (va_up h ((r + 3) % 4) (u, w)) ((r + 3) % 4) (va_up v 1 (if 4 < ((v 1) + (1 : Int32)) then 4 else ((v 1) + (1 : Int32)))), wC cyI TR tu tw, wC cyI SN su sw, wWy cyI Y g]) H := hP
        have hD : va_D A0 (List.flatten [wRt Z C TR SN HI Y P R rt, wPd cyC P sg pw, wRd R P rd, wC cyI C (va_up (va_up u 4 z_4) 5 (upd (u 5) (a1).toNatClampNeg a3)) w, wHM cyI cyO HI BB (va_up h ((r + 3) % 4) (u, w)) ((r + 3) % 4) (va_up v 1 (if 4 < ((v 1) + (1 : Int32)) then 4 else ((v 1) + (1 : Int32)))), wC cyI TR tu tw, wC cyI SN su sw, wWy cyI Y g]) := hD
        rw [← hz_5] at hP hD
        refine lv_aload_n hx hb dX6_owner_71 rfl (lv_at hl 1 rfl) ?_
        refine va_get (D := D) (ci := 5) (v := .ref (C 0)) (C := RX6) (T := TX6) (N := 12) hx hb hts inT_X6 hown hK.1 hP 0 rfl rfl 0 (by decide) (hts _ wfl_RX6_10) (fun _ h9 => h9) rfl dX6_owner_72 ?_
        refine lv_iload_n hx hb dX6_owner_75 rfl (lv_at hl 2 rfl) ?_
        refine lv_iload hx hb dX6_owner_76 (lv_at hl 5 rfl) ?_
        obtain ⟨z_6, hz_6⟩ : ∃ q, q = (pX0_setTruce (va_up (va_up u 4 z_4) 5 z_5) w a1 a4) := ⟨_, rfl⟩
        refine mVB (bl := [wRt Z C TR SN HI Y P R rt, wPd cyC P sg pw, wRd R P rd, wC cyI C (va_up (va_up u 4 z_4) 5 z_5) w, wHM cyI cyO HI BB (va_up h ((r + 3) % 4) (u, w)) ((r + 3) % 4) (va_up v 1 (if 4 < ((v 1) + (1 : Int32)) then 4 else ((v 1) + (1 : Int32)))), wC cyI TR tu tw, wC cyI SN su sw, wWy cyI Y g]) (bl' := [wRt Z C TR SN HI Y P R rt, wPd cyC P sg pw, wRd R P rd, wC cyI C z_6.1 z_6.2, wHM cyI cyO HI BB (va_up h ((r + 3) % 4) (u, w)) ((r + 3) % 4) (va_up v 1 (if 4 < ((v 1) + (1 : Int32)) then 4 else ((v 1) + (1 : Int32)))), wC cyI TR tu tw, wC cyI SN su sw, wWy cyI Y g]) (WSb := [wC cyI C (va_up (va_up u 4 z_4) 5 z_5) w]) (WSb' := [wC cyI C z_6.1 z_6.2]) (As := [.int a1, .int a4]) (rest := []) hx hb hml hown hts hl.1 (WS := (wC cyI C (va_up (va_up u 4 z_4) 5 z_5) w)) (WS' := (wC cyI C z_6.1 z_6.2)) (ro := none) (by rw [hz_6]; exact kX0_setTruce l D cyC cyI cyO C (va_up (va_up u 4 z_4) 5 z_5) w a1 a4) bV_X0_setTruce wml_RX6_107 ⟨rfl, rfl⟩ ⟨Nat.le_of_ble_eq_true rfl, Nat.le_of_ble_eq_true rfl, Nat.zero_le _, Nat.zero_le _⟩ [3] (by simp only [List.flatten_cons, List.flatten_nil, List.append_nil]) (by simp only [List.flatten_cons, List.flatten_nil, List.append_nil]) rfl rfl rfl rfl rfl hP hD hS hA hK 0 rfl rfl rfl rfl rfl (Nat.le_of_ble_eq_true rfl) dX6_owner_78 (fun H locs hP hD hS => ?_)
        refine lv_iload hx hb dX6_owner_81 (lv_at hl 0 rfl) ?_
        have e9 : (pX6_owner rt sg pw rd u w h r v tu tw su sw g a1 a2 a3 a4) = (((u 4) (a1).toNatClampNeg), (va_up h ((r + 3) % 4) (u, w)), ((r + 3) % 4), (va_up v 1 (if 4 < ((v 1) + (1 : Int32)) then 4 else ((v 1) + (1 : Int32)))), z_6.1, z_6.2) := by simp only [pX6_owner, ← hz_4, ← hz_5, ← hz_6, if_neg c_1, if_neg c_2, if_neg c_3]
        have e9_0 : (pX6_owner rt sg pw rd u w h r v tu tw su sw g a1 a2 a3 a4).1 = ((u 4) (a1).toNatClampNeg) := by rw [e9]
        have e9_1 : (pX6_owner rt sg pw rd u w h r v tu tw su sw g a1 a2 a3 a4).2.1 = (va_up h ((r + 3) % 4) (u, w)) := by rw [e9]
        have e9_2 : (pX6_owner rt sg pw rd u w h r v tu tw su sw g a1 a2 a3 a4).2.2.1 = ((r + 3) % 4) := by rw [e9]
        have e9_3 : (pX6_owner rt sg pw rd u w h r v tu tw su sw g a1 a2 a3 a4).2.2.2.1 = (va_up v 1 (if 4 < ((v 1) + (1 : Int32)) then 4 else ((v 1) + (1 : Int32)))) := by rw [e9]
        have e9_4 : (pX6_owner rt sg pw rd u w h r v tu tw su sw g a1 a2 a3 a4).2.2.2.2.1 = z_6.1 := by rw [e9]
        have e9_5 : (pX6_owner rt sg pw rd u w h r v tu tw su sw g a1 a2 a3 a4).2.2.2.2.2 = z_6.2 := by rw [e9]
        exact W.iret (v := ((u 4) (a1).toNatClampNeg)) hx hb hr (fun t ht hW => ⟨⟨by rw [e9_0], by rw [e9_1, e9_2, e9_3, e9_4, e9_5, ht]; exact hP⟩, hS.F ht⟩) hS.2.2 dX6_owner_83
      · refine lv_iconst (v := (-1)) hx hb dX6_owner_27 (by decide) ?_
        have e9 : (pX6_owner rt sg pw rd u w h r v tu tw su sw g a1 a2 a3 a4) = ((-1), h, r, v, u, w) := by simp only [pX6_owner, if_neg c_1, if_neg c_2, if_pos c_3]
        have e9_0 : (pX6_owner rt sg pw rd u w h r v tu tw su sw g a1 a2 a3 a4).1 = (-1) := by rw [e9]
        have e9_1 : (pX6_owner rt sg pw rd u w h r v tu tw su sw g a1 a2 a3 a4).2.1 = h := by rw [e9]
        have e9_2 : (pX6_owner rt sg pw rd u w h r v tu tw su sw g a1 a2 a3 a4).2.2.1 = r := by rw [e9]
        have e9_3 : (pX6_owner rt sg pw rd u w h r v tu tw su sw g a1 a2 a3 a4).2.2.2.1 = v := by rw [e9]
        have e9_4 : (pX6_owner rt sg pw rd u w h r v tu tw su sw g a1 a2 a3 a4).2.2.2.2.1 = u := by rw [e9]
        have e9_5 : (pX6_owner rt sg pw rd u w h r v tu tw su sw g a1 a2 a3 a4).2.2.2.2.2 = w := by rw [e9]
        exact W.iret (v := (-1)) hx hb hr (fun t ht hW => ⟨⟨by rw [e9_0], by rw [e9_1, e9_2, e9_3, e9_4, e9_5, ht]; exact hP⟩, hS.F ht⟩) hS.2.2 dX6_owner_28
theorem bV_X6_owner : BV RX6 yX6_owner cX6_owner 6 (some .int) 4 := ⟨wcd_X6_owner, wim_X6_owner, wse_X6_owner, win_RX6, by decide +kernel⟩
def pX6_reach (rt : (Nat → Int32)) (sg : (Nat → Nat → Int32)) (pw : (Nat → Int32)) (rd : (Nat → Int32)) (u : (Nat → Nat → Int32)) (w : (Nat → Int32)) (h : (Nat → (Nat → Nat → Int32) × (Nat → Int32))) (r : Nat) (v : (Nat → Int32)) (tu : (Nat → Nat → Int32)) (tw : (Nat → Int32)) (su : (Nat → Nat → Int32)) (sw : (Nat → Int32)) (g : (Nat → Nat → Int32)) (a1 : Int32) : Int32 × (Nat → (Nat → Nat → Int32) × (Nat → Int32)) × Nat × (Nat → Int32) × (Nat → Nat → Int32) × (Nat → Int32) := (if (pX6_isWithin a1 0 3) = 0 then ((-1), h, r, v, u, w) else ((w 12), (va_up h ((r + 3) % 4) (u, w)), ((r + 3) % 4), (va_up v 1 (if 4 < ((v 1) + (1 : Int32)) then 4 else ((v 1) + (1 : Int32)))), u, (va_up w 12 a1)))
set_option maxHeartbeats 4000000 in
set_option maxRecDepth 100000 in
theorem kX6_reach (l : Launch) (D : va_G) (cyC cyI cyO : ClassId) (Z : Nat → Nat) (C : Nat → Nat) (TR : Nat → Nat) (SN : Nat → Nat) (HI : Nat → Nat) (Y : Nat → Nat) (P : Nat → Nat) (R : Nat → Nat) (BB : Nat → Nat → Nat) (rt : (Nat → Int32)) (sg : (Nat → Nat → Int32)) (pw : (Nat → Int32)) (rd : (Nat → Int32)) (u : (Nat → Nat → Int32)) (w : (Nat → Int32)) (h : (Nat → (Nat → Nat → Int32) × (Nat → Int32))) (r : Nat) (v : (Nat → Int32)) (tu : (Nat → Nat → Int32)) (tw : (Nat → Int32)) (su : (Nat → Nat → Int32)) (sw : (Nat → Int32)) (g : (Nat → Nat → Int32)) (a1 : Int32) (hr4 : r < 4) : MU l yX6_reach (Ty yX6_reach cX6_reach 3 (some .int)) ({ frames := 3, cells := 0, slots := 0, locals := 84 } : Room) D cyC cyI cyO (List.flatten [wRt Z C TR SN HI Y P R rt, wPd cyC P sg pw, wRd R P rd, wC cyI C u w, wHM cyI cyO HI BB h r v, wC cyI TR tu tw, wC cyI SN su sw, wWy cyI Y g]) [.ref (Z 0), .int a1] (some (.int (pX6_reach rt sg pw rd u w h r v tu tw su sw g a1).1)) (List.flatten [wRt Z C TR SN HI Y P R rt, wPd cyC P sg pw, wRd R P rd, wC cyI C (pX6_reach rt sg pw rd u w h r v tu tw su sw g a1).2.2.2.2.1 (pX6_reach rt sg pw rd u w h r v tu tw su sw g a1).2.2.2.2.2, wHM cyI cyO HI BB (pX6_reach rt sg pw rd u w h r v tu tw su sw g a1).2.1 (pX6_reach rt sg pw rd u w h r v tu tw su sw g a1).2.2.1 (pX6_reach rt sg pw rd u w h r v tu tw su sw g a1).2.2.2.1, wC cyI TR tu tw, wC cyI SN su sw, wWy cyI Y g]) := by
  intro sz
  refine Met.ofW (cc := cX6_reach) (maxL := 3) (ret := (some .int)) (by decide) rfl ?_
  intro p e s m args below meth cd s₁ B hml hv
  obtain ⟨rfl, hsz, hP, hK, hD0⟩ := hv
  have hx := B.exec
  have hb := B.bytes
  have hr := B.returns
  have hts : ∀ w ∈ TB, w.before ([.ref (Z 0), .int a1] : List Value).toArray s = true := fun w h => atoms_spec (ws := (Ty yX6_reach cX6_reach 3 (some .int))) B.pre w (List.mem_cons_of_mem _ h)
  have hown : s.vm.findClass RX6 = some m.cls := findClass_of_methodNamed B.named
  have hlocks := B.notSynchronized
  subst hsz
  have hD := hD0.self (sz := s.heap.size)
  have hA : ∀ q : Nat, s.heap.size ≤ q → (va_A (List.flatten [wRt Z C TR SN HI Y P R rt, wPd cyC P sg pw, wRd R P rd, wC cyI C u w, wHM cyI cyO HI BB h r v, wC cyI TR tu tw, wC cyI SN su sw, wWy cyI Y g]) s.heap.size) q := fun q h => Or.inr h
  generalize hAe : va_A (List.flatten [wRt Z C TR SN HI Y P R rt, wPd cyC P sg pw, wRd R P rd, wC cyI C u w, wHM cyI cyO HI BB h r v, wC cyI TR tu tw, wC cyI SN su sw, wWy cyI Y g]) s.heap.size = A0 at hD hA ⊢
  have hS : va_S A0 s.heap s.heap [] := va_S.rf
  have hl := lv_entry ([.ref (Z 0), .int a1]) (n := 3) (Nat.le_of_ble_eq_true rfl)
  rw [lg_entry_eq]
  generalize (lg_sl ([.ref (Z 0), .int a1]) ++ List.replicate (3 - (lg_sl ([.ref (Z 0), .int a1])).length) Slot.unset).toArray = ls at hl ⊢
  have hl : lv_has ls 3 [(0, .ref (Z 0)), (1, .int a1)] := hl
  refine lv_iload_n hx hb dX6_reach_0 rfl (lv_at hl 1 rfl) ?_
  refine lv_iconst (v := 0) hx hb dX6_reach_1 (by decide) ?_
  refine lv_iconst (v := 3) hx hb dX6_reach_2 (by decide) ?_
  refine rS (As := [.int a1, .int 0, .int 3]) (rest := []) hx hb hml hown hts hl.1 (kX6_isWithin l D cyC cyI cyO a1 0 3) bS_X6_isWithin  wml_RX6_58 ⟨rfl, rfl⟩ ⟨Nat.le_of_ble_eq_true rfl, Nat.le_of_ble_eq_true rfl, Nat.zero_le _, Nat.zero_le _⟩ [] rfl hP hK rfl rfl (Nat.le_of_ble_eq_true rfl) dX6_reach_3 ?_
  refine lv_if_ne (tgt := 11) hx hb dX6_reach_6 (by decide) (fun c_1 => ?_) (fun c_1 => ?_)
  · refine lv_aload_n hx hb dX6_reach_11 rfl (lv_at hl 0 rfl) ?_
    refine va_get (D := D) (ci := 5) (v := .ref (HI 0)) (C := RX6) (T := TX6) (N := 12) hx hb hts inT_X6 hown hK.1 hP 0 rfl rfl 4 (by decide) (hts _ wfl_RX6_25) (fun _ h9 => h9) rfl dX6_reach_12 ?_
    refine lv_aload_n hx hb dX6_reach_15 rfl (lv_at hl 0 rfl) ?_
    refine va_get (D := D) (ci := 5) (v := .ref (C 0)) (C := RX6) (T := TX6) (N := 12) hx hb hts inT_X6 hown hK.1 hP 0 rfl rfl 0 (by decide) (hts _ wfl_RX6_10) (fun _ h9 => h9) rfl dX6_reach_16 ?_
    refine mVB (bl := [wRt Z C TR SN HI Y P R rt, wPd cyC P sg pw, wRd R P rd, wC cyI C u w, wHM cyI cyO HI BB h r v, wC cyI TR tu tw, wC cyI SN su sw, wWy cyI Y g]) (bl' := [wRt Z C TR SN HI Y P R rt, wPd cyC P sg pw, wRd R P rd, wC cyI C u w, wHM cyI cyO HI BB (va_up h ((r + 3) % 4) (u, w)) ((r + 3) % 4) (va_up v 1 (if 4 < ((v 1) + (1 : Int32)) then 4 else ((v 1) + (1 : Int32)))), wC cyI TR tu tw, wC cyI SN su sw, wWy cyI Y g]) (WSb := [wHM cyI cyO HI BB h r v, wC cyI C u w]) (WSb' := [wHM cyI cyO HI BB (va_up h ((r + 3) % 4) (u, w)) ((r + 3) % 4) (va_up v 1 (if 4 < ((v 1) + (1 : Int32)) then 4 else ((v 1) + (1 : Int32)))), wC cyI C u w]) (As := [.ref (C 0)]) (rest := []) hx hb hml hown hts hl.1 (WS := (List.flatten [wHM cyI cyO HI BB h r v, wC cyI C u w])) (WS' := (List.flatten [wHM cyI cyO HI BB (va_up h ((r + 3) % 4) (u, w)) ((r + 3) % 4) (va_up v 1 (if 4 < ((v 1) + (1 : Int32)) then 4 else ((v 1) + (1 : Int32)))), wC cyI C u w])) (ro := none) (kX1_pushM l D cyC cyI cyO HI BB C h r v u w hr4) bV_X1_push wml_RX6_62 ⟨rfl, rfl⟩ ⟨Nat.le_of_ble_eq_true rfl, Nat.le_of_ble_eq_true rfl, Nat.zero_le _, Nat.zero_le _⟩ [4, 3] rfl rfl rfl rfl rfl rfl rfl hP hD hS hA hK 0 rfl rfl rfl rfl rfl (Nat.le_of_ble_eq_true rfl) dX6_reach_19 (fun H locs hP hD hS => ?_)
    refine lv_aload_n hx hb dX6_reach_22 rfl (lv_at hl 0 rfl) ?_
    refine va_get (D := D) (ci := 5) (v := .ref (C 0)) (C := RX6) (T := TX6) (N := 12) hx hb hts inT_X6 hown hK.1 hP 0 rfl rfl 0 (by decide) (hts _ wfl_RX6_10) (fun _ h9 => h9) rfl dX6_reach_23 ?_
    refine va_get (D := D) (ci := 0) (v := .int (w 12)) (C := RX0) (T := TX0) (N := 19) hx hb hts inT_X0 hown hK.1 hP 4 rfl rfl 12 (by decide) (hts _ wfl_RX6_111) (fun _ h9 => h9) rfl dX6_reach_26 ?_
    refine lv_istore_n (lv' := [(2, .int (w 12)), (0, .ref (Z 0)), (1, .int a1)]) hx hb dX6_reach_29 rfl hl (by decide) rfl (fun ls hl => ?_)
    refine lv_aload_n hx hb dX6_reach_30 rfl (lv_at hl 1 rfl) ?_
    refine va_get (D := D) (ci := 5) (v := .ref (C 0)) (C := RX6) (T := TX6) (N := 12) hx hb hts inT_X6 hown hK.1 hP 0 rfl rfl 0 (by decide) (hts _ wfl_RX6_10) (fun _ h9 => h9) rfl dX6_reach_31 ?_
    refine lv_iload_n hx hb dX6_reach_34 rfl (lv_at hl 2 rfl) ?_
    refine va_put (D := D) (ci := 0) (v := .int a1) (ty := .int) (C := RX0) (T := TX0) (N := 19) hx hb hts inT_X0 tyX0 tyX0_ok nmX0 hown hK.1 hP hD hS 4 rfl rfl 12 (by decide) (hts _ wfl_RX6_111) (fun _ h9 => h9) rfl (by decide +kernel) (by rfl) rfl (Nat.le_of_ble_eq_true rfl) dX6_reach_35 (fun H locs hP hD hS => ?_)
    have hP : va_P D vwCl (List.flatten [wRt Z C TR SN HI Y P R rt, wPd cyC P sg pw, wRd R P rd, wC cyI C u (va_up w 12 a1), wHM cyI cyO HI BB (va_up h ((r + 3) % 4) (u, w)) ((r + 3) % 4) (va_up v 1 (if 4 < ((v 1) + (1 : Int32)) then 4 else ((v 1) + (1 : Int32)))), wC cyI TR tu tw, wC cyI SN su sw, wWy cyI Y g]) H := hP
    have hD : va_D A0 (List.flatten [wRt Z C TR SN HI Y P R rt, wPd cyC P sg pw, wRd R P rd, wC cyI C u (va_up w 12 a1), wHM cyI cyO HI BB (va_up h ((r + 3) % 4) (u, w)) ((r + 3) % 4) (va_up v 1 (if 4 < ((v 1) + (1 : Int32)) then 4 else ((v 1) + (1 : Int32)))), wC cyI TR tu tw, wC cyI SN su sw, wWy cyI Y g]) := hD
    refine lv_iload_n hx hb dX6_reach_38 rfl (lv_at hl 0 rfl) ?_
    have e9 : (pX6_reach rt sg pw rd u w h r v tu tw su sw g a1) = ((w 12), (va_up h ((r + 3) % 4) (u, w)), ((r + 3) % 4), (va_up v 1 (if 4 < ((v 1) + (1 : Int32)) then 4 else ((v 1) + (1 : Int32)))), u, (va_up w 12 a1)) := by simp only [pX6_reach, if_neg c_1]
    have e9_0 : (pX6_reach rt sg pw rd u w h r v tu tw su sw g a1).1 = (w 12) := by rw [e9]
    have e9_1 : (pX6_reach rt sg pw rd u w h r v tu tw su sw g a1).2.1 = (va_up h ((r + 3) % 4) (u, w)) := by rw [e9]
    have e9_2 : (pX6_reach rt sg pw rd u w h r v tu tw su sw g a1).2.2.1 = ((r + 3) % 4) := by rw [e9]
    have e9_3 : (pX6_reach rt sg pw rd u w h r v tu tw su sw g a1).2.2.2.1 = (va_up v 1 (if 4 < ((v 1) + (1 : Int32)) then 4 else ((v 1) + (1 : Int32)))) := by rw [e9]
    have e9_4 : (pX6_reach rt sg pw rd u w h r v tu tw su sw g a1).2.2.2.2.1 = u := by rw [e9]
    have e9_5 : (pX6_reach rt sg pw rd u w h r v tu tw su sw g a1).2.2.2.2.2 = (va_up w 12 a1) := by rw [e9]
    exact W.iret (v := (w 12)) hx hb hr (fun t ht hW => ⟨⟨by rw [e9_0], by rw [e9_1, e9_2, e9_3, e9_4, e9_5, ht]; exact hP⟩, hS.F ht⟩) hS.2.2 dX6_reach_39
  · refine lv_iconst (v := (-1)) hx hb dX6_reach_9 (by decide) ?_
    have e9 : (pX6_reach rt sg pw rd u w h r v tu tw su sw g a1) = ((-1), h, r, v, u, w) := by simp only [pX6_reach, if_pos c_1]
    have e9_0 : (pX6_reach rt sg pw rd u w h r v tu tw su sw g a1).1 = (-1) := by rw [e9]
    have e9_1 : (pX6_reach rt sg pw rd u w h r v tu tw su sw g a1).2.1 = h := by rw [e9]
    have e9_2 : (pX6_reach rt sg pw rd u w h r v tu tw su sw g a1).2.2.1 = r := by rw [e9]
    have e9_3 : (pX6_reach rt sg pw rd u w h r v tu tw su sw g a1).2.2.2.1 = v := by rw [e9]
    have e9_4 : (pX6_reach rt sg pw rd u w h r v tu tw su sw g a1).2.2.2.2.1 = u := by rw [e9]
    have e9_5 : (pX6_reach rt sg pw rd u w h r v tu tw su sw g a1).2.2.2.2.2 = w := by rw [e9]
    exact W.iret (v := (-1)) hx hb hr (fun t ht hW => ⟨⟨by rw [e9_0], by rw [e9_1, e9_2, e9_3, e9_4, e9_5, ht]; exact hP⟩, hS.F ht⟩) hS.2.2 dX6_reach_10
theorem bV_X6_reach : BV RX6 yX6_reach cX6_reach 3 (some .int) 1 := ⟨wcd_X6_reach, wim_X6_reach, wse_X6_reach, win_RX6, by decide +kernel⟩
def pX6_hang (rt : (Nat → Int32)) (sg : (Nat → Nat → Int32)) (pw : (Nat → Int32)) (rd : (Nat → Int32)) (u : (Nat → Nat → Int32)) (w : (Nat → Int32)) (h : (Nat → (Nat → Nat → Int32) × (Nat → Int32))) (r : Nat) (v : (Nat → Int32)) (tu : (Nat → Nat → Int32)) (tw : (Nat → Int32)) (su : (Nat → Nat → Int32)) (sw : (Nat → Int32)) (g : (Nat → Nat → Int32)) (a1 : Int32) (a2 : Int32) : Int32 × (Nat → (Nat → Nat → Int32) × (Nat → Int32)) × Nat × (Nat → Int32) × (Nat → Nat → Int32) × (Nat → Int32) := (if (pX6_isOwner a1) = 0 then ((-1), h, r, v, u, w) else (if (pX4_isGangway a2) = 0 then ((-1), h, r, v, u, w) else ((pX0_hangLine u w a1 a2).1, (va_up h ((r + 3) % 4) (u, w)), ((r + 3) % 4), (va_up v 1 (if 4 < ((v 1) + (1 : Int32)) then 4 else ((v 1) + (1 : Int32)))), (pX0_hangLine u w a1 a2).2.1, (pX0_hangLine u w a1 a2).2.2)))
set_option maxHeartbeats 4000000 in
set_option maxRecDepth 100000 in
theorem kX6_hang (l : Launch) (D : va_G) (cyC cyI cyO : ClassId) (Z : Nat → Nat) (C : Nat → Nat) (TR : Nat → Nat) (SN : Nat → Nat) (HI : Nat → Nat) (Y : Nat → Nat) (P : Nat → Nat) (R : Nat → Nat) (BB : Nat → Nat → Nat) (rt : (Nat → Int32)) (sg : (Nat → Nat → Int32)) (pw : (Nat → Int32)) (rd : (Nat → Int32)) (u : (Nat → Nat → Int32)) (w : (Nat → Int32)) (h : (Nat → (Nat → Nat → Int32) × (Nat → Int32))) (r : Nat) (v : (Nat → Int32)) (tu : (Nat → Nat → Int32)) (tw : (Nat → Int32)) (su : (Nat → Nat → Int32)) (sw : (Nat → Int32)) (g : (Nat → Nat → Int32)) (a1 : Int32) (a2 : Int32) (hr4 : r < 4) (hq : (w 12) < 4) : MU l yX6_hang (Ty yX6_hang cX6_hang 3 (some .int)) ({ frames := 5, cells := 0, slots := 0, locals := 115 } : Room) D cyC cyI cyO (List.flatten [wRt Z C TR SN HI Y P R rt, wPd cyC P sg pw, wRd R P rd, wC cyI C u w, wHM cyI cyO HI BB h r v, wC cyI TR tu tw, wC cyI SN su sw, wWy cyI Y g]) [.ref (Z 0), .int a1, .int a2] (some (.int (pX6_hang rt sg pw rd u w h r v tu tw su sw g a1 a2).1)) (List.flatten [wRt Z C TR SN HI Y P R rt, wPd cyC P sg pw, wRd R P rd, wC cyI C (pX6_hang rt sg pw rd u w h r v tu tw su sw g a1 a2).2.2.2.2.1 (pX6_hang rt sg pw rd u w h r v tu tw su sw g a1 a2).2.2.2.2.2, wHM cyI cyO HI BB (pX6_hang rt sg pw rd u w h r v tu tw su sw g a1 a2).2.1 (pX6_hang rt sg pw rd u w h r v tu tw su sw g a1 a2).2.2.1 (pX6_hang rt sg pw rd u w h r v tu tw su sw g a1 a2).2.2.2.1, wC cyI TR tu tw, wC cyI SN su sw, wWy cyI Y g]) := by
  intro sz
  refine Met.ofW (cc := cX6_hang) (maxL := 3) (ret := (some .int)) (by decide) rfl ?_
  intro p e s m args below meth cd s₁ B hml hv
  obtain ⟨rfl, hsz, hP, hK, hD0⟩ := hv
  have hx := B.exec
  have hb := B.bytes
  have hr := B.returns
  have hts : ∀ w ∈ TB, w.before ([.ref (Z 0), .int a1, .int a2] : List Value).toArray s = true := fun w h => atoms_spec (ws := (Ty yX6_hang cX6_hang 3 (some .int))) B.pre w (List.mem_cons_of_mem _ h)
  have hown : s.vm.findClass RX6 = some m.cls := findClass_of_methodNamed B.named
  have hlocks := B.notSynchronized
  subst hsz
  have hD := hD0.self (sz := s.heap.size)
  have hA : ∀ q : Nat, s.heap.size ≤ q → (va_A (List.flatten [wRt Z C TR SN HI Y P R rt, wPd cyC P sg pw, wRd R P rd, wC cyI C u w, wHM cyI cyO HI BB h r v, wC cyI TR tu tw, wC cyI SN su sw, wWy cyI Y g]) s.heap.size) q := fun q h => Or.inr h
  generalize hAe : va_A (List.flatten [wRt Z C TR SN HI Y P R rt, wPd cyC P sg pw, wRd R P rd, wC cyI C u w, wHM cyI cyO HI BB h r v, wC cyI TR tu tw, wC cyI SN su sw, wWy cyI Y g]) s.heap.size = A0 at hD hA ⊢
  have hS : va_S A0 s.heap s.heap [] := va_S.rf
  have hl := lv_entry ([.ref (Z 0), .int a1, .int a2]) (n := 3) (Nat.le_of_ble_eq_true rfl)
  rw [lg_entry_eq]
  generalize (lg_sl ([.ref (Z 0), .int a1, .int a2]) ++ List.replicate (3 - (lg_sl ([.ref (Z 0), .int a1, .int a2])).length) Slot.unset).toArray = ls at hl ⊢
  have hl : lv_has ls 3 [(0, .ref (Z 0)), (1, .int a1), (2, .int a2)] := hl
  refine lv_iload_n hx hb dX6_hang_0 rfl (lv_at hl 1 rfl) ?_
  refine rS (As := [.int a1]) (rest := []) hx hb hml hown hts hl.1 (kX6_isOwner l D cyC cyI cyO a1) bS_X6_isOwner  wml_RX6_97 ⟨rfl, rfl⟩ ⟨Nat.le_of_ble_eq_true rfl, Nat.le_of_ble_eq_true rfl, Nat.zero_le _, Nat.zero_le _⟩ [] rfl hP hK rfl rfl (Nat.le_of_ble_eq_true rfl) dX6_hang_1 ?_
  refine lv_if_eq (tgt := 14) hx hb dX6_hang_4 (by decide) (fun c_1 => ?_) (fun c_1 => ?_)
  · refine lv_iconst (v := (-1)) hx hb dX6_hang_14 (by decide) ?_
    have e9 : (pX6_hang rt sg pw rd u w h r v tu tw su sw g a1 a2) = ((-1), h, r, v, u, w) := by simp only [pX6_hang, if_pos c_1]
    have e9_0 : (pX6_hang rt sg pw rd u w h r v tu tw su sw g a1 a2).1 = (-1) := by rw [e9]
    have e9_1 : (pX6_hang rt sg pw rd u w h r v tu tw su sw g a1 a2).2.1 = h := by rw [e9]
    have e9_2 : (pX6_hang rt sg pw rd u w h r v tu tw su sw g a1 a2).2.2.1 = r := by rw [e9]
    have e9_3 : (pX6_hang rt sg pw rd u w h r v tu tw su sw g a1 a2).2.2.2.1 = v := by rw [e9]
    have e9_4 : (pX6_hang rt sg pw rd u w h r v tu tw su sw g a1 a2).2.2.2.2.1 = u := by rw [e9]
    have e9_5 : (pX6_hang rt sg pw rd u w h r v tu tw su sw g a1 a2).2.2.2.2.2 = w := by rw [e9]
    exact W.iret (v := (-1)) hx hb hr (fun t ht hW => ⟨⟨by rw [e9_0], by rw [e9_1, e9_2, e9_3, e9_4, e9_5, ht]; exact hP⟩, hS.F ht⟩) hS.2.2 dX6_hang_15
  · refine lv_iload_n hx hb dX6_hang_7 rfl (lv_at hl 2 rfl) ?_
    refine rS (As := [.int a2]) (rest := []) hx hb hml hown hts hl.1 (kX4_isGangway l D cyC cyI cyO a2) bS_X4_isGangway  wml_RX6_52 ⟨rfl, rfl⟩ ⟨Nat.le_of_ble_eq_true rfl, Nat.le_of_ble_eq_true rfl, Nat.zero_le _, Nat.zero_le _⟩ [] rfl hP hK rfl rfl (Nat.le_of_ble_eq_true rfl) dX6_hang_8 ?_
    refine lv_if_ne (tgt := 16) hx hb dX6_hang_11 (by decide) (fun c_2 => ?_) (fun c_2 => ?_)
    · refine lv_aload_n hx hb dX6_hang_16 rfl (lv_at hl 0 rfl) ?_
      refine va_get (D := D) (ci := 5) (v := .ref (HI 0)) (C := RX6) (T := TX6) (N := 12) hx hb hts inT_X6 hown hK.1 hP 0 rfl rfl 4 (by decide) (hts _ wfl_RX6_25) (fun _ h9 => h9) rfl dX6_hang_17 ?_
      refine lv_aload_n hx hb dX6_hang_20 rfl (lv_at hl 0 rfl) ?_
      refine va_get (D := D) (ci := 5) (v := .ref (C 0)) (C := RX6) (T := TX6) (N := 12) hx hb hts inT_X6 hown hK.1 hP 0 rfl rfl 0 (by decide) (hts _ wfl_RX6_10) (fun _ h9 => h9) rfl dX6_hang_21 ?_
      refine mVB (bl := [wRt Z C TR SN HI Y P R rt, wPd cyC P sg pw, wRd R P rd, wC cyI C u w, wHM cyI cyO HI BB h r v, wC cyI TR tu tw, wC cyI SN su sw, wWy cyI Y g]) (bl' := [wRt Z C TR SN HI Y P R rt, wPd cyC P sg pw, wRd R P rd, wC cyI C u w, wHM cyI cyO HI BB (va_up h ((r + 3) % 4) (u, w)) ((r + 3) % 4) (va_up v 1 (if 4 < ((v 1) + (1 : Int32)) then 4 else ((v 1) + (1 : Int32)))), wC cyI TR tu tw, wC cyI SN su sw, wWy cyI Y g]) (WSb := [wHM cyI cyO HI BB h r v, wC cyI C u w]) (WSb' := [wHM cyI cyO HI BB (va_up h ((r + 3) % 4) (u, w)) ((r + 3) % 4) (va_up v 1 (if 4 < ((v 1) + (1 : Int32)) then 4 else ((v 1) + (1 : Int32)))), wC cyI C u w]) (As := [.ref (C 0)]) (rest := []) hx hb hml hown hts hl.1 (WS := (List.flatten [wHM cyI cyO HI BB h r v, wC cyI C u w])) (WS' := (List.flatten [wHM cyI cyO HI BB (va_up h ((r + 3) % 4) (u, w)) ((r + 3) % 4) (va_up v 1 (if 4 < ((v 1) + (1 : Int32)) then 4 else ((v 1) + (1 : Int32)))), wC cyI C u w])) (ro := none) (kX1_pushM l D cyC cyI cyO HI BB C h r v u w hr4) bV_X1_push wml_RX6_62 ⟨rfl, rfl⟩ ⟨Nat.le_of_ble_eq_true rfl, Nat.le_of_ble_eq_true rfl, Nat.zero_le _, Nat.zero_le _⟩ [4, 3] rfl rfl rfl rfl rfl rfl rfl hP hD hS hA hK 0 rfl rfl rfl rfl rfl (Nat.le_of_ble_eq_true rfl) dX6_hang_24 (fun H locs hP hD hS => ?_)
      refine lv_aload_n hx hb dX6_hang_27 rfl (lv_at hl 0 rfl) ?_
      refine va_get (D := D) (ci := 5) (v := .ref (C 0)) (C := RX6) (T := TX6) (N := 12) hx hb hts inT_X6 hown hK.1 hP 0 rfl rfl 0 (by decide) (hts _ wfl_RX6_10) (fun _ h9 => h9) rfl dX6_hang_28 ?_
      refine lv_iload_n hx hb dX6_hang_31 rfl (lv_at hl 1 rfl) ?_
      refine lv_iload_n hx hb dX6_hang_32 rfl (lv_at hl 2 rfl) ?_
      obtain ⟨z_3, hz_3⟩ : ∃ q, q = (pX0_hangLine u w a1 a2) := ⟨_, rfl⟩
      refine mVB (bl := [wRt Z C TR SN HI Y P R rt, wPd cyC P sg pw, wRd R P rd, wC cyI C u w, wHM cyI cyO HI BB (va_up h ((r + 3) % 4) (u, w)) ((r + 3) % 4) (va_up v 1 (if 4 < ((v 1) + (1 : Int32)) then 4 else ((v 1) + (1 : Int32)))), wC cyI TR tu tw, wC cyI SN su sw, wWy cyI Y g]) (bl' := [wRt Z C TR SN HI Y P R rt, wPd cyC P sg pw, wRd R P rd, wC cyI C z_3.2.1 z_3.2.2, wHM cyI cyO HI BB (va_up h ((r + 3) % 4) (u, w)) ((r + 3) % 4) (va_up v 1 (if 4 < ((v 1) + (1 : Int32)) then 4 else ((v 1) + (1 : Int32)))), wC cyI TR tu tw, wC cyI SN su sw, wWy cyI Y g]) (WSb := [wC cyI C u w]) (WSb' := [wC cyI C z_3.2.1 z_3.2.2]) (As := [.int a1, .int a2]) (rest := []) hx hb hml hown hts hl.1 (WS := (wC cyI C u w)) (WS' := (wC cyI C z_3.2.1 z_3.2.2)) (ro := (some (.int z_3.1))) (by rw [hz_3]; exact kX0_hangLine l D cyC cyI cyO C u w a1 a2 (io_in c_1) (ig_in c_2) hq) bV_X0_hangLine wml_RX6_114 ⟨rfl, rfl⟩ ⟨Nat.le_of_ble_eq_true rfl, Nat.le_of_ble_eq_true rfl, Nat.zero_le _, Nat.zero_le _⟩ [3] (by simp only [List.flatten_cons, List.flatten_nil, List.append_nil]) (by simp only [List.flatten_cons, List.flatten_nil, List.append_nil]) rfl rfl rfl rfl rfl hP hD hS hA hK 0 rfl rfl rfl rfl rfl (Nat.le_of_ble_eq_true rfl) dX6_hang_33 (fun H locs hP hD hS => ?_)
      have e9 : (pX6_hang rt sg pw rd u w h r v tu tw su sw g a1 a2) = (z_3.1, (va_up h ((r + 3) % 4) (u, w)), ((r + 3) % 4), (va_up v 1 (if 4 < ((v 1) + (1 : Int32)) then 4 else ((v 1) + (1 : Int32)))), z_3.2.1, z_3.2.2) := by simp only [pX6_hang, ← hz_3, if_neg c_1, if_neg c_2]
      have e9_0 : (pX6_hang rt sg pw rd u w h r v tu tw su sw g a1 a2).1 = z_3.1 := by rw [e9]
      have e9_1 : (pX6_hang rt sg pw rd u w h r v tu tw su sw g a1 a2).2.1 = (va_up h ((r + 3) % 4) (u, w)) := by rw [e9]
      have e9_2 : (pX6_hang rt sg pw rd u w h r v tu tw su sw g a1 a2).2.2.1 = ((r + 3) % 4) := by rw [e9]
      have e9_3 : (pX6_hang rt sg pw rd u w h r v tu tw su sw g a1 a2).2.2.2.1 = (va_up v 1 (if 4 < ((v 1) + (1 : Int32)) then 4 else ((v 1) + (1 : Int32)))) := by rw [e9]
      have e9_4 : (pX6_hang rt sg pw rd u w h r v tu tw su sw g a1 a2).2.2.2.2.1 = z_3.2.1 := by rw [e9]
      have e9_5 : (pX6_hang rt sg pw rd u w h r v tu tw su sw g a1 a2).2.2.2.2.2 = z_3.2.2 := by rw [e9]
      exact W.iret (v := z_3.1) hx hb hr (fun t ht hW => ⟨⟨by rw [e9_0], by rw [e9_1, e9_2, e9_3, e9_4, e9_5, ht]; exact hP⟩, hS.F ht⟩) hS.2.2 dX6_hang_36
    · refine lv_iconst (v := (-1)) hx hb dX6_hang_14 (by decide) ?_
      have e9 : (pX6_hang rt sg pw rd u w h r v tu tw su sw g a1 a2) = ((-1), h, r, v, u, w) := by simp only [pX6_hang, if_neg c_1, if_pos c_2]
      have e9_0 : (pX6_hang rt sg pw rd u w h r v tu tw su sw g a1 a2).1 = (-1) := by rw [e9]
      have e9_1 : (pX6_hang rt sg pw rd u w h r v tu tw su sw g a1 a2).2.1 = h := by rw [e9]
      have e9_2 : (pX6_hang rt sg pw rd u w h r v tu tw su sw g a1 a2).2.2.1 = r := by rw [e9]
      have e9_3 : (pX6_hang rt sg pw rd u w h r v tu tw su sw g a1 a2).2.2.2.1 = v := by rw [e9]
      have e9_4 : (pX6_hang rt sg pw rd u w h r v tu tw su sw g a1 a2).2.2.2.2.1 = u := by rw [e9]
      have e9_5 : (pX6_hang rt sg pw rd u w h r v tu tw su sw g a1 a2).2.2.2.2.2 = w := by rw [e9]
      exact W.iret (v := (-1)) hx hb hr (fun t ht hW => ⟨⟨by rw [e9_0], by rw [e9_1, e9_2, e9_3, e9_4, e9_5, ht]; exact hP⟩, hS.F ht⟩) hS.2.2 dX6_hang_15
theorem bV_X6_hang : BV RX6 yX6_hang cX6_hang 3 (some .int) 2 := ⟨wcd_X6_hang, wim_X6_hang, wse_X6_hang, win_RX6, by decide +kernel⟩
def pX6_take (rt : (Nat → Int32)) (sg : (Nat → Nat → Int32)) (pw : (Nat → Int32)) (rd : (Nat → Int32)) (u : (Nat → Nat → Int32)) (w : (Nat → Int32)) (h : (Nat → (Nat → Nat → Int32) × (Nat → Int32))) (r : Nat) (v : (Nat → Int32)) (tu : (Nat → Nat → Int32)) (tw : (Nat → Int32)) (su : (Nat → Nat → Int32)) (sw : (Nat → Int32)) (g : (Nat → Nat → Int32)) (a1 : Int32) (a2 : Int32) : Int32 × (Nat → (Nat → Nat → Int32) × (Nat → Int32)) × Nat × (Nat → Int32) × (Nat → Nat → Int32) × (Nat → Int32) := (if (pX6_isOwner a1) = 0 then ((-1), h, r, v, u, w) else (if (pX4_isGangway a2) = 0 then ((-1), h, r, v, u, w) else ((pX0_takeLine u w a1 a2).1, (va_up h ((r + 3) % 4) (u, w)), ((r + 3) % 4), (va_up v 1 (if 4 < ((v 1) + (1 : Int32)) then 4 else ((v 1) + (1 : Int32)))), (pX0_takeLine u w a1 a2).2.1, (pX0_takeLine u w a1 a2).2.2)))
set_option maxHeartbeats 4000000 in
set_option maxRecDepth 100000 in
theorem kX6_take (l : Launch) (D : va_G) (cyC cyI cyO : ClassId) (Z : Nat → Nat) (C : Nat → Nat) (TR : Nat → Nat) (SN : Nat → Nat) (HI : Nat → Nat) (Y : Nat → Nat) (P : Nat → Nat) (R : Nat → Nat) (BB : Nat → Nat → Nat) (rt : (Nat → Int32)) (sg : (Nat → Nat → Int32)) (pw : (Nat → Int32)) (rd : (Nat → Int32)) (u : (Nat → Nat → Int32)) (w : (Nat → Int32)) (h : (Nat → (Nat → Nat → Int32) × (Nat → Int32))) (r : Nat) (v : (Nat → Int32)) (tu : (Nat → Nat → Int32)) (tw : (Nat → Int32)) (su : (Nat → Nat → Int32)) (sw : (Nat → Int32)) (g : (Nat → Nat → Int32)) (a1 : Int32) (a2 : Int32) (hr4 : r < 4) : MU l yX6_take (Ty yX6_take cX6_take 3 (some .int)) ({ frames := 3, cells := 0, slots := 0, locals := 84 } : Room) D cyC cyI cyO (List.flatten [wRt Z C TR SN HI Y P R rt, wPd cyC P sg pw, wRd R P rd, wC cyI C u w, wHM cyI cyO HI BB h r v, wC cyI TR tu tw, wC cyI SN su sw, wWy cyI Y g]) [.ref (Z 0), .int a1, .int a2] (some (.int (pX6_take rt sg pw rd u w h r v tu tw su sw g a1 a2).1)) (List.flatten [wRt Z C TR SN HI Y P R rt, wPd cyC P sg pw, wRd R P rd, wC cyI C (pX6_take rt sg pw rd u w h r v tu tw su sw g a1 a2).2.2.2.2.1 (pX6_take rt sg pw rd u w h r v tu tw su sw g a1 a2).2.2.2.2.2, wHM cyI cyO HI BB (pX6_take rt sg pw rd u w h r v tu tw su sw g a1 a2).2.1 (pX6_take rt sg pw rd u w h r v tu tw su sw g a1 a2).2.2.1 (pX6_take rt sg pw rd u w h r v tu tw su sw g a1 a2).2.2.2.1, wC cyI TR tu tw, wC cyI SN su sw, wWy cyI Y g]) := by
  intro sz
  refine Met.ofW (cc := cX6_take) (maxL := 3) (ret := (some .int)) (by decide) rfl ?_
  intro p e s m args below meth cd s₁ B hml hv
  obtain ⟨rfl, hsz, hP, hK, hD0⟩ := hv
  have hx := B.exec
  have hb := B.bytes
  have hr := B.returns
  have hts : ∀ w ∈ TB, w.before ([.ref (Z 0), .int a1, .int a2] : List Value).toArray s = true := fun w h => atoms_spec (ws := (Ty yX6_take cX6_take 3 (some .int))) B.pre w (List.mem_cons_of_mem _ h)
  have hown : s.vm.findClass RX6 = some m.cls := findClass_of_methodNamed B.named
  have hlocks := B.notSynchronized
  subst hsz
  have hD := hD0.self (sz := s.heap.size)
  have hA : ∀ q : Nat, s.heap.size ≤ q → (va_A (List.flatten [wRt Z C TR SN HI Y P R rt, wPd cyC P sg pw, wRd R P rd, wC cyI C u w, wHM cyI cyO HI BB h r v, wC cyI TR tu tw, wC cyI SN su sw, wWy cyI Y g]) s.heap.size) q := fun q h => Or.inr h
  generalize hAe : va_A (List.flatten [wRt Z C TR SN HI Y P R rt, wPd cyC P sg pw, wRd R P rd, wC cyI C u w, wHM cyI cyO HI BB h r v, wC cyI TR tu tw, wC cyI SN su sw, wWy cyI Y g]) s.heap.size = A0 at hD hA ⊢
  have hS : va_S A0 s.heap s.heap [] := va_S.rf
  have hl := lv_entry ([.ref (Z 0), .int a1, .int a2]) (n := 3) (Nat.le_of_ble_eq_true rfl)
  rw [lg_entry_eq]
  generalize (lg_sl ([.ref (Z 0), .int a1, .int a2]) ++ List.replicate (3 - (lg_sl ([.ref (Z 0), .int a1, .int a2])).length) Slot.unset).toArray = ls at hl ⊢
  have hl : lv_has ls 3 [(0, .ref (Z 0)), (1, .int a1), (2, .int a2)] := hl
  refine lv_iload_n hx hb dX6_take_0 rfl (lv_at hl 1 rfl) ?_
  refine rS (As := [.int a1]) (rest := []) hx hb hml hown hts hl.1 (kX6_isOwner l D cyC cyI cyO a1) bS_X6_isOwner  wml_RX6_97 ⟨rfl, rfl⟩ ⟨Nat.le_of_ble_eq_true rfl, Nat.le_of_ble_eq_true rfl, Nat.zero_le _, Nat.zero_le _⟩ [] rfl hP hK rfl rfl (Nat.le_of_ble_eq_true rfl) dX6_take_1 ?_
  refine lv_if_eq (tgt := 14) hx hb dX6_take_4 (by decide) (fun c_1 => ?_) (fun c_1 => ?_)
  · refine lv_iconst (v := (-1)) hx hb dX6_take_14 (by decide) ?_
    have e9 : (pX6_take rt sg pw rd u w h r v tu tw su sw g a1 a2) = ((-1), h, r, v, u, w) := by simp only [pX6_take, if_pos c_1]
    have e9_0 : (pX6_take rt sg pw rd u w h r v tu tw su sw g a1 a2).1 = (-1) := by rw [e9]
    have e9_1 : (pX6_take rt sg pw rd u w h r v tu tw su sw g a1 a2).2.1 = h := by rw [e9]
    have e9_2 : (pX6_take rt sg pw rd u w h r v tu tw su sw g a1 a2).2.2.1 = r := by rw [e9]
    have e9_3 : (pX6_take rt sg pw rd u w h r v tu tw su sw g a1 a2).2.2.2.1 = v := by rw [e9]
    have e9_4 : (pX6_take rt sg pw rd u w h r v tu tw su sw g a1 a2).2.2.2.2.1 = u := by rw [e9]
    have e9_5 : (pX6_take rt sg pw rd u w h r v tu tw su sw g a1 a2).2.2.2.2.2 = w := by rw [e9]
    exact W.iret (v := (-1)) hx hb hr (fun t ht hW => ⟨⟨by rw [e9_0], by rw [e9_1, e9_2, e9_3, e9_4, e9_5, ht]; exact hP⟩, hS.F ht⟩) hS.2.2 dX6_take_15
  · refine lv_iload_n hx hb dX6_take_7 rfl (lv_at hl 2 rfl) ?_
    refine rS (As := [.int a2]) (rest := []) hx hb hml hown hts hl.1 (kX4_isGangway l D cyC cyI cyO a2) bS_X4_isGangway  wml_RX6_52 ⟨rfl, rfl⟩ ⟨Nat.le_of_ble_eq_true rfl, Nat.le_of_ble_eq_true rfl, Nat.zero_le _, Nat.zero_le _⟩ [] rfl hP hK rfl rfl (Nat.le_of_ble_eq_true rfl) dX6_take_8 ?_
    refine lv_if_ne (tgt := 16) hx hb dX6_take_11 (by decide) (fun c_2 => ?_) (fun c_2 => ?_)
    · refine lv_aload_n hx hb dX6_take_16 rfl (lv_at hl 0 rfl) ?_
      refine va_get (D := D) (ci := 5) (v := .ref (HI 0)) (C := RX6) (T := TX6) (N := 12) hx hb hts inT_X6 hown hK.1 hP 0 rfl rfl 4 (by decide) (hts _ wfl_RX6_25) (fun _ h9 => h9) rfl dX6_take_17 ?_
      refine lv_aload_n hx hb dX6_take_20 rfl (lv_at hl 0 rfl) ?_
      refine va_get (D := D) (ci := 5) (v := .ref (C 0)) (C := RX6) (T := TX6) (N := 12) hx hb hts inT_X6 hown hK.1 hP 0 rfl rfl 0 (by decide) (hts _ wfl_RX6_10) (fun _ h9 => h9) rfl dX6_take_21 ?_
      refine mVB (bl := [wRt Z C TR SN HI Y P R rt, wPd cyC P sg pw, wRd R P rd, wC cyI C u w, wHM cyI cyO HI BB h r v, wC cyI TR tu tw, wC cyI SN su sw, wWy cyI Y g]) (bl' := [wRt Z C TR SN HI Y P R rt, wPd cyC P sg pw, wRd R P rd, wC cyI C u w, wHM cyI cyO HI BB (va_up h ((r + 3) % 4) (u, w)) ((r + 3) % 4) (va_up v 1 (if 4 < ((v 1) + (1 : Int32)) then 4 else ((v 1) + (1 : Int32)))), wC cyI TR tu tw, wC cyI SN su sw, wWy cyI Y g]) (WSb := [wHM cyI cyO HI BB h r v, wC cyI C u w]) (WSb' := [wHM cyI cyO HI BB (va_up h ((r + 3) % 4) (u, w)) ((r + 3) % 4) (va_up v 1 (if 4 < ((v 1) + (1 : Int32)) then 4 else ((v 1) + (1 : Int32)))), wC cyI C u w]) (As := [.ref (C 0)]) (rest := []) hx hb hml hown hts hl.1 (WS := (List.flatten [wHM cyI cyO HI BB h r v, wC cyI C u w])) (WS' := (List.flatten [wHM cyI cyO HI BB (va_up h ((r + 3) % 4) (u, w)) ((r + 3) % 4) (va_up v 1 (if 4 < ((v 1) + (1 : Int32)) then 4 else ((v 1) + (1 : Int32)))), wC cyI C u w])) (ro := none) (kX1_pushM l D cyC cyI cyO HI BB C h r v u w hr4) bV_X1_push wml_RX6_62 ⟨rfl, rfl⟩ ⟨Nat.le_of_ble_eq_true rfl, Nat.le_of_ble_eq_true rfl, Nat.zero_le _, Nat.zero_le _⟩ [4, 3] rfl rfl rfl rfl rfl rfl rfl hP hD hS hA hK 0 rfl rfl rfl rfl rfl (Nat.le_of_ble_eq_true rfl) dX6_take_24 (fun H locs hP hD hS => ?_)
      refine lv_aload_n hx hb dX6_take_27 rfl (lv_at hl 0 rfl) ?_
      refine va_get (D := D) (ci := 5) (v := .ref (C 0)) (C := RX6) (T := TX6) (N := 12) hx hb hts inT_X6 hown hK.1 hP 0 rfl rfl 0 (by decide) (hts _ wfl_RX6_10) (fun _ h9 => h9) rfl dX6_take_28 ?_
      refine lv_iload_n hx hb dX6_take_31 rfl (lv_at hl 1 rfl) ?_
      refine lv_iload_n hx hb dX6_take_32 rfl (lv_at hl 2 rfl) ?_
      obtain ⟨z_3, hz_3⟩ : ∃ q, q = (pX0_takeLine u w a1 a2) := ⟨_, rfl⟩
      refine mVB (bl := [wRt Z C TR SN HI Y P R rt, wPd cyC P sg pw, wRd R P rd, wC cyI C u w, wHM cyI cyO HI BB (va_up h ((r + 3) % 4) (u, w)) ((r + 3) % 4) (va_up v 1 (if 4 < ((v 1) + (1 : Int32)) then 4 else ((v 1) + (1 : Int32)))), wC cyI TR tu tw, wC cyI SN su sw, wWy cyI Y g]) (bl' := [wRt Z C TR SN HI Y P R rt, wPd cyC P sg pw, wRd R P rd, wC cyI C z_3.2.1 z_3.2.2, wHM cyI cyO HI BB (va_up h ((r + 3) % 4) (u, w)) ((r + 3) % 4) (va_up v 1 (if 4 < ((v 1) + (1 : Int32)) then 4 else ((v 1) + (1 : Int32)))), wC cyI TR tu tw, wC cyI SN su sw, wWy cyI Y g]) (WSb := [wC cyI C u w]) (WSb' := [wC cyI C z_3.2.1 z_3.2.2]) (As := [.int a1, .int a2]) (rest := []) hx hb hml hown hts hl.1 (WS := (wC cyI C u w)) (WS' := (wC cyI C z_3.2.1 z_3.2.2)) (ro := (some (.int z_3.1))) (by rw [hz_3]; exact kX0_takeLine l D cyC cyI cyO C u w a1 a2 (ig_in c_2)) bV_X0_takeLine wml_RX6_118 ⟨rfl, rfl⟩ ⟨Nat.le_of_ble_eq_true rfl, Nat.le_of_ble_eq_true rfl, Nat.zero_le _, Nat.zero_le _⟩ [3] (by simp only [List.flatten_cons, List.flatten_nil, List.append_nil]) (by simp only [List.flatten_cons, List.flatten_nil, List.append_nil]) rfl rfl rfl rfl rfl hP hD hS hA hK 0 rfl rfl rfl rfl rfl (Nat.le_of_ble_eq_true rfl) dX6_take_33 (fun H locs hP hD hS => ?_)
      have e9 : (pX6_take rt sg pw rd u w h r v tu tw su sw g a1 a2) = (z_3.1, (va_up h ((r + 3) % 4) (u, w)), ((r + 3) % 4), (va_up v 1 (if 4 < ((v 1) + (1 : Int32)) then 4 else ((v 1) + (1 : Int32)))), z_3.2.1, z_3.2.2) := by simp only [pX6_take, ← hz_3, if_neg c_1, if_neg c_2]
      have e9_0 : (pX6_take rt sg pw rd u w h r v tu tw su sw g a1 a2).1 = z_3.1 := by rw [e9]
      have e9_1 : (pX6_take rt sg pw rd u w h r v tu tw su sw g a1 a2).2.1 = (va_up h ((r + 3) % 4) (u, w)) := by rw [e9]
      have e9_2 : (pX6_take rt sg pw rd u w h r v tu tw su sw g a1 a2).2.2.1 = ((r + 3) % 4) := by rw [e9]
      have e9_3 : (pX6_take rt sg pw rd u w h r v tu tw su sw g a1 a2).2.2.2.1 = (va_up v 1 (if 4 < ((v 1) + (1 : Int32)) then 4 else ((v 1) + (1 : Int32)))) := by rw [e9]
      have e9_4 : (pX6_take rt sg pw rd u w h r v tu tw su sw g a1 a2).2.2.2.2.1 = z_3.2.1 := by rw [e9]
      have e9_5 : (pX6_take rt sg pw rd u w h r v tu tw su sw g a1 a2).2.2.2.2.2 = z_3.2.2 := by rw [e9]
      exact W.iret (v := z_3.1) hx hb hr (fun t ht hW => ⟨⟨by rw [e9_0], by rw [e9_1, e9_2, e9_3, e9_4, e9_5, ht]; exact hP⟩, hS.F ht⟩) hS.2.2 dX6_take_36
    · refine lv_iconst (v := (-1)) hx hb dX6_take_14 (by decide) ?_
      have e9 : (pX6_take rt sg pw rd u w h r v tu tw su sw g a1 a2) = ((-1), h, r, v, u, w) := by simp only [pX6_take, if_neg c_1, if_pos c_2]
      have e9_0 : (pX6_take rt sg pw rd u w h r v tu tw su sw g a1 a2).1 = (-1) := by rw [e9]
      have e9_1 : (pX6_take rt sg pw rd u w h r v tu tw su sw g a1 a2).2.1 = h := by rw [e9]
      have e9_2 : (pX6_take rt sg pw rd u w h r v tu tw su sw g a1 a2).2.2.1 = r := by rw [e9]
      have e9_3 : (pX6_take rt sg pw rd u w h r v tu tw su sw g a1 a2).2.2.2.1 = v := by rw [e9]
      have e9_4 : (pX6_take rt sg pw rd u w h r v tu tw su sw g a1 a2).2.2.2.2.1 = u := by rw [e9]
      have e9_5 : (pX6_take rt sg pw rd u w h r v tu tw su sw g a1 a2).2.2.2.2.2 = w := by rw [e9]
      exact W.iret (v := (-1)) hx hb hr (fun t ht hW => ⟨⟨by rw [e9_0], by rw [e9_1, e9_2, e9_3, e9_4, e9_5, ht]; exact hP⟩, hS.F ht⟩) hS.2.2 dX6_take_15
theorem bV_X6_take : BV RX6 yX6_take cX6_take 3 (some .int) 2 := ⟨wcd_X6_take, wim_X6_take, wse_X6_take, win_RX6, by decide +kernel⟩
def pX6_walk (rt : (Nat → Int32)) (sg : (Nat → Nat → Int32)) (pw : (Nat → Int32)) (rd : (Nat → Int32)) (u : (Nat → Nat → Int32)) (w : (Nat → Int32)) (h : (Nat → (Nat → Nat → Int32) × (Nat → Int32))) (r : Nat) (v : (Nat → Int32)) (tu : (Nat → Nat → Int32)) (tw : (Nat → Int32)) (su : (Nat → Nat → Int32)) (sw : (Nat → Int32)) (g : (Nat → Nat → Int32)) (a1 : Int32) (a2 : Int32) : Int32 × (Nat → (Nat → Nat → Int32) × (Nat → Int32)) × Nat × (Nat → Int32) × (Nat → Nat → Int32) × (Nat → Int32) := (if (pX6_isOwner a1) = 0 then ((-1), h, r, v, u, w) else (if (pX4_isGangway a2) = 0 then ((-1), h, r, v, u, w) else (if (pX0_standsAt u w a1 a2) = 0 then ((-2), h, r, v, u, w) else ((pX0_walkOver u w a1 a2).1, (va_up h ((r + 3) % 4) (u, w)), ((r + 3) % 4), (va_up v 1 (if 4 < ((v 1) + (1 : Int32)) then 4 else ((v 1) + (1 : Int32)))), (pX0_walkOver u w a1 a2).2.1, (pX0_walkOver u w a1 a2).2.2))))
set_option maxHeartbeats 4000000 in
set_option maxRecDepth 100000 in
theorem kX6_walk (l : Launch) (D : va_G) (cyC cyI cyO : ClassId) (Z : Nat → Nat) (C : Nat → Nat) (TR : Nat → Nat) (SN : Nat → Nat) (HI : Nat → Nat) (Y : Nat → Nat) (P : Nat → Nat) (R : Nat → Nat) (BB : Nat → Nat → Nat) (rt : (Nat → Int32)) (sg : (Nat → Nat → Int32)) (pw : (Nat → Int32)) (rd : (Nat → Int32)) (u : (Nat → Nat → Int32)) (w : (Nat → Int32)) (h : (Nat → (Nat → Nat → Int32) × (Nat → Int32))) (r : Nat) (v : (Nat → Int32)) (tu : (Nat → Nat → Int32)) (tw : (Nat → Int32)) (su : (Nat → Nat → Int32)) (sw : (Nat → Int32)) (g : (Nat → Nat → Int32)) (a1 : Int32) (a2 : Int32) (hr4 : r < 4) : MU l yX6_walk (Ty yX6_walk cX6_walk 3 (some .int)) ({ frames := 4, cells := 0, slots := 0, locals := 85 } : Room) D cyC cyI cyO (List.flatten [wRt Z C TR SN HI Y P R rt, wPd cyC P sg pw, wRd R P rd, wC cyI C u w, wHM cyI cyO HI BB h r v, wC cyI TR tu tw, wC cyI SN su sw, wWy cyI Y g]) [.ref (Z 0), .int a1, .int a2] (some (.int (pX6_walk rt sg pw rd u w h r v tu tw su sw g a1 a2).1)) (List.flatten [wRt Z C TR SN HI Y P R rt, wPd cyC P sg pw, wRd R P rd, wC cyI C (pX6_walk rt sg pw rd u w h r v tu tw su sw g a1 a2).2.2.2.2.1 (pX6_walk rt sg pw rd u w h r v tu tw su sw g a1 a2).2.2.2.2.2, wHM cyI cyO HI BB (pX6_walk rt sg pw rd u w h r v tu tw su sw g a1 a2).2.1 (pX6_walk rt sg pw rd u w h r v tu tw su sw g a1 a2).2.2.1 (pX6_walk rt sg pw rd u w h r v tu tw su sw g a1 a2).2.2.2.1, wC cyI TR tu tw, wC cyI SN su sw, wWy cyI Y g]) := by
  intro sz
  refine Met.ofW (cc := cX6_walk) (maxL := 3) (ret := (some .int)) (by decide) rfl ?_
  intro p e s m args below meth cd s₁ B hml hv
  obtain ⟨rfl, hsz, hP, hK, hD0⟩ := hv
  have hx := B.exec
  have hb := B.bytes
  have hr := B.returns
  have hts : ∀ w ∈ TB, w.before ([.ref (Z 0), .int a1, .int a2] : List Value).toArray s = true := fun w h => atoms_spec (ws := (Ty yX6_walk cX6_walk 3 (some .int))) B.pre w (List.mem_cons_of_mem _ h)
  have hown : s.vm.findClass RX6 = some m.cls := findClass_of_methodNamed B.named
  have hlocks := B.notSynchronized
  subst hsz
  have hD := hD0.self (sz := s.heap.size)
  have hA : ∀ q : Nat, s.heap.size ≤ q → (va_A (List.flatten [wRt Z C TR SN HI Y P R rt, wPd cyC P sg pw, wRd R P rd, wC cyI C u w, wHM cyI cyO HI BB h r v, wC cyI TR tu tw, wC cyI SN su sw, wWy cyI Y g]) s.heap.size) q := fun q h => Or.inr h
  generalize hAe : va_A (List.flatten [wRt Z C TR SN HI Y P R rt, wPd cyC P sg pw, wRd R P rd, wC cyI C u w, wHM cyI cyO HI BB h r v, wC cyI TR tu tw, wC cyI SN su sw, wWy cyI Y g]) s.heap.size = A0 at hD hA ⊢
  have hS : va_S A0 s.heap s.heap [] := va_S.rf
  have hl := lv_entry ([.ref (Z 0), .int a1, .int a2]) (n := 3) (Nat.le_of_ble_eq_true rfl)
  rw [lg_entry_eq]
  generalize (lg_sl ([.ref (Z 0), .int a1, .int a2]) ++ List.replicate (3 - (lg_sl ([.ref (Z 0), .int a1, .int a2])).length) Slot.unset).toArray = ls at hl ⊢
  have hl : lv_has ls 3 [(0, .ref (Z 0)), (1, .int a1), (2, .int a2)] := hl
  refine lv_iload_n hx hb dX6_walk_0 rfl (lv_at hl 1 rfl) ?_
  refine rS (As := [.int a1]) (rest := []) hx hb hml hown hts hl.1 (kX6_isOwner l D cyC cyI cyO a1) bS_X6_isOwner  wml_RX6_97 ⟨rfl, rfl⟩ ⟨Nat.le_of_ble_eq_true rfl, Nat.le_of_ble_eq_true rfl, Nat.zero_le _, Nat.zero_le _⟩ [] rfl hP hK rfl rfl (Nat.le_of_ble_eq_true rfl) dX6_walk_1 ?_
  refine lv_if_eq (tgt := 14) hx hb dX6_walk_4 (by decide) (fun c_1 => ?_) (fun c_1 => ?_)
  · refine lv_iconst (v := (-1)) hx hb dX6_walk_14 (by decide) ?_
    have e9 : (pX6_walk rt sg pw rd u w h r v tu tw su sw g a1 a2) = ((-1), h, r, v, u, w) := by simp only [pX6_walk, if_pos c_1]
    have e9_0 : (pX6_walk rt sg pw rd u w h r v tu tw su sw g a1 a2).1 = (-1) := by rw [e9]
    have e9_1 : (pX6_walk rt sg pw rd u w h r v tu tw su sw g a1 a2).2.1 = h := by rw [e9]
    have e9_2 : (pX6_walk rt sg pw rd u w h r v tu tw su sw g a1 a2).2.2.1 = r := by rw [e9]
    have e9_3 : (pX6_walk rt sg pw rd u w h r v tu tw su sw g a1 a2).2.2.2.1 = v := by rw [e9]
    have e9_4 : (pX6_walk rt sg pw rd u w h r v tu tw su sw g a1 a2).2.2.2.2.1 = u := by rw [e9]
    have e9_5 : (pX6_walk rt sg pw rd u w h r v tu tw su sw g a1 a2).2.2.2.2.2 = w := by rw [e9]
    exact W.iret (v := (-1)) hx hb hr (fun t ht hW => ⟨⟨by rw [e9_0], by rw [e9_1, e9_2, e9_3, e9_4, e9_5, ht]; exact hP⟩, hS.F ht⟩) hS.2.2 dX6_walk_15
  · refine lv_iload_n hx hb dX6_walk_7 rfl (lv_at hl 2 rfl) ?_
    refine rS (As := [.int a2]) (rest := []) hx hb hml hown hts hl.1 (kX4_isGangway l D cyC cyI cyO a2) bS_X4_isGangway  wml_RX6_52 ⟨rfl, rfl⟩ ⟨Nat.le_of_ble_eq_true rfl, Nat.le_of_ble_eq_true rfl, Nat.zero_le _, Nat.zero_le _⟩ [] rfl hP hK rfl rfl (Nat.le_of_ble_eq_true rfl) dX6_walk_8 ?_
    refine lv_if_ne (tgt := 16) hx hb dX6_walk_11 (by decide) (fun c_2 => ?_) (fun c_2 => ?_)
    · refine lv_aload_n hx hb dX6_walk_16 rfl (lv_at hl 0 rfl) ?_
      refine va_get (D := D) (ci := 5) (v := .ref (C 0)) (C := RX6) (T := TX6) (N := 12) hx hb hts inT_X6 hown hK.1 hP 0 rfl rfl 0 (by decide) (hts _ wfl_RX6_10) (fun _ h9 => h9) rfl dX6_walk_17 ?_
      refine lv_iload_n hx hb dX6_walk_20 rfl (lv_at hl 1 rfl) ?_
      refine lv_iload_n hx hb dX6_walk_21 rfl (lv_at hl 2 rfl) ?_
      refine rVB (bl := [wRt Z C TR SN HI Y P R rt, wPd cyC P sg pw, wRd R P rd, wC cyI C u w, wHM cyI cyO HI BB h r v, wC cyI TR tu tw, wC cyI SN su sw, wWy cyI Y g]) (WSb := [wC cyI C u w]) (As := [.int a1, .int a2]) (rest := []) hx hb hml hown hts hl.1 (kX0_standsAt l D cyC cyI cyO C u w a1 a2 (io_in c_1)) bV_X0_standsAt wml_RX6_121 ⟨rfl, rfl⟩ ⟨Nat.le_of_ble_eq_true rfl, Nat.le_of_ble_eq_true rfl, Nat.zero_le _, Nat.zero_le _⟩ [3] (by simp only [List.flatten_cons, List.flatten_nil, List.append_nil]) rfl hP hK 0 rfl rfl rfl rfl rfl (Nat.le_of_ble_eq_true rfl) dX6_walk_22 ?_
      refine lv_if_ne (tgt := 31) hx hb dX6_walk_25 (by decide) (fun c_3 => ?_) (fun c_3 => ?_)
      · refine lv_aload_n hx hb dX6_walk_31 rfl (lv_at hl 0 rfl) ?_
        refine va_get (D := D) (ci := 5) (v := .ref (HI 0)) (C := RX6) (T := TX6) (N := 12) hx hb hts inT_X6 hown hK.1 hP 0 rfl rfl 4 (by decide) (hts _ wfl_RX6_25) (fun _ h9 => h9) rfl dX6_walk_32 ?_
        refine lv_aload_n hx hb dX6_walk_35 rfl (lv_at hl 0 rfl) ?_
        refine va_get (D := D) (ci := 5) (v := .ref (C 0)) (C := RX6) (T := TX6) (N := 12) hx hb hts inT_X6 hown hK.1 hP 0 rfl rfl 0 (by decide) (hts _ wfl_RX6_10) (fun _ h9 => h9) rfl dX6_walk_36 ?_
        refine mVB (bl := [wRt Z C TR SN HI Y P R rt, wPd cyC P sg pw, wRd R P rd, wC cyI C u w, wHM cyI cyO HI BB h r v, wC cyI TR tu tw, wC cyI SN su sw, wWy cyI Y g]) (bl' := [wRt Z C TR SN HI Y P R rt, wPd cyC P sg pw, wRd R P rd, wC cyI C u w, wHM cyI cyO HI BB (va_up h ((r + 3) % 4) (u, w)) ((r + 3) % 4) (va_up v 1 (if 4 < ((v 1) + (1 : Int32)) then 4 else ((v 1) + (1 : Int32)))), wC cyI TR tu tw, wC cyI SN su sw, wWy cyI Y g]) (WSb := [wHM cyI cyO HI BB h r v, wC cyI C u w]) (WSb' := [wHM cyI cyO HI BB (va_up h ((r + 3) % 4) (u, w)) ((r + 3) % 4) (va_up v 1 (if 4 < ((v 1) + (1 : Int32)) then 4 else ((v 1) + (1 : Int32)))), wC cyI C u w]) (As := [.ref (C 0)]) (rest := []) hx hb hml hown hts hl.1 (WS := (List.flatten [wHM cyI cyO HI BB h r v, wC cyI C u w])) (WS' := (List.flatten [wHM cyI cyO HI BB (va_up h ((r + 3) % 4) (u, w)) ((r + 3) % 4) (va_up v 1 (if 4 < ((v 1) + (1 : Int32)) then 4 else ((v 1) + (1 : Int32)))), wC cyI C u w])) (ro := none) (kX1_pushM l D cyC cyI cyO HI BB C h r v u w hr4) bV_X1_push wml_RX6_62 ⟨rfl, rfl⟩ ⟨Nat.le_of_ble_eq_true rfl, Nat.le_of_ble_eq_true rfl, Nat.zero_le _, Nat.zero_le _⟩ [4, 3] rfl rfl rfl rfl rfl rfl rfl hP hD hS hA hK 0 rfl rfl rfl rfl rfl (Nat.le_of_ble_eq_true rfl) dX6_walk_39 (fun H locs hP hD hS => ?_)
        refine lv_aload_n hx hb dX6_walk_42 rfl (lv_at hl 0 rfl) ?_
        refine va_get (D := D) (ci := 5) (v := .ref (C 0)) (C := RX6) (T := TX6) (N := 12) hx hb hts inT_X6 hown hK.1 hP 0 rfl rfl 0 (by decide) (hts _ wfl_RX6_10) (fun _ h9 => h9) rfl dX6_walk_43 ?_
        refine lv_iload_n hx hb dX6_walk_46 rfl (lv_at hl 1 rfl) ?_
        refine lv_iload_n hx hb dX6_walk_47 rfl (lv_at hl 2 rfl) ?_
        obtain ⟨z_4, hz_4⟩ : ∃ q, q = (pX0_walkOver u w a1 a2) := ⟨_, rfl⟩
        refine mVB (bl := [wRt Z C TR SN HI Y P R rt, wPd cyC P sg pw, wRd R P rd, wC cyI C u w, wHM cyI cyO HI BB (va_up h ((r + 3) % 4) (u, w)) ((r + 3) % 4) (va_up v 1 (if 4 < ((v 1) + (1 : Int32)) then 4 else ((v 1) + (1 : Int32)))), wC cyI TR tu tw, wC cyI SN su sw, wWy cyI Y g]) (bl' := [wRt Z C TR SN HI Y P R rt, wPd cyC P sg pw, wRd R P rd, wC cyI C z_4.2.1 z_4.2.2, wHM cyI cyO HI BB (va_up h ((r + 3) % 4) (u, w)) ((r + 3) % 4) (va_up v 1 (if 4 < ((v 1) + (1 : Int32)) then 4 else ((v 1) + (1 : Int32)))), wC cyI TR tu tw, wC cyI SN su sw, wWy cyI Y g]) (WSb := [wC cyI C u w]) (WSb' := [wC cyI C z_4.2.1 z_4.2.2]) (As := [.int a1, .int a2]) (rest := []) hx hb hml hown hts hl.1 (WS := (wC cyI C u w)) (WS' := (wC cyI C z_4.2.1 z_4.2.2)) (ro := (some (.int z_4.1))) (by rw [hz_4]; exact kX0_walkOver l D cyC cyI cyO C u w a1 a2 (io_in c_1) (ig_in c_2)) bV_X0_walkOver wml_RX6_125 ⟨rfl, rfl⟩ ⟨Nat.le_of_ble_eq_true rfl, Nat.le_of_ble_eq_true rfl, Nat.zero_le _, Nat.zero_le _⟩ [3] (by simp only [List.flatten_cons, List.flatten_nil, List.append_nil]) (by simp only [List.flatten_cons, List.flatten_nil, List.append_nil]) rfl rfl rfl rfl rfl hP hD hS hA hK 0 rfl rfl rfl rfl rfl (Nat.le_of_ble_eq_true rfl) dX6_walk_48 (fun H locs hP hD hS => ?_)
        have e9 : (pX6_walk rt sg pw rd u w h r v tu tw su sw g a1 a2) = (z_4.1, (va_up h ((r + 3) % 4) (u, w)), ((r + 3) % 4), (va_up v 1 (if 4 < ((v 1) + (1 : Int32)) then 4 else ((v 1) + (1 : Int32)))), z_4.2.1, z_4.2.2) := by simp only [pX6_walk, ← hz_4, if_neg c_1, if_neg c_2, if_neg c_3]
        have e9_0 : (pX6_walk rt sg pw rd u w h r v tu tw su sw g a1 a2).1 = z_4.1 := by rw [e9]
        have e9_1 : (pX6_walk rt sg pw rd u w h r v tu tw su sw g a1 a2).2.1 = (va_up h ((r + 3) % 4) (u, w)) := by rw [e9]
        have e9_2 : (pX6_walk rt sg pw rd u w h r v tu tw su sw g a1 a2).2.2.1 = ((r + 3) % 4) := by rw [e9]
        have e9_3 : (pX6_walk rt sg pw rd u w h r v tu tw su sw g a1 a2).2.2.2.1 = (va_up v 1 (if 4 < ((v 1) + (1 : Int32)) then 4 else ((v 1) + (1 : Int32)))) := by rw [e9]
        have e9_4 : (pX6_walk rt sg pw rd u w h r v tu tw su sw g a1 a2).2.2.2.2.1 = z_4.2.1 := by rw [e9]
        have e9_5 : (pX6_walk rt sg pw rd u w h r v tu tw su sw g a1 a2).2.2.2.2.2 = z_4.2.2 := by rw [e9]
        exact W.iret (v := z_4.1) hx hb hr (fun t ht hW => ⟨⟨by rw [e9_0], by rw [e9_1, e9_2, e9_3, e9_4, e9_5, ht]; exact hP⟩, hS.F ht⟩) hS.2.2 dX6_walk_51
      · refine lv_bipush (v := (-2)) hx hb dX6_walk_28 (by decide) ?_
        have e9 : (pX6_walk rt sg pw rd u w h r v tu tw su sw g a1 a2) = ((-2), h, r, v, u, w) := by simp only [pX6_walk, if_neg c_1, if_neg c_2, if_pos c_3]
        have e9_0 : (pX6_walk rt sg pw rd u w h r v tu tw su sw g a1 a2).1 = (-2) := by rw [e9]
        have e9_1 : (pX6_walk rt sg pw rd u w h r v tu tw su sw g a1 a2).2.1 = h := by rw [e9]
        have e9_2 : (pX6_walk rt sg pw rd u w h r v tu tw su sw g a1 a2).2.2.1 = r := by rw [e9]
        have e9_3 : (pX6_walk rt sg pw rd u w h r v tu tw su sw g a1 a2).2.2.2.1 = v := by rw [e9]
        have e9_4 : (pX6_walk rt sg pw rd u w h r v tu tw su sw g a1 a2).2.2.2.2.1 = u := by rw [e9]
        have e9_5 : (pX6_walk rt sg pw rd u w h r v tu tw su sw g a1 a2).2.2.2.2.2 = w := by rw [e9]
        exact W.iret (v := (-2)) hx hb hr (fun t ht hW => ⟨⟨by rw [e9_0], by rw [e9_1, e9_2, e9_3, e9_4, e9_5, ht]; exact hP⟩, hS.F ht⟩) hS.2.2 dX6_walk_30
    · refine lv_iconst (v := (-1)) hx hb dX6_walk_14 (by decide) ?_
      have e9 : (pX6_walk rt sg pw rd u w h r v tu tw su sw g a1 a2) = ((-1), h, r, v, u, w) := by simp only [pX6_walk, if_neg c_1, if_pos c_2]
      have e9_0 : (pX6_walk rt sg pw rd u w h r v tu tw su sw g a1 a2).1 = (-1) := by rw [e9]
      have e9_1 : (pX6_walk rt sg pw rd u w h r v tu tw su sw g a1 a2).2.1 = h := by rw [e9]
      have e9_2 : (pX6_walk rt sg pw rd u w h r v tu tw su sw g a1 a2).2.2.1 = r := by rw [e9]
      have e9_3 : (pX6_walk rt sg pw rd u w h r v tu tw su sw g a1 a2).2.2.2.1 = v := by rw [e9]
      have e9_4 : (pX6_walk rt sg pw rd u w h r v tu tw su sw g a1 a2).2.2.2.2.1 = u := by rw [e9]
      have e9_5 : (pX6_walk rt sg pw rd u w h r v tu tw su sw g a1 a2).2.2.2.2.2 = w := by rw [e9]
      exact W.iret (v := (-1)) hx hb hr (fun t ht hW => ⟨⟨by rw [e9_0], by rw [e9_1, e9_2, e9_3, e9_4, e9_5, ht]; exact hP⟩, hS.F ht⟩) hS.2.2 dX6_walk_15
theorem bV_X6_walk : BV RX6 yX6_walk cX6_walk 3 (some .int) 2 := ⟨wcd_X6_walk, wim_X6_walk, wse_X6_walk, win_RX6, by decide +kernel⟩
def pX6_day (rt : (Nat → Int32)) (sg : (Nat → Nat → Int32)) (pw : (Nat → Int32)) (rd : (Nat → Int32)) (u : (Nat → Nat → Int32)) (w : (Nat → Int32)) (h : (Nat → (Nat → Nat → Int32) × (Nat → Int32))) (r : Nat) (v : (Nat → Int32)) (tu : (Nat → Nat → Int32)) (tw : (Nat → Int32)) (su : (Nat → Nat → Int32)) (sw : (Nat → Int32)) (g : (Nat → Nat → Int32)) : Int32 × (Nat → (Nat → Nat → Int32) × (Nat → Int32)) × Nat × (Nat → Int32) × (Nat → Nat → Int32) × (Nat → Int32) := ((pJ6_bitCount_0f7a4 (pX0_cleanLines (pX0_passDay u w).1 (pX0_passDay u w).2)), (va_up h ((r + 3) % 4) (u, w)), ((r + 3) % 4), (va_up v 1 (if 4 < ((v 1) + (1 : Int32)) then 4 else ((v 1) + (1 : Int32)))), (pX0_passDay u w).1, (pX0_passDay u w).2)
set_option maxHeartbeats 4000000 in
set_option maxRecDepth 100000 in
theorem kX6_day (l : Launch) (D : va_G) (cyC cyI cyO : ClassId) (Z : Nat → Nat) (C : Nat → Nat) (TR : Nat → Nat) (SN : Nat → Nat) (HI : Nat → Nat) (Y : Nat → Nat) (P : Nat → Nat) (R : Nat → Nat) (BB : Nat → Nat → Nat) (rt : (Nat → Int32)) (sg : (Nat → Nat → Int32)) (pw : (Nat → Int32)) (rd : (Nat → Int32)) (u : (Nat → Nat → Int32)) (w : (Nat → Int32)) (h : (Nat → (Nat → Nat → Int32) × (Nat → Int32))) (r : Nat) (v : (Nat → Int32)) (tu : (Nat → Nat → Int32)) (tw : (Nat → Int32)) (su : (Nat → Nat → Int32)) (sw : (Nat → Int32)) (g : (Nat → Nat → Int32)) (hr4 : r < 4) (hq : (w 12) < 4) : MU l yX6_day (Ty yX6_day cX6_day 1 (some .int)) ({ frames := 5, cells := 0, slots := 0, locals := 105 } : Room) D cyC cyI cyO (List.flatten [wRt Z C TR SN HI Y P R rt, wPd cyC P sg pw, wRd R P rd, wC cyI C u w, wHM cyI cyO HI BB h r v, wC cyI TR tu tw, wC cyI SN su sw, wWy cyI Y g]) [.ref (Z 0)] (some (.int (pX6_day rt sg pw rd u w h r v tu tw su sw g).1)) (List.flatten [wRt Z C TR SN HI Y P R rt, wPd cyC P sg pw, wRd R P rd, wC cyI C (pX6_day rt sg pw rd u w h r v tu tw su sw g).2.2.2.2.1 (pX6_day rt sg pw rd u w h r v tu tw su sw g).2.2.2.2.2, wHM cyI cyO HI BB (pX6_day rt sg pw rd u w h r v tu tw su sw g).2.1 (pX6_day rt sg pw rd u w h r v tu tw su sw g).2.2.1 (pX6_day rt sg pw rd u w h r v tu tw su sw g).2.2.2.1, wC cyI TR tu tw, wC cyI SN su sw, wWy cyI Y g]) := by
  intro sz
  refine Met.ofW (cc := cX6_day) (maxL := 1) (ret := (some .int)) (by decide) rfl ?_
  intro p e s m args below meth cd s₁ B hml hv
  obtain ⟨rfl, hsz, hP, hK, hD0⟩ := hv
  have hx := B.exec
  have hb := B.bytes
  have hr := B.returns
  have hts : ∀ w ∈ TB, w.before ([.ref (Z 0)] : List Value).toArray s = true := fun w h => atoms_spec (ws := (Ty yX6_day cX6_day 1 (some .int))) B.pre w (List.mem_cons_of_mem _ h)
  have hown : s.vm.findClass RX6 = some m.cls := findClass_of_methodNamed B.named
  have hlocks := B.notSynchronized
  subst hsz
  have hD := hD0.self (sz := s.heap.size)
  have hA : ∀ q : Nat, s.heap.size ≤ q → (va_A (List.flatten [wRt Z C TR SN HI Y P R rt, wPd cyC P sg pw, wRd R P rd, wC cyI C u w, wHM cyI cyO HI BB h r v, wC cyI TR tu tw, wC cyI SN su sw, wWy cyI Y g]) s.heap.size) q := fun q h => Or.inr h
  generalize hAe : va_A (List.flatten [wRt Z C TR SN HI Y P R rt, wPd cyC P sg pw, wRd R P rd, wC cyI C u w, wHM cyI cyO HI BB h r v, wC cyI TR tu tw, wC cyI SN su sw, wWy cyI Y g]) s.heap.size = A0 at hD hA ⊢
  have hS : va_S A0 s.heap s.heap [] := va_S.rf
  have hl := lv_entry ([.ref (Z 0)]) (n := 1) (Nat.le_of_ble_eq_true rfl)
  rw [lg_entry_eq]
  generalize (lg_sl ([.ref (Z 0)]) ++ List.replicate (1 - (lg_sl ([.ref (Z 0)])).length) Slot.unset).toArray = ls at hl ⊢
  have hl : lv_has ls 1 [(0, .ref (Z 0))] := hl
  refine lv_aload_n hx hb dX6_day_0 rfl (lv_at hl 0 rfl) ?_
  refine va_get (D := D) (ci := 5) (v := .ref (HI 0)) (C := RX6) (T := TX6) (N := 12) hx hb hts inT_X6 hown hK.1 hP 0 rfl rfl 4 (by decide) (hts _ wfl_RX6_25) (fun _ h9 => h9) rfl dX6_day_1 ?_
  refine lv_aload_n hx hb dX6_day_4 rfl (lv_at hl 0 rfl) ?_
  refine va_get (D := D) (ci := 5) (v := .ref (C 0)) (C := RX6) (T := TX6) (N := 12) hx hb hts inT_X6 hown hK.1 hP 0 rfl rfl 0 (by decide) (hts _ wfl_RX6_10) (fun _ h9 => h9) rfl dX6_day_5 ?_
  refine mVB (bl := [wRt Z C TR SN HI Y P R rt, wPd cyC P sg pw, wRd R P rd, wC cyI C u w, wHM cyI cyO HI BB h r v, wC cyI TR tu tw, wC cyI SN su sw, wWy cyI Y g]) (bl' := [wRt Z C TR SN HI Y P R rt, wPd cyC P sg pw, wRd R P rd, wC cyI C u w, wHM cyI cyO HI BB (va_up h ((r + 3) % 4) (u, w)) ((r + 3) % 4) (va_up v 1 (if 4 < ((v 1) + (1 : Int32)) then 4 else ((v 1) + (1 : Int32)))), wC cyI TR tu tw, wC cyI SN su sw, wWy cyI Y g]) (WSb := [wHM cyI cyO HI BB h r v, wC cyI C u w]) (WSb' := [wHM cyI cyO HI BB (va_up h ((r + 3) % 4) (u, w)) ((r + 3) % 4) (va_up v 1 (if 4 < ((v 1) + (1 : Int32)) then 4 else ((v 1) + (1 : Int32)))), wC cyI C u w]) (As := [.ref (C 0)]) (rest := []) hx hb hml hown hts hl.1 (WS := (List.flatten [wHM cyI cyO HI BB h r v, wC cyI C u w])) (WS' := (List.flatten [wHM cyI cyO HI BB (va_up h ((r + 3) % 4) (u, w)) ((r + 3) % 4) (va_up v 1 (if 4 < ((v 1) + (1 : Int32)) then 4 else ((v 1) + (1 : Int32)))), wC cyI C u w])) (ro := none) (kX1_pushM l D cyC cyI cyO HI BB C h r v u w hr4) bV_X1_push wml_RX6_62 ⟨rfl, rfl⟩ ⟨Nat.le_of_ble_eq_true rfl, Nat.le_of_ble_eq_true rfl, Nat.zero_le _, Nat.zero_le _⟩ [4, 3] rfl rfl rfl rfl rfl rfl rfl hP hD hS hA hK 0 rfl rfl rfl rfl rfl (Nat.le_of_ble_eq_true rfl) dX6_day_8 (fun H locs hP hD hS => ?_)
  refine lv_aload_n hx hb dX6_day_11 rfl (lv_at hl 0 rfl) ?_
  refine va_get (D := D) (ci := 5) (v := .ref (C 0)) (C := RX6) (T := TX6) (N := 12) hx hb hts inT_X6 hown hK.1 hP 0 rfl rfl 0 (by decide) (hts _ wfl_RX6_10) (fun _ h9 => h9) rfl dX6_day_12 ?_
  obtain ⟨z_1, hz_1⟩ : ∃ q, q = (pX0_passDay u w) := ⟨_, rfl⟩
  refine mVB (bl := [wRt Z C TR SN HI Y P R rt, wPd cyC P sg pw, wRd R P rd, wC cyI C u w, wHM cyI cyO HI BB (va_up h ((r + 3) % 4) (u, w)) ((r + 3) % 4) (va_up v 1 (if 4 < ((v 1) + (1 : Int32)) then 4 else ((v 1) + (1 : Int32)))), wC cyI TR tu tw, wC cyI SN su sw, wWy cyI Y g]) (bl' := [wRt Z C TR SN HI Y P R rt, wPd cyC P sg pw, wRd R P rd, wC cyI C z_1.1 z_1.2, wHM cyI cyO HI BB (va_up h ((r + 3) % 4) (u, w)) ((r + 3) % 4) (va_up v 1 (if 4 < ((v 1) + (1 : Int32)) then 4 else ((v 1) + (1 : Int32)))), wC cyI TR tu tw, wC cyI SN su sw, wWy cyI Y g]) (WSb := [wC cyI C u w]) (WSb' := [wC cyI C z_1.1 z_1.2]) (As := []) (rest := []) hx hb hml hown hts hl.1 (WS := (wC cyI C u w)) (WS' := (wC cyI C z_1.1 z_1.2)) (ro := none) (by rw [hz_1]; exact kX0_passDay l D cyC cyI cyO C u w hq) bV_X0_passDay wml_RX6_128 ⟨rfl, rfl⟩ ⟨Nat.le_of_ble_eq_true rfl, Nat.le_of_ble_eq_true rfl, Nat.zero_le _, Nat.zero_le _⟩ [3] (by simp only [List.flatten_cons, List.flatten_nil, List.append_nil]) (by simp only [List.flatten_cons, List.flatten_nil, List.append_nil]) rfl rfl rfl rfl rfl hP hD hS hA hK 0 rfl rfl rfl rfl rfl (Nat.le_of_ble_eq_true rfl) dX6_day_15 (fun H locs hP hD hS => ?_)
  refine lv_aload_n hx hb dX6_day_18 rfl (lv_at hl 0 rfl) ?_
  refine va_get (D := D) (ci := 5) (v := .ref (C 0)) (C := RX6) (T := TX6) (N := 12) hx hb hts inT_X6 hown hK.1 hP 0 rfl rfl 0 (by decide) (hts _ wfl_RX6_10) (fun _ h9 => h9) rfl dX6_day_19 ?_
  refine rVB (bl := [wRt Z C TR SN HI Y P R rt, wPd cyC P sg pw, wRd R P rd, wC cyI C z_1.1 z_1.2, wHM cyI cyO HI BB (va_up h ((r + 3) % 4) (u, w)) ((r + 3) % 4) (va_up v 1 (if 4 < ((v 1) + (1 : Int32)) then 4 else ((v 1) + (1 : Int32)))), wC cyI TR tu tw, wC cyI SN su sw, wWy cyI Y g]) (WSb := [wC cyI C z_1.1 z_1.2]) (As := []) (rest := []) hx hb hml hown hts hl.1 (kX0_cleanLines l D cyC cyI cyO C z_1.1 z_1.2) bV_X0_cleanLines wml_RX6_131 ⟨rfl, rfl⟩ ⟨Nat.le_of_ble_eq_true rfl, Nat.le_of_ble_eq_true rfl, Nat.zero_le _, Nat.zero_le _⟩ [3] (by simp only [List.flatten_cons, List.flatten_nil, List.append_nil]) rfl hP hK 0 rfl rfl rfl rfl rfl (Nat.le_of_ble_eq_true rfl) dX6_day_22 ?_
  refine rS (As := [.int (pX0_cleanLines z_1.1 z_1.2)]) (rest := []) hx hb hml hown hts hl.1 (kJ6_bitCount_0f7a4 l D cyC cyI cyO (pX0_cleanLines z_1.1 z_1.2)) bS_J6_bitCount_0f7a4  wml_RX6_89 ⟨rfl, rfl⟩ ⟨Nat.le_of_ble_eq_true rfl, Nat.le_of_ble_eq_true rfl, Nat.zero_le _, Nat.zero_le _⟩ [] rfl hP hK rfl rfl (Nat.le_of_ble_eq_true rfl) dX6_day_25 ?_
  have e9 : (pX6_day rt sg pw rd u w h r v tu tw su sw g) = ((pJ6_bitCount_0f7a4 (pX0_cleanLines z_1.1 z_1.2)), (va_up h ((r + 3) % 4) (u, w)), ((r + 3) % 4), (va_up v 1 (if 4 < ((v 1) + (1 : Int32)) then 4 else ((v 1) + (1 : Int32)))), z_1.1, z_1.2) := by simp only [pX6_day, ← hz_1]
  have e9_0 : (pX6_day rt sg pw rd u w h r v tu tw su sw g).1 = (pJ6_bitCount_0f7a4 (pX0_cleanLines z_1.1 z_1.2)) := by rw [e9]
  have e9_1 : (pX6_day rt sg pw rd u w h r v tu tw su sw g).2.1 = (va_up h ((r + 3) % 4) (u, w)) := by rw [e9]
  have e9_2 : (pX6_day rt sg pw rd u w h r v tu tw su sw g).2.2.1 = ((r + 3) % 4) := by rw [e9]
  have e9_3 : (pX6_day rt sg pw rd u w h r v tu tw su sw g).2.2.2.1 = (va_up v 1 (if 4 < ((v 1) + (1 : Int32)) then 4 else ((v 1) + (1 : Int32)))) := by rw [e9]
  have e9_4 : (pX6_day rt sg pw rd u w h r v tu tw su sw g).2.2.2.2.1 = z_1.1 := by rw [e9]
  have e9_5 : (pX6_day rt sg pw rd u w h r v tu tw su sw g).2.2.2.2.2 = z_1.2 := by rw [e9]
  exact W.iret (v := (pJ6_bitCount_0f7a4 (pX0_cleanLines z_1.1 z_1.2))) hx hb hr (fun t ht hW => ⟨⟨by rw [e9_0], by rw [e9_1, e9_2, e9_3, e9_4, e9_5, ht]; exact hP⟩, hS.F ht⟩) hS.2.2 dX6_day_28
theorem bV_X6_day : BV RX6 yX6_day cX6_day 1 (some .int) 0 := ⟨wcd_X6_day, wim_X6_day, wse_X6_day, win_RX6, by decide +kernel⟩
def pX6_append (rt : (Nat → Int32)) (sg : (Nat → Nat → Int32)) (pw : (Nat → Int32)) (rd : (Nat → Int32)) (u : (Nat → Nat → Int32)) (w : (Nat → Int32)) (h : (Nat → (Nat → Nat → Int32) × (Nat → Int32))) (r : Nat) (v : (Nat → Int32)) (tu : (Nat → Nat → Int32)) (tw : (Nat → Int32)) (su : (Nat → Nat → Int32)) (sw : (Nat → Int32)) (g : (Nat → Nat → Int32)) (a1 : Int32) : Int32 × (Nat → Nat → Int32) × (Nat → Int32) := (if (pX6_isWithin a1 33 126) = 0 then ((-1), sg, pw) else (if (pw 1) < 60 then (((pX3_add sg pw ((a1).toUInt32 % 65536).toInt32).2 1), (pX3_add sg pw ((a1).toUInt32 % 65536).toInt32).1, (pX3_add sg pw ((a1).toUInt32 % 65536).toInt32).2) else ((-3), sg, pw)))
set_option maxHeartbeats 4000000 in
set_option maxRecDepth 100000 in
theorem kX6_append (l : Launch) (D : va_G) (cyC cyI cyO : ClassId) (Z : Nat → Nat) (C : Nat → Nat) (TR : Nat → Nat) (SN : Nat → Nat) (HI : Nat → Nat) (Y : Nat → Nat) (P : Nat → Nat) (R : Nat → Nat) (BB : Nat → Nat → Nat) (rt : (Nat → Int32)) (sg : (Nat → Nat → Int32)) (pw : (Nat → Int32)) (rd : (Nat → Int32)) (u : (Nat → Nat → Int32)) (w : (Nat → Int32)) (h : (Nat → (Nat → Nat → Int32) × (Nat → Int32))) (r : Nat) (v : (Nat → Int32)) (tu : (Nat → Nat → Int32)) (tw : (Nat → Int32)) (su : (Nat → Nat → Int32)) (sw : (Nat → Int32)) (g : (Nat → Nat → Int32)) (a1 : Int32) : MU l yX6_append (Ty yX6_append cX6_append 2 (some .int)) ({ frames := 2, cells := 0, slots := 0, locals := 43 } : Room) D cyC cyI cyO (List.flatten [wRt Z C TR SN HI Y P R rt, wPd cyC P sg pw, wRd R P rd, wC cyI C u w, wHM cyI cyO HI BB h r v, wC cyI TR tu tw, wC cyI SN su sw, wWy cyI Y g]) [.ref (Z 0), .int a1] (some (.int (pX6_append rt sg pw rd u w h r v tu tw su sw g a1).1)) (List.flatten [wRt Z C TR SN HI Y P R rt, wPd cyC P (pX6_append rt sg pw rd u w h r v tu tw su sw g a1).2.1 (pX6_append rt sg pw rd u w h r v tu tw su sw g a1).2.2, wRd R P rd, wC cyI C u w, wHM cyI cyO HI BB h r v, wC cyI TR tu tw, wC cyI SN su sw, wWy cyI Y g]) := by
  intro sz
  refine Met.ofW (cc := cX6_append) (maxL := 2) (ret := (some .int)) (by decide) rfl ?_
  intro p e s m args below meth cd s₁ B hml hv
  obtain ⟨rfl, hsz, hP, hK, hD0⟩ := hv
  have hx := B.exec
  have hb := B.bytes
  have hr := B.returns
  have hts : ∀ w ∈ TB, w.before ([.ref (Z 0), .int a1] : List Value).toArray s = true := fun w h => atoms_spec (ws := (Ty yX6_append cX6_append 2 (some .int))) B.pre w (List.mem_cons_of_mem _ h)
  have hown : s.vm.findClass RX6 = some m.cls := findClass_of_methodNamed B.named
  have hlocks := B.notSynchronized
  subst hsz
  have hD := hD0.self (sz := s.heap.size)
  have hA : ∀ q : Nat, s.heap.size ≤ q → (va_A (List.flatten [wRt Z C TR SN HI Y P R rt, wPd cyC P sg pw, wRd R P rd, wC cyI C u w, wHM cyI cyO HI BB h r v, wC cyI TR tu tw, wC cyI SN su sw, wWy cyI Y g]) s.heap.size) q := fun q h => Or.inr h
  generalize hAe : va_A (List.flatten [wRt Z C TR SN HI Y P R rt, wPd cyC P sg pw, wRd R P rd, wC cyI C u w, wHM cyI cyO HI BB h r v, wC cyI TR tu tw, wC cyI SN su sw, wWy cyI Y g]) s.heap.size = A0 at hD hA ⊢
  have hS : va_S A0 s.heap s.heap [] := va_S.rf
  have hl := lv_entry ([.ref (Z 0), .int a1]) (n := 2) (Nat.le_of_ble_eq_true rfl)
  rw [lg_entry_eq]
  generalize (lg_sl ([.ref (Z 0), .int a1]) ++ List.replicate (2 - (lg_sl ([.ref (Z 0), .int a1])).length) Slot.unset).toArray = ls at hl ⊢
  have hl : lv_has ls 2 [(0, .ref (Z 0)), (1, .int a1)] := hl
  refine lv_iload_n hx hb dX6_append_0 rfl (lv_at hl 1 rfl) ?_
  refine lv_bipush (v := 33) hx hb dX6_append_1 (by decide) ?_
  refine lv_bipush (v := 126) hx hb dX6_append_3 (by decide) ?_
  refine rS (As := [.int a1, .int 33, .int 126]) (rest := []) hx hb hml hown hts hl.1 (kX6_isWithin l D cyC cyI cyO a1 33 126) bS_X6_isWithin  wml_RX6_58 ⟨rfl, rfl⟩ ⟨Nat.le_of_ble_eq_true rfl, Nat.le_of_ble_eq_true rfl, Nat.zero_le _, Nat.zero_le _⟩ [] rfl hP hK rfl rfl (Nat.le_of_ble_eq_true rfl) dX6_append_5 ?_
  refine lv_if_ne (tgt := 13) hx hb dX6_append_8 (by decide) (fun c_1 => ?_) (fun c_1 => ?_)
  · refine lv_aload_n hx hb dX6_append_13 rfl (lv_at hl 0 rfl) ?_
    refine va_get (D := D) (ci := 5) (v := .ref (P 0)) (C := RX6) (T := TX6) (N := 12) hx hb hts inT_X6 hown hK.1 hP 0 rfl rfl 6 (by decide) (hts _ wfl_RX6_39) (fun _ h9 => h9) rfl dX6_append_14 ?_
    refine va_get (D := D) (ci := 3) (v := .int (pw 1)) (C := RX3) (T := TX3) (N := 2) hx hb hts inT_X3 hown hK.1 hP 1 rfl rfl 1 (by decide) (hts _ wfl_RX6_135) (fun _ h9 => h9) rfl dX6_append_17 ?_
    refine lv_bipush (v := 60) hx hb dX6_append_20 (by decide) ?_
    refine lv_icmp_lt (tgt := 28) hx hb dX6_append_22 (by decide) (fun c_2 => ?_) (fun c_2 => ?_)
    · refine lv_aload_n hx hb dX6_append_28 rfl (lv_at hl 0 rfl) ?_
      refine va_get (D := D) (ci := 5) (v := .ref (P 0)) (C := RX6) (T := TX6) (N := 12) hx hb hts inT_X6 hown hK.1 hP 0 rfl rfl 6 (by decide) (hts _ wfl_RX6_39) (fun _ h9 => h9) rfl dX6_append_29 ?_
      refine lv_iload_n hx hb dX6_append_32 rfl (lv_at hl 1 rfl) ?_
      refine lv_i2c (v := ((a1).toUInt32 % 65536).toInt32) hx hb dX6_append_33 rfl ?_
      obtain ⟨z_3, hz_3⟩ : ∃ q, q = (pX3_add sg pw ((a1).toUInt32 % 65536).toInt32) := ⟨_, rfl⟩
      refine mVB (bl := [wRt Z C TR SN HI Y P R rt, wPd cyC P sg pw, wRd R P rd, wC cyI C u w, wHM cyI cyO HI BB h r v, wC cyI TR tu tw, wC cyI SN su sw, wWy cyI Y g]) (bl' := [wRt Z C TR SN HI Y P R rt, wPd cyC P z_3.1 z_3.2, wRd R P rd, wC cyI C u w, wHM cyI cyO HI BB h r v, wC cyI TR tu tw, wC cyI SN su sw, wWy cyI Y g]) (WSb := [wPd cyC P sg pw]) (WSb' := [wPd cyC P z_3.1 z_3.2]) (As := [.int ((a1).toUInt32 % 65536).toInt32]) (rest := []) hx hb hml hown hts hl.1 (WS := (wPd cyC P sg pw)) (WS' := (wPd cyC P z_3.1 z_3.2)) (ro := none) (by rw [hz_3]; exact kX3_add l D cyC cyI cyO P sg pw ((a1).toUInt32 % 65536).toInt32) bV_X3_add wml_RX6_138 ⟨rfl, rfl⟩ ⟨Nat.le_of_ble_eq_true rfl, Nat.le_of_ble_eq_true rfl, Nat.zero_le _, Nat.zero_le _⟩ [1] (by simp only [List.flatten_cons, List.flatten_nil, List.append_nil]) (by simp only [List.flatten_cons, List.flatten_nil, List.append_nil]) rfl rfl rfl rfl rfl hP hD hS hA hK 0 rfl rfl rfl rfl rfl (Nat.le_of_ble_eq_true rfl) dX6_append_34 (fun H locs hP hD hS => ?_)
      refine lv_aload_n hx hb dX6_append_37 rfl (lv_at hl 0 rfl) ?_
      refine va_get (D := D) (ci := 5) (v := .ref (P 0)) (C := RX6) (T := TX6) (N := 12) hx hb hts inT_X6 hown hK.1 hP 0 rfl rfl 6 (by decide) (hts _ wfl_RX6_39) (fun _ h9 => h9) rfl dX6_append_38 ?_
      refine va_get (D := D) (ci := 3) (v := .int (z_3.2 1)) (C := RX3) (T := TX3) (N := 2) hx hb hts inT_X3 hown hK.1 hP 1 rfl rfl 1 (by decide) (hts _ wfl_RX6_135) (fun _ h9 => h9) rfl dX6_append_41 ?_
      have e9 : (pX6_append rt sg pw rd u w h r v tu tw su sw g a1) = ((z_3.2 1), z_3.1, z_3.2) := by simp only [pX6_append, ← hz_3, if_neg c_1, if_pos c_2]
      have e9_0 : (pX6_append rt sg pw rd u w h r v tu tw su sw g a1).1 = (z_3.2 1) := by rw [e9]
      have e9_1 : (pX6_append rt sg pw rd u w h r v tu tw su sw g a1).2.1 = z_3.1 := by rw [e9]
      have e9_2 : (pX6_append rt sg pw rd u w h r v tu tw su sw g a1).2.2 = z_3.2 := by rw [e9]
      exact W.iret (v := (z_3.2 1)) hx hb hr (fun t ht hW => ⟨⟨by rw [e9_0], by rw [e9_1, e9_2, ht]; exact hP⟩, hS.F ht⟩) hS.2.2 dX6_append_44
    · refine lv_bipush (v := (-3)) hx hb dX6_append_25 (by decide) ?_
      have e9 : (pX6_append rt sg pw rd u w h r v tu tw su sw g a1) = ((-3), sg, pw) := by simp only [pX6_append, if_neg c_1, if_neg c_2]
      have e9_0 : (pX6_append rt sg pw rd u w h r v tu tw su sw g a1).1 = (-3) := by rw [e9]
      have e9_1 : (pX6_append rt sg pw rd u w h r v tu tw su sw g a1).2.1 = sg := by rw [e9]
      have e9_2 : (pX6_append rt sg pw rd u w h r v tu tw su sw g a1).2.2 = pw := by rw [e9]
      exact W.iret (v := (-3)) hx hb hr (fun t ht hW => ⟨⟨by rw [e9_0], by rw [e9_1, e9_2, ht]; exact hP⟩, hS.F ht⟩) hS.2.2 dX6_append_27
  · refine lv_iconst (v := (-1)) hx hb dX6_append_11 (by decide) ?_
    have e9 : (pX6_append rt sg pw rd u w h r v tu tw su sw g a1) = ((-1), sg, pw) := by simp only [pX6_append, if_pos c_1]
    have e9_0 : (pX6_append rt sg pw rd u w h r v tu tw su sw g a1).1 = (-1) := by rw [e9]
    have e9_1 : (pX6_append rt sg pw rd u w h r v tu tw su sw g a1).2.1 = sg := by rw [e9]
    have e9_2 : (pX6_append rt sg pw rd u w h r v tu tw su sw g a1).2.2 = pw := by rw [e9]
    exact W.iret (v := (-1)) hx hb hr (fun t ht hW => ⟨⟨by rw [e9_0], by rw [e9_1, e9_2, ht]; exact hP⟩, hS.F ht⟩) hS.2.2 dX6_append_12
theorem bV_X6_append : BV RX6 yX6_append cX6_append 2 (some .int) 1 := ⟨wcd_X6_append, wim_X6_append, wse_X6_append, win_RX6, by decide +kernel⟩
def pX6_clear (rt : (Nat → Int32)) (sg : (Nat → Nat → Int32)) (pw : (Nat → Int32)) (rd : (Nat → Int32)) (u : (Nat → Nat → Int32)) (w : (Nat → Int32)) (h : (Nat → (Nat → Nat → Int32) × (Nat → Int32))) (r : Nat) (v : (Nat → Int32)) (tu : (Nat → Nat → Int32)) (tw : (Nat → Int32)) (su : (Nat → Nat → Int32)) (sw : (Nat → Int32)) (g : (Nat → Nat → Int32)) : Int32 × (Nat → Nat → Int32) × (Nat → Int32) := ((pw 1), sg, (va_up pw 1 0))
set_option maxHeartbeats 4000000 in
set_option maxRecDepth 100000 in
theorem kX6_clear (l : Launch) (D : va_G) (cyC cyI cyO : ClassId) (Z : Nat → Nat) (C : Nat → Nat) (TR : Nat → Nat) (SN : Nat → Nat) (HI : Nat → Nat) (Y : Nat → Nat) (P : Nat → Nat) (R : Nat → Nat) (BB : Nat → Nat → Nat) (rt : (Nat → Int32)) (sg : (Nat → Nat → Int32)) (pw : (Nat → Int32)) (rd : (Nat → Int32)) (u : (Nat → Nat → Int32)) (w : (Nat → Int32)) (h : (Nat → (Nat → Nat → Int32) × (Nat → Int32))) (r : Nat) (v : (Nat → Int32)) (tu : (Nat → Nat → Int32)) (tw : (Nat → Int32)) (su : (Nat → Nat → Int32)) (sw : (Nat → Int32)) (g : (Nat → Nat → Int32)) : MU l yX6_clear (Ty yX6_clear cX6_clear 2 (some .int)) ({ frames := 0, cells := 0, slots := 0, locals := 0 } : Room) D cyC cyI cyO (List.flatten [wRt Z C TR SN HI Y P R rt, wPd cyC P sg pw, wRd R P rd, wC cyI C u w, wHM cyI cyO HI BB h r v, wC cyI TR tu tw, wC cyI SN su sw, wWy cyI Y g]) [.ref (Z 0)] (some (.int (pX6_clear rt sg pw rd u w h r v tu tw su sw g).1)) (List.flatten [wRt Z C TR SN HI Y P R rt, wPd cyC P (pX6_clear rt sg pw rd u w h r v tu tw su sw g).2.1 (pX6_clear rt sg pw rd u w h r v tu tw su sw g).2.2, wRd R P rd, wC cyI C u w, wHM cyI cyO HI BB h r v, wC cyI TR tu tw, wC cyI SN su sw, wWy cyI Y g]) := by
  intro sz
  refine Met.ofW (cc := cX6_clear) (maxL := 2) (ret := (some .int)) (by decide) rfl ?_
  intro p e s m args below meth cd s₁ B hml hv
  obtain ⟨rfl, hsz, hP, hK, hD0⟩ := hv
  have hx := B.exec
  have hb := B.bytes
  have hr := B.returns
  have hts : ∀ w ∈ TB, w.before ([.ref (Z 0)] : List Value).toArray s = true := fun w h => atoms_spec (ws := (Ty yX6_clear cX6_clear 2 (some .int))) B.pre w (List.mem_cons_of_mem _ h)
  have hown : s.vm.findClass RX6 = some m.cls := findClass_of_methodNamed B.named
  have hlocks := B.notSynchronized
  subst hsz
  have hD := hD0.self (sz := s.heap.size)
  have hA : ∀ q : Nat, s.heap.size ≤ q → (va_A (List.flatten [wRt Z C TR SN HI Y P R rt, wPd cyC P sg pw, wRd R P rd, wC cyI C u w, wHM cyI cyO HI BB h r v, wC cyI TR tu tw, wC cyI SN su sw, wWy cyI Y g]) s.heap.size) q := fun q h => Or.inr h
  generalize hAe : va_A (List.flatten [wRt Z C TR SN HI Y P R rt, wPd cyC P sg pw, wRd R P rd, wC cyI C u w, wHM cyI cyO HI BB h r v, wC cyI TR tu tw, wC cyI SN su sw, wWy cyI Y g]) s.heap.size = A0 at hD hA ⊢
  have hS : va_S A0 s.heap s.heap [] := va_S.rf
  have hl := lv_entry ([.ref (Z 0)]) (n := 2) (Nat.le_of_ble_eq_true rfl)
  rw [lg_entry_eq]
  generalize (lg_sl ([.ref (Z 0)]) ++ List.replicate (2 - (lg_sl ([.ref (Z 0)])).length) Slot.unset).toArray = ls at hl ⊢
  have hl : lv_has ls 2 [(0, .ref (Z 0))] := hl
  refine lv_aload_n hx hb dX6_clear_0 rfl (lv_at hl 0 rfl) ?_
  refine va_get (D := D) (ci := 5) (v := .ref (P 0)) (C := RX6) (T := TX6) (N := 12) hx hb hts inT_X6 hown hK.1 hP 0 rfl rfl 6 (by decide) (hts _ wfl_RX6_39) (fun _ h9 => h9) rfl dX6_clear_1 ?_
  refine va_get (D := D) (ci := 3) (v := .int (pw 1)) (C := RX3) (T := TX3) (N := 2) hx hb hts inT_X3 hown hK.1 hP 1 rfl rfl 1 (by decide) (hts _ wfl_RX6_135) (fun _ h9 => h9) rfl dX6_clear_4 ?_
  refine lv_istore_n (lv' := [(1, .int (pw 1)), (0, .ref (Z 0))]) hx hb dX6_clear_7 rfl hl (by decide) rfl (fun ls hl => ?_)
  refine lv_aload_n hx hb dX6_clear_8 rfl (lv_at hl 1 rfl) ?_
  refine va_get (D := D) (ci := 5) (v := .ref (P 0)) (C := RX6) (T := TX6) (N := 12) hx hb hts inT_X6 hown hK.1 hP 0 rfl rfl 6 (by decide) (hts _ wfl_RX6_39) (fun _ h9 => h9) rfl dX6_clear_9 ?_
  refine lv_iconst (v := 0) hx hb dX6_clear_12 (by decide) ?_
  refine va_put (D := D) (ci := 3) (v := .int 0) (ty := .int) (C := RX3) (T := TX3) (N := 2) hx hb hts inT_X3 tyX3 tyX3_ok nmX3 hown hK.1 hP hD hS 1 rfl rfl 1 (by decide) (hts _ wfl_RX6_135) (fun _ h9 => h9) rfl (by decide +kernel) (by rfl) rfl (Nat.le_of_ble_eq_true rfl) dX6_clear_13 (fun H locs hP hD hS => ?_)
  have hP : va_P D vwCl (List.flatten [wRt Z C TR SN HI Y P R rt, wPd cyC P sg (va_up pw 1 0), wRd R P rd, wC cyI C u w, wHM cyI cyO HI BB h r v, wC cyI TR tu tw, wC cyI SN su sw, wWy cyI Y g]) H := hP
  have hD : va_D A0 (List.flatten [wRt Z C TR SN HI Y P R rt, wPd cyC P sg (va_up pw 1 0), wRd R P rd, wC cyI C u w, wHM cyI cyO HI BB h r v, wC cyI TR tu tw, wC cyI SN su sw, wWy cyI Y g]) := hD
  refine lv_iload_n hx hb dX6_clear_16 rfl (lv_at hl 0 rfl) ?_
  have e9 : (pX6_clear rt sg pw rd u w h r v tu tw su sw g) = ((pw 1), sg, (va_up pw 1 0)) := rfl
  have e9_0 : (pX6_clear rt sg pw rd u w h r v tu tw su sw g).1 = (pw 1) := by rw [e9]
  have e9_1 : (pX6_clear rt sg pw rd u w h r v tu tw su sw g).2.1 = sg := by rw [e9]
  have e9_2 : (pX6_clear rt sg pw rd u w h r v tu tw su sw g).2.2 = (va_up pw 1 0) := by rw [e9]
  exact W.iret (v := (pw 1)) hx hb hr (fun t ht hW => ⟨⟨by rw [e9_0], by rw [e9_1, e9_2, ht]; exact hP⟩, hS.F ht⟩) hS.2.2 dX6_clear_17
theorem bV_X6_clear : BV RX6 yX6_clear cX6_clear 2 (some .int) 0 := ⟨wcd_X6_clear, wim_X6_clear, wse_X6_clear, win_RX6, by decide +kernel⟩
def pX6_fault (rt : (Nat → Int32)) (sg : (Nat → Nat → Int32)) (pw : (Nat → Int32)) (rd : (Nat → Int32)) (u : (Nat → Nat → Int32)) (w : (Nat → Int32)) (h : (Nat → (Nat → Nat → Int32) × (Nat → Int32))) (r : Nat) (v : (Nat → Int32)) (tu : (Nat → Nat → Int32)) (tw : (Nat → Int32)) (su : (Nat → Nat → Int32)) (sw : (Nat → Int32)) (g : (Nat → Nat → Int32)) : Int32 × (Nat → Int32) := ((pX2_firstFault rd sg pw).1, (pX2_firstFault rd sg pw).2)
set_option maxHeartbeats 4000000 in
set_option maxRecDepth 100000 in
theorem kX6_fault (l : Launch) (D : va_G) (cyC cyI cyO : ClassId) (Z : Nat → Nat) (C : Nat → Nat) (TR : Nat → Nat) (SN : Nat → Nat) (HI : Nat → Nat) (Y : Nat → Nat) (P : Nat → Nat) (R : Nat → Nat) (BB : Nat → Nat → Nat) (rt : (Nat → Int32)) (sg : (Nat → Nat → Int32)) (pw : (Nat → Int32)) (rd : (Nat → Int32)) (u : (Nat → Nat → Int32)) (w : (Nat → Int32)) (h : (Nat → (Nat → Nat → Int32) × (Nat → Int32))) (r : Nat) (v : (Nat → Int32)) (tu : (Nat → Nat → Int32)) (tw : (Nat → Int32)) (su : (Nat → Nat → Int32)) (sw : (Nat → Int32)) (g : (Nat → Nat → Int32)) (hch : CH sg) : MU l yX6_fault (Ty yX6_fault cX6_fault 1 (some .int)) ({ frames := 6, cells := 0, slots := 0, locals := 129 } : Room) D cyC cyI cyO (List.flatten [wRt Z C TR SN HI Y P R rt, wPd cyC P sg pw, wRd R P rd, wC cyI C u w, wHM cyI cyO HI BB h r v, wC cyI TR tu tw, wC cyI SN su sw, wWy cyI Y g]) [.ref (Z 0)] (some (.int (pX6_fault rt sg pw rd u w h r v tu tw su sw g).1)) (List.flatten [wRt Z C TR SN HI Y P R rt, wPd cyC P sg pw, wRd R P (pX6_fault rt sg pw rd u w h r v tu tw su sw g).2, wC cyI C u w, wHM cyI cyO HI BB h r v, wC cyI TR tu tw, wC cyI SN su sw, wWy cyI Y g]) := by
  intro sz
  refine Met.ofW (cc := cX6_fault) (maxL := 1) (ret := (some .int)) (by decide) rfl ?_
  intro p e s m args below meth cd s₁ B hml hv
  obtain ⟨rfl, hsz, hP, hK, hD0⟩ := hv
  have hx := B.exec
  have hb := B.bytes
  have hr := B.returns
  have hts : ∀ w ∈ TB, w.before ([.ref (Z 0)] : List Value).toArray s = true := fun w h => atoms_spec (ws := (Ty yX6_fault cX6_fault 1 (some .int))) B.pre w (List.mem_cons_of_mem _ h)
  have hown : s.vm.findClass RX6 = some m.cls := findClass_of_methodNamed B.named
  have hlocks := B.notSynchronized
  subst hsz
  have hD := hD0.self (sz := s.heap.size)
  have hA : ∀ q : Nat, s.heap.size ≤ q → (va_A (List.flatten [wRt Z C TR SN HI Y P R rt, wPd cyC P sg pw, wRd R P rd, wC cyI C u w, wHM cyI cyO HI BB h r v, wC cyI TR tu tw, wC cyI SN su sw, wWy cyI Y g]) s.heap.size) q := fun q h => Or.inr h
  generalize hAe : va_A (List.flatten [wRt Z C TR SN HI Y P R rt, wPd cyC P sg pw, wRd R P rd, wC cyI C u w, wHM cyI cyO HI BB h r v, wC cyI TR tu tw, wC cyI SN su sw, wWy cyI Y g]) s.heap.size = A0 at hD hA ⊢
  have hS : va_S A0 s.heap s.heap [] := va_S.rf
  have hl := lv_entry ([.ref (Z 0)]) (n := 1) (Nat.le_of_ble_eq_true rfl)
  rw [lg_entry_eq]
  generalize (lg_sl ([.ref (Z 0)]) ++ List.replicate (1 - (lg_sl ([.ref (Z 0)])).length) Slot.unset).toArray = ls at hl ⊢
  have hl : lv_has ls 1 [(0, .ref (Z 0))] := hl
  refine lv_aload_n hx hb dX6_fault_0 rfl (lv_at hl 0 rfl) ?_
  refine va_get (D := D) (ci := 5) (v := .ref (R 0)) (C := RX6) (T := TX6) (N := 12) hx hb hts inT_X6 hown hK.1 hP 0 rfl rfl 7 (by decide) (hts _ wfl_RX6_48) (fun _ h9 => h9) rfl dX6_fault_1 ?_
  obtain ⟨z_1, hz_1⟩ : ∃ q, q = (pX2_firstFault rd sg pw) := ⟨_, rfl⟩
  refine mVB (bl := [wRt Z C TR SN HI Y P R rt, wPd cyC P sg pw, wRd R P rd, wC cyI C u w, wHM cyI cyO HI BB h r v, wC cyI TR tu tw, wC cyI SN su sw, wWy cyI Y g]) (bl' := [wRt Z C TR SN HI Y P R rt, wPd cyC P sg pw, wRd R P z_1.2, wC cyI C u w, wHM cyI cyO HI BB h r v, wC cyI TR tu tw, wC cyI SN su sw, wWy cyI Y g]) (WSb := [wRd R P rd, wPd cyC P sg pw]) (WSb' := [wRd R P z_1.2, wPd cyC P sg pw]) (As := []) (rest := []) hx hb hml hown hts hl.1 (WS := (wRd R P rd ++ (wPd cyC P sg pw))) (WS' := (wRd R P z_1.2 ++ (wPd cyC P sg pw))) (ro := (some (.int z_1.1))) (by rw [hz_1]; exact kX2_firstFault l D cyC cyI cyO R P rd sg pw hch) bV_X2_firstFault wml_RX6_142 ⟨rfl, rfl⟩ ⟨Nat.le_of_ble_eq_true rfl, Nat.le_of_ble_eq_true rfl, Nat.zero_le _, Nat.zero_le _⟩ [2, 1] (by simp only [List.flatten_cons, List.flatten_nil, List.append_nil]) (by simp only [List.flatten_cons, List.flatten_nil, List.append_nil]) rfl rfl rfl rfl rfl hP hD hS hA hK 0 rfl rfl rfl rfl rfl (Nat.le_of_ble_eq_true rfl) dX6_fault_4 (fun H locs hP hD hS => ?_)
  have e9 : (pX6_fault rt sg pw rd u w h r v tu tw su sw g) = (z_1.1, z_1.2) := by simp only [pX6_fault, ← hz_1]
  have e9_0 : (pX6_fault rt sg pw rd u w h r v tu tw su sw g).1 = z_1.1 := by rw [e9]
  have e9_1 : (pX6_fault rt sg pw rd u w h r v tu tw su sw g).2 = z_1.2 := by rw [e9]
  exact W.iret (v := z_1.1) hx hb hr (fun t ht hW => ⟨⟨by rw [e9_0], by rw [e9_1, ht]; exact hP⟩, hS.F ht⟩) hS.2.2 dX6_fault_7
theorem bV_X6_fault : BV RX6 yX6_fault cX6_fault 1 (some .int) 0 := ⟨wcd_X6_fault, wim_X6_fault, wse_X6_fault, win_RX6, by decide +kernel⟩
def pX6_why (rt : (Nat → Int32)) (sg : (Nat → Nat → Int32)) (pw : (Nat → Int32)) (rd : (Nat → Int32)) (u : (Nat → Nat → Int32)) (w : (Nat → Int32)) (h : (Nat → (Nat → Nat → Int32) × (Nat → Int32))) (r : Nat) (v : (Nat → Int32)) (tu : (Nat → Nat → Int32)) (tw : (Nat → Int32)) (su : (Nat → Nat → Int32)) (sw : (Nat → Int32)) (g : (Nat → Nat → Int32)) (a1 : Int32) : Int32 := (if (pX6_isWithin a1 0 2) = 0 then (-1) else (if (rt 8) = 0 then (-4) else (if a1 = 0 then (rt 9) else (if a1 = 1 then (rt 10) else (rt 11)))))
set_option maxHeartbeats 4000000 in
set_option maxRecDepth 100000 in
theorem kX6_why (l : Launch) (D : va_G) (cyC cyI cyO : ClassId) (Z : Nat → Nat) (C : Nat → Nat) (TR : Nat → Nat) (SN : Nat → Nat) (HI : Nat → Nat) (Y : Nat → Nat) (P : Nat → Nat) (R : Nat → Nat) (BB : Nat → Nat → Nat) (rt : (Nat → Int32)) (sg : (Nat → Nat → Int32)) (pw : (Nat → Int32)) (rd : (Nat → Int32)) (u : (Nat → Nat → Int32)) (w : (Nat → Int32)) (h : (Nat → (Nat → Nat → Int32) × (Nat → Int32))) (r : Nat) (v : (Nat → Int32)) (tu : (Nat → Nat → Int32)) (tw : (Nat → Int32)) (su : (Nat → Nat → Int32)) (sw : (Nat → Int32)) (g : (Nat → Nat → Int32)) (a1 : Int32) : RO l yX6_why (Ty yX6_why cX6_why 2 (some .int)) ({ frames := 1, cells := 0, slots := 0, locals := 22 } : Room) D cyC cyI cyO (List.flatten [wRt Z C TR SN HI Y P R rt, wPd cyC P sg pw, wRd R P rd, wC cyI C u w, wHM cyI cyO HI BB h r v, wC cyI TR tu tw, wC cyI SN su sw, wWy cyI Y g]) [.ref (Z 0), .int a1] (pX6_why rt sg pw rd u w h r v tu tw su sw g a1) := by
  refine Met.ofW (cc := cX6_why) (maxL := 2) (ret := (some .int)) (by decide) rfl ?_
  intro p e s m args below meth cd s₁ B hml hv
  obtain ⟨rfl, hP, hK⟩ := hv
  have hx := B.exec
  have hb := B.bytes
  have hr := B.returns
  have hts : ∀ w ∈ TB, w.before ([.ref (Z 0), .int a1] : List Value).toArray s = true := fun w h => atoms_spec (ws := (Ty yX6_why cX6_why 2 (some .int))) B.pre w (List.mem_cons_of_mem _ h)
  have hown : s.vm.findClass RX6 = some m.cls := findClass_of_methodNamed B.named
  have hlocks := B.notSynchronized
  have hl := lv_entry ([.ref (Z 0), .int a1]) (n := 2) (Nat.le_of_ble_eq_true rfl)
  rw [lg_entry_eq]
  generalize (lg_sl ([.ref (Z 0), .int a1]) ++ List.replicate (2 - (lg_sl ([.ref (Z 0), .int a1])).length) Slot.unset).toArray = ls at hl ⊢
  have hl : lv_has ls 2 [(0, .ref (Z 0)), (1, .int a1)] := hl
  refine lv_iload_n hx hb dX6_why_0 rfl (lv_at hl 1 rfl) ?_
  refine lv_iconst (v := 0) hx hb dX6_why_1 (by decide) ?_
  refine lv_iconst (v := 2) hx hb dX6_why_2 (by decide) ?_
  refine rS (As := [.int a1, .int 0, .int 2]) (rest := []) hx hb hml hown hts hl.1 (kX6_isWithin l D cyC cyI cyO a1 0 2) bS_X6_isWithin  wml_RX6_58 ⟨rfl, rfl⟩ ⟨Nat.le_of_ble_eq_true rfl, Nat.le_of_ble_eq_true rfl, Nat.zero_le _, Nat.zero_le _⟩ [] rfl hP hK rfl rfl (Nat.le_of_ble_eq_true rfl) dX6_why_3 ?_
  refine lv_if_ne (tgt := 11) hx hb dX6_why_6 (by decide) (fun c_1 => ?_) (fun c_1 => ?_)
  · refine lv_aload_n hx hb dX6_why_11 rfl (lv_at hl 0 rfl) ?_
    refine va_get (D := D) (ci := 5) (v := .int (rt 8)) (C := RX6) (T := TX6) (N := 12) hx hb hts inT_X6 hown hK.1 hP 0 rfl rfl 8 (by decide) (hts _ wfl_RX6_145) (fun _ h9 => h9) rfl dX6_why_12 ?_
    refine lv_if_ne (tgt := 21) hx hb dX6_why_15 (by decide) (fun c_2 => ?_) (fun c_2 => ?_)
    · refine lv_iload_n hx hb dX6_why_21 rfl (lv_at hl 1 rfl) ?_
      by_cases c_3 : a1 = 0
      · refine lv_lookup (off := 26) (tgt := 48) hx hb dX6_why_22 (by decide) (by rw [c_3]; rfl) (by decide) ?_
        refine lv_aload_n hx hb dX6_why_48 rfl (lv_at hl 0 rfl) ?_
        refine va_get (D := D) (ci := 5) (v := .int (rt 9)) (C := RX6) (T := TX6) (N := 12) hx hb hts inT_X6 hown hK.1 hP 0 rfl rfl 9 (by decide) (hts _ wfl_RX6_162) (fun _ h9 => h9) rfl dX6_why_49 ?_
        have e9 : (rt 9) = (pX6_why rt sg pw rd u w h r v tu tw su sw g a1) := by simp only [pX6_why, if_neg c_1, if_neg c_2, if_pos c_3]
        exact W.iret (v := (rt 9)) hx hb hr (fun t ht hW => ⟨_, rfl, e9, ht⟩) (fun _ h => absurd h List.not_mem_nil) dX6_why_52
      · by_cases c_4 : a1 = 1
        · refine lv_lookup (off := 31) (tgt := 53) hx hb dX6_why_22 (by decide) (by rw [c_4]; rfl) (by decide) ?_
          refine lv_aload_n hx hb dX6_why_53 rfl (lv_at hl 0 rfl) ?_
          refine va_get (D := D) (ci := 5) (v := .int (rt 10)) (C := RX6) (T := TX6) (N := 12) hx hb hts inT_X6 hown hK.1 hP 0 rfl rfl 10 (by decide) (hts _ wfl_RX6_165) (fun _ h9 => h9) rfl dX6_why_54 ?_
          have e9 : (rt 10) = (pX6_why rt sg pw rd u w h r v tu tw su sw g a1) := by simp only [pX6_why, if_neg c_1, if_neg c_2, if_neg c_3, if_pos c_4]
          exact W.iret (v := (rt 10)) hx hb hr (fun t ht hW => ⟨_, rfl, e9, ht⟩) (fun _ h => absurd h List.not_mem_nil) dX6_why_57
        · refine lv_lookup (off := 36) (tgt := 58) hx hb dX6_why_22 (by decide) (by refine (lv_osw (k := 0) c_3 (by decide)).trans ?_; refine (lv_osw (k := 1) c_4 (by decide)).trans ?_; rfl) (by decide) ?_
          refine lv_aload_n hx hb dX6_why_58 rfl (lv_at hl 0 rfl) ?_
          refine va_get (D := D) (ci := 5) (v := .int (rt 11)) (C := RX6) (T := TX6) (N := 12) hx hb hts inT_X6 hown hK.1 hP 0 rfl rfl 11 (by decide) (hts _ wfl_RX6_168) (fun _ h9 => h9) rfl dX6_why_59 ?_
          have e9 : (rt 11) = (pX6_why rt sg pw rd u w h r v tu tw su sw g a1) := by simp only [pX6_why, if_neg c_1, if_neg c_2, if_neg c_3, if_neg c_4]
          exact W.iret (v := (rt 11)) hx hb hr (fun t ht hW => ⟨_, rfl, e9, ht⟩) (fun _ h => absurd h List.not_mem_nil) dX6_why_62
    · refine lv_bipush (v := (-4)) hx hb dX6_why_18 (by decide) ?_
      have e9 : (-4) = (pX6_why rt sg pw rd u w h r v tu tw su sw g a1) := by simp only [pX6_why, if_neg c_1, if_pos c_2]
      exact W.iret (v := (-4)) hx hb hr (fun t ht hW => ⟨_, rfl, e9, ht⟩) (fun _ h => absurd h List.not_mem_nil) dX6_why_20
  · refine lv_iconst (v := (-1)) hx hb dX6_why_9 (by decide) ?_
    have e9 : (-1) = (pX6_why rt sg pw rd u w h r v tu tw su sw g a1) := by simp only [pX6_why, if_pos c_1]
    exact W.iret (v := (-1)) hx hb hr (fun t ht hW => ⟨_, rfl, e9, ht⟩) (fun _ h => absurd h List.not_mem_nil) dX6_why_10
theorem bV_X6_why : BV RX6 yX6_why cX6_why 2 (some .int) 1 := ⟨wcd_X6_why, wim_X6_why, wse_X6_why, win_RX6, by decide +kernel⟩
def pX6_roof (rt : (Nat → Int32)) (sg : (Nat → Nat → Int32)) (pw : (Nat → Int32)) (rd : (Nat → Int32)) (u : (Nat → Nat → Int32)) (w : (Nat → Int32)) (h : (Nat → (Nat → Nat → Int32) × (Nat → Int32))) (r : Nat) (v : (Nat → Int32)) (tu : (Nat → Nat → Int32)) (tw : (Nat → Int32)) (su : (Nat → Nat → Int32)) (sw : (Nat → Int32)) (g : (Nat → Nat → Int32)) (a1 : Int32) (a2 : Int32) : Int32 := (if (pX6_isRoof a1) = 0 then (-1) else (if (pX6_isWithin a2 0 7) = 0 then (-1) else (if a2 = 0 then (pX6_bitOf (w 9) a1) else (if a2 = 1 then (pX6_bitOf (pX0_smokeBlown u w (w 11)) a1) else (if a2 = 2 then (pX0_chimneysSmoking u w a1) else (if a2 = 3 then (pX6_bitOf (w 10) a1) else (if a2 = 4 then (pX0_ownersOn u w a1) else (if a2 = 5 then (pJ6_bitCount_0f7a4 ((pX0_standingGangways u w) &&& (pX4_gangwaysOf a1))) else (if a2 = 6 then (pJ6_bitCount_0f7a4 ((pX0_allLines u w) &&& (pX4_gangwaysOf a1))) else (pJ6_bitCount_0f7a4 (pX5_roofsFrom g u w a1)))))))))))
set_option maxHeartbeats 4000000 in
set_option maxRecDepth 100000 in
theorem kX6_roof (l : Launch) (D : va_G) (cyC cyI cyO : ClassId) (Z : Nat → Nat) (C : Nat → Nat) (TR : Nat → Nat) (SN : Nat → Nat) (HI : Nat → Nat) (Y : Nat → Nat) (P : Nat → Nat) (R : Nat → Nat) (BB : Nat → Nat → Nat) (rt : (Nat → Int32)) (sg : (Nat → Nat → Int32)) (pw : (Nat → Int32)) (rd : (Nat → Int32)) (u : (Nat → Nat → Int32)) (w : (Nat → Int32)) (h : (Nat → (Nat → Nat → Int32) × (Nat → Int32))) (r : Nat) (v : (Nat → Int32)) (tu : (Nat → Nat → Int32)) (tw : (Nat → Int32)) (su : (Nat → Nat → Int32)) (sw : (Nat → Int32)) (g : (Nat → Nat → Int32)) (a1 : Int32) (a2 : Int32) (hq : (w 12) < 4) : RO l yX6_roof (Ty yX6_roof cX6_roof 3 (some .int)) ({ frames := 4, cells := 0, slots := 0, locals := 86 } : Room) D cyC cyI cyO (List.flatten [wRt Z C TR SN HI Y P R rt, wPd cyC P sg pw, wRd R P rd, wC cyI C u w, wHM cyI cyO HI BB h r v, wC cyI TR tu tw, wC cyI SN su sw, wWy cyI Y g]) [.ref (Z 0), .int a1, .int a2] (pX6_roof rt sg pw rd u w h r v tu tw su sw g a1 a2) := by
  refine Met.ofW (cc := cX6_roof) (maxL := 3) (ret := (some .int)) (by decide) rfl ?_
  intro p e s m args below meth cd s₁ B hml hv
  obtain ⟨rfl, hP, hK⟩ := hv
  have hx := B.exec
  have hb := B.bytes
  have hr := B.returns
  have hts : ∀ w ∈ TB, w.before ([.ref (Z 0), .int a1, .int a2] : List Value).toArray s = true := fun w h => atoms_spec (ws := (Ty yX6_roof cX6_roof 3 (some .int))) B.pre w (List.mem_cons_of_mem _ h)
  have hown : s.vm.findClass RX6 = some m.cls := findClass_of_methodNamed B.named
  have hlocks := B.notSynchronized
  have hl := lv_entry ([.ref (Z 0), .int a1, .int a2]) (n := 3) (Nat.le_of_ble_eq_true rfl)
  rw [lg_entry_eq]
  generalize (lg_sl ([.ref (Z 0), .int a1, .int a2]) ++ List.replicate (3 - (lg_sl ([.ref (Z 0), .int a1, .int a2])).length) Slot.unset).toArray = ls at hl ⊢
  have hl : lv_has ls 3 [(0, .ref (Z 0)), (1, .int a1), (2, .int a2)] := hl
  refine lv_iload_n hx hb dX6_roof_0 rfl (lv_at hl 1 rfl) ?_
  refine rS (As := [.int a1]) (rest := []) hx hb hml hown hts hl.1 (kX6_isRoof l D cyC cyI cyO a1) bS_X6_isRoof  wml_RX6_78 ⟨rfl, rfl⟩ ⟨Nat.le_of_ble_eq_true rfl, Nat.le_of_ble_eq_true rfl, Nat.zero_le _, Nat.zero_le _⟩ [] rfl hP hK rfl rfl (Nat.le_of_ble_eq_true rfl) dX6_roof_1 ?_
  refine lv_if_eq (tgt := 17) hx hb dX6_roof_4 (by decide) (fun c_1 => ?_) (fun c_1 => ?_)
  · refine lv_iconst (v := (-1)) hx hb dX6_roof_17 (by decide) ?_
    have e9 : (-1) = (pX6_roof rt sg pw rd u w h r v tu tw su sw g a1 a2) := by simp only [pX6_roof, if_pos c_1]
    exact W.iret (v := (-1)) hx hb hr (fun t ht hW => ⟨_, rfl, e9, ht⟩) (fun _ h => absurd h List.not_mem_nil) dX6_roof_18
  · refine lv_iload_n hx hb dX6_roof_7 rfl (lv_at hl 2 rfl) ?_
    refine lv_iconst (v := 0) hx hb dX6_roof_8 (by decide) ?_
    refine lv_bipush (v := 7) hx hb dX6_roof_9 (by decide) ?_
    refine rS (As := [.int a2, .int 0, .int 7]) (rest := []) hx hb hml hown hts hl.1 (kX6_isWithin l D cyC cyI cyO a2 0 7) bS_X6_isWithin  wml_RX6_58 ⟨rfl, rfl⟩ ⟨Nat.le_of_ble_eq_true rfl, Nat.le_of_ble_eq_true rfl, Nat.zero_le _, Nat.zero_le _⟩ [] rfl hP hK rfl rfl (Nat.le_of_ble_eq_true rfl) dX6_roof_11 ?_
    refine lv_if_ne (tgt := 19) hx hb dX6_roof_14 (by decide) (fun c_2 => ?_) (fun c_2 => ?_)
    · refine lv_iload_n hx hb dX6_roof_19 rfl (lv_at hl 2 rfl) ?_
      by_cases c_3 : a2 = 0
      · refine lv_tableIn (off := 44) (tgt := 64) hx hb dX6_roof_20 (by rw [c_3]; decide) (by rw [c_3]; decide) (by rw [c_3]; rfl) (by decide) ?_
        refine lv_aload_n hx hb dX6_roof_64 rfl (lv_at hl 0 rfl) ?_
        refine va_get (D := D) (ci := 5) (v := .ref (C 0)) (C := RX6) (T := TX6) (N := 12) hx hb hts inT_X6 hown hK.1 hP 0 rfl rfl 0 (by decide) (hts _ wfl_RX6_10) (fun _ h9 => h9) rfl dX6_roof_65 ?_
        refine va_get (D := D) (ci := 0) (v := .int (w 9)) (C := RX0) (T := TX0) (N := 19) hx hb hts inT_X0 hown hK.1 hP 4 rfl rfl 9 (by decide) (hts _ wfl_RX6_171) (fun _ h9 => h9) rfl dX6_roof_68 ?_
        refine lv_iload_n hx hb dX6_roof_71 rfl (lv_at hl 1 rfl) ?_
        refine rS (As := [.int (w 9), .int a1]) (rest := []) hx hb hml hown hts hl.1 (kX6_bitOf l D cyC cyI cyO (w 9) a1) bS_X6_bitOf  wml_RX6_174 ⟨rfl, rfl⟩ ⟨Nat.le_of_ble_eq_true rfl, Nat.le_of_ble_eq_true rfl, Nat.zero_le _, Nat.zero_le _⟩ [] rfl hP hK rfl rfl (Nat.le_of_ble_eq_true rfl) dX6_roof_72 ?_
        have e9 : (pX6_bitOf (w 9) a1) = (pX6_roof rt sg pw rd u w h r v tu tw su sw g a1 a2) := by simp only [pX6_roof, if_neg c_1, if_neg c_2, if_pos c_3]
        exact W.iret (v := (pX6_bitOf (w 9) a1)) hx hb hr (fun t ht hW => ⟨_, rfl, e9, ht⟩) (fun _ h => absurd h List.not_mem_nil) dX6_roof_75
      · by_cases c_4 : a2 = 1
        · refine lv_tableIn (off := 56) (tgt := 76) hx hb dX6_roof_20 (by rw [c_4]; decide) (by rw [c_4]; decide) (by rw [c_4]; rfl) (by decide) ?_
          refine lv_aload_n hx hb dX6_roof_76 rfl (lv_at hl 0 rfl) ?_
          refine va_get (D := D) (ci := 5) (v := .ref (C 0)) (C := RX6) (T := TX6) (N := 12) hx hb hts inT_X6 hown hK.1 hP 0 rfl rfl 0 (by decide) (hts _ wfl_RX6_10) (fun _ h9 => h9) rfl dX6_roof_77 ?_
          refine lv_aload_n hx hb dX6_roof_80 rfl (lv_at hl 0 rfl) ?_
          refine va_get (D := D) (ci := 5) (v := .ref (C 0)) (C := RX6) (T := TX6) (N := 12) hx hb hts inT_X6 hown hK.1 hP 0 rfl rfl 0 (by decide) (hts _ wfl_RX6_10) (fun _ h9 => h9) rfl dX6_roof_81 ?_
          refine va_get (D := D) (ci := 0) (v := .int (w 11)) (C := RX0) (T := TX0) (N := 19) hx hb hts inT_X0 hown hK.1 hP 4 rfl rfl 11 (by decide) (hts _ wfl_RX6_74) (fun _ h9 => h9) rfl dX6_roof_84 ?_
          refine rVB (bl := [wRt Z C TR SN HI Y P R rt, wPd cyC P sg pw, wRd R P rd, wC cyI C u w, wHM cyI cyO HI BB h r v, wC cyI TR tu tw, wC cyI SN su sw, wWy cyI Y g]) (WSb := [wC cyI C u w]) (As := [.int (w 11)]) (rest := []) hx hb hml hown hts hl.1 (kX0_smokeBlown l D cyC cyI cyO C u w (w 11) hq) bV_X0_smokeBlown wml_RX6_85 ⟨rfl, rfl⟩ ⟨Nat.le_of_ble_eq_true rfl, Nat.le_of_ble_eq_true rfl, Nat.zero_le _, Nat.zero_le _⟩ [3] (by simp only [List.flatten_cons, List.flatten_nil, List.append_nil]) rfl hP hK 0 rfl rfl rfl rfl rfl (Nat.le_of_ble_eq_true rfl) dX6_roof_87 ?_
          refine lv_iload_n hx hb dX6_roof_90 rfl (lv_at hl 1 rfl) ?_
          refine rS (As := [.int (pX0_smokeBlown u w (w 11)), .int a1]) (rest := []) hx hb hml hown hts hl.1 (kX6_bitOf l D cyC cyI cyO (pX0_smokeBlown u w (w 11)) a1) bS_X6_bitOf  wml_RX6_174 ⟨rfl, rfl⟩ ⟨Nat.le_of_ble_eq_true rfl, Nat.le_of_ble_eq_true rfl, Nat.zero_le _, Nat.zero_le _⟩ [] rfl hP hK rfl rfl (Nat.le_of_ble_eq_true rfl) dX6_roof_91 ?_
          have e9 : (pX6_bitOf (pX0_smokeBlown u w (w 11)) a1) = (pX6_roof rt sg pw rd u w h r v tu tw su sw g a1 a2) := by simp only [pX6_roof, if_neg c_1, if_neg c_2, if_neg c_3, if_pos c_4]
          exact W.iret (v := (pX6_bitOf (pX0_smokeBlown u w (w 11)) a1)) hx hb hr (fun t ht hW => ⟨_, rfl, e9, ht⟩) (fun _ h => absurd h List.not_mem_nil) dX6_roof_94
        · by_cases c_5 : a2 = 2
          · refine lv_tableIn (off := 75) (tgt := 95) hx hb dX6_roof_20 (by rw [c_5]; decide) (by rw [c_5]; decide) (by rw [c_5]; rfl) (by decide) ?_
            refine lv_aload_n hx hb dX6_roof_95 rfl (lv_at hl 0 rfl) ?_
            refine va_get (D := D) (ci := 5) (v := .ref (C 0)) (C := RX6) (T := TX6) (N := 12) hx hb hts inT_X6 hown hK.1 hP 0 rfl rfl 0 (by decide) (hts _ wfl_RX6_10) (fun _ h9 => h9) rfl dX6_roof_96 ?_
            refine lv_iload_n hx hb dX6_roof_99 rfl (lv_at hl 1 rfl) ?_
            refine rVB (bl := [wRt Z C TR SN HI Y P R rt, wPd cyC P sg pw, wRd R P rd, wC cyI C u w, wHM cyI cyO HI BB h r v, wC cyI TR tu tw, wC cyI SN su sw, wWy cyI Y g]) (WSb := [wC cyI C u w]) (As := [.int a1]) (rest := []) hx hb hml hown hts hl.1 (kX0_chimneysSmoking l D cyC cyI cyO C u w a1 hq) bV_X0_chimneysSmoking wml_RX6_177 ⟨rfl, rfl⟩ ⟨Nat.le_of_ble_eq_true rfl, Nat.le_of_ble_eq_true rfl, Nat.zero_le _, Nat.zero_le _⟩ [3] (by simp only [List.flatten_cons, List.flatten_nil, List.append_nil]) rfl hP hK 0 rfl rfl rfl rfl rfl (Nat.le_of_ble_eq_true rfl) dX6_roof_100 ?_
            have e9 : (pX0_chimneysSmoking u w a1) = (pX6_roof rt sg pw rd u w h r v tu tw su sw g a1 a2) := by simp only [pX6_roof, if_neg c_1, if_neg c_2, if_neg c_3, if_neg c_4, if_pos c_5]
            exact W.iret (v := (pX0_chimneysSmoking u w a1)) hx hb hr (fun t ht hW => ⟨_, rfl, e9, ht⟩) (fun _ h => absurd h List.not_mem_nil) dX6_roof_103
          · by_cases c_6 : a2 = 3
            · refine lv_tableIn (off := 84) (tgt := 104) hx hb dX6_roof_20 (by rw [c_6]; decide) (by rw [c_6]; decide) (by rw [c_6]; rfl) (by decide) ?_
              refine lv_aload_n hx hb dX6_roof_104 rfl (lv_at hl 0 rfl) ?_
              refine va_get (D := D) (ci := 5) (v := .ref (C 0)) (C := RX6) (T := TX6) (N := 12) hx hb hts inT_X6 hown hK.1 hP 0 rfl rfl 0 (by decide) (hts _ wfl_RX6_10) (fun _ h9 => h9) rfl dX6_roof_105 ?_
              refine va_get (D := D) (ci := 0) (v := .int (w 10)) (C := RX0) (T := TX0) (N := 19) hx hb hts inT_X0 hown hK.1 hP 4 rfl rfl 10 (by decide) (hts _ wfl_RX6_94) (fun _ h9 => h9) rfl dX6_roof_108 ?_
              refine lv_iload_n hx hb dX6_roof_111 rfl (lv_at hl 1 rfl) ?_
              refine rS (As := [.int (w 10), .int a1]) (rest := []) hx hb hml hown hts hl.1 (kX6_bitOf l D cyC cyI cyO (w 10) a1) bS_X6_bitOf  wml_RX6_174 ⟨rfl, rfl⟩ ⟨Nat.le_of_ble_eq_true rfl, Nat.le_of_ble_eq_true rfl, Nat.zero_le _, Nat.zero_le _⟩ [] rfl hP hK rfl rfl (Nat.le_of_ble_eq_true rfl) dX6_roof_112 ?_
              have e9 : (pX6_bitOf (w 10) a1) = (pX6_roof rt sg pw rd u w h r v tu tw su sw g a1 a2) := by simp only [pX6_roof, if_neg c_1, if_neg c_2, if_neg c_3, if_neg c_4, if_neg c_5, if_pos c_6]
              exact W.iret (v := (pX6_bitOf (w 10) a1)) hx hb hr (fun t ht hW => ⟨_, rfl, e9, ht⟩) (fun _ h => absurd h List.not_mem_nil) dX6_roof_115
            · by_cases c_7 : a2 = 4
              · refine lv_tableIn (off := 96) (tgt := 116) hx hb dX6_roof_20 (by rw [c_7]; decide) (by rw [c_7]; decide) (by rw [c_7]; rfl) (by decide) ?_
                refine lv_aload_n hx hb dX6_roof_116 rfl (lv_at hl 0 rfl) ?_
                refine va_get (D := D) (ci := 5) (v := .ref (C 0)) (C := RX6) (T := TX6) (N := 12) hx hb hts inT_X6 hown hK.1 hP 0 rfl rfl 0 (by decide) (hts _ wfl_RX6_10) (fun _ h9 => h9) rfl dX6_roof_117 ?_
                refine lv_iload_n hx hb dX6_roof_120 rfl (lv_at hl 1 rfl) ?_
                refine rVB (bl := [wRt Z C TR SN HI Y P R rt, wPd cyC P sg pw, wRd R P rd, wC cyI C u w, wHM cyI cyO HI BB h r v, wC cyI TR tu tw, wC cyI SN su sw, wWy cyI Y g]) (WSb := [wC cyI C u w]) (As := [.int a1]) (rest := []) hx hb hml hown hts hl.1 (kX0_ownersOn l D cyC cyI cyO C u w a1) bV_X0_ownersOn wml_RX6_180 ⟨rfl, rfl⟩ ⟨Nat.le_of_ble_eq_true rfl, Nat.le_of_ble_eq_true rfl, Nat.zero_le _, Nat.zero_le _⟩ [3] (by simp only [List.flatten_cons, List.flatten_nil, List.append_nil]) rfl hP hK 0 rfl rfl rfl rfl rfl (Nat.le_of_ble_eq_true rfl) dX6_roof_121 ?_
                have e9 : (pX0_ownersOn u w a1) = (pX6_roof rt sg pw rd u w h r v tu tw su sw g a1 a2) := by simp only [pX6_roof, if_neg c_1, if_neg c_2, if_neg c_3, if_neg c_4, if_neg c_5, if_neg c_6, if_pos c_7]
                exact W.iret (v := (pX0_ownersOn u w a1)) hx hb hr (fun t ht hW => ⟨_, rfl, e9, ht⟩) (fun _ h => absurd h List.not_mem_nil) dX6_roof_124
              · by_cases c_8 : a2 = 5
                · refine lv_tableIn (off := 105) (tgt := 125) hx hb dX6_roof_20 (by rw [c_8]; decide) (by rw [c_8]; decide) (by rw [c_8]; rfl) (by decide) ?_
                  refine lv_aload_n hx hb dX6_roof_125 rfl (lv_at hl 0 rfl) ?_
                  refine va_get (D := D) (ci := 5) (v := .ref (C 0)) (C := RX6) (T := TX6) (N := 12) hx hb hts inT_X6 hown hK.1 hP 0 rfl rfl 0 (by decide) (hts _ wfl_RX6_10) (fun _ h9 => h9) rfl dX6_roof_126 ?_
                  refine rVB (bl := [wRt Z C TR SN HI Y P R rt, wPd cyC P sg pw, wRd R P rd, wC cyI C u w, wHM cyI cyO HI BB h r v, wC cyI TR tu tw, wC cyI SN su sw, wWy cyI Y g]) (WSb := [wC cyI C u w]) (As := []) (rest := []) hx hb hml hown hts hl.1 (kX0_standingGangways l D cyC cyI cyO C u w) bV_X0_standingGangways wml_RX6_183 ⟨rfl, rfl⟩ ⟨Nat.le_of_ble_eq_true rfl, Nat.le_of_ble_eq_true rfl, Nat.zero_le _, Nat.zero_le _⟩ [3] (by simp only [List.flatten_cons, List.flatten_nil, List.append_nil]) rfl hP hK 0 rfl rfl rfl rfl rfl (Nat.le_of_ble_eq_true rfl) dX6_roof_129 ?_
                  refine lv_iload_n hx hb dX6_roof_132 rfl (lv_at hl 1 rfl) ?_
                  refine rS (As := [.int a1]) (rest := [.int (pX0_standingGangways u w)]) hx hb hml hown hts hl.1 (kX4_gangwaysOf l D cyC cyI cyO a1) bS_X4_gangwaysOf  wml_RX6_186 ⟨rfl, rfl⟩ ⟨Nat.le_of_ble_eq_true rfl, Nat.le_of_ble_eq_true rfl, Nat.zero_le _, Nat.zero_le _⟩ [] rfl hP hK rfl rfl (Nat.le_of_ble_eq_true rfl) dX6_roof_133 ?_
                  refine lv_iand hx hb dX6_roof_136 ?_
                  refine rS (As := [.int ((pX0_standingGangways u w) &&& (pX4_gangwaysOf a1))]) (rest := []) hx hb hml hown hts hl.1 (kJ6_bitCount_0f7a4 l D cyC cyI cyO ((pX0_standingGangways u w) &&& (pX4_gangwaysOf a1))) bS_J6_bitCount_0f7a4  wml_RX6_89 ⟨rfl, rfl⟩ ⟨Nat.le_of_ble_eq_true rfl, Nat.le_of_ble_eq_true rfl, Nat.zero_le _, Nat.zero_le _⟩ [] rfl hP hK rfl rfl (Nat.le_of_ble_eq_true rfl) dX6_roof_137 ?_
                  have e9 : (pJ6_bitCount_0f7a4 ((pX0_standingGangways u w) &&& (pX4_gangwaysOf a1))) = (pX6_roof rt sg pw rd u w h r v tu tw su sw g a1 a2) := by simp only [pX6_roof, if_neg c_1, if_neg c_2, if_neg c_3, if_neg c_4, if_neg c_5, if_neg c_6, if_neg c_7, if_pos c_8]
                  exact W.iret (v := (pJ6_bitCount_0f7a4 ((pX0_standingGangways u w) &&& (pX4_gangwaysOf a1)))) hx hb hr (fun t ht hW => ⟨_, rfl, e9, ht⟩) (fun _ h => absurd h List.not_mem_nil) dX6_roof_140
                · by_cases c_9 : a2 = 6
                  · refine lv_tableIn (off := 121) (tgt := 141) hx hb dX6_roof_20 (by rw [c_9]; decide) (by rw [c_9]; decide) (by rw [c_9]; rfl) (by decide) ?_
                    refine lv_aload_n hx hb dX6_roof_141 rfl (lv_at hl 0 rfl) ?_
                    refine va_get (D := D) (ci := 5) (v := .ref (C 0)) (C := RX6) (T := TX6) (N := 12) hx hb hts inT_X6 hown hK.1 hP 0 rfl rfl 0 (by decide) (hts _ wfl_RX6_10) (fun _ h9 => h9) rfl dX6_roof_142 ?_
                    refine rVB (bl := [wRt Z C TR SN HI Y P R rt, wPd cyC P sg pw, wRd R P rd, wC cyI C u w, wHM cyI cyO HI BB h r v, wC cyI TR tu tw, wC cyI SN su sw, wWy cyI Y g]) (WSb := [wC cyI C u w]) (As := []) (rest := []) hx hb hml hown hts hl.1 (kX0_allLines l D cyC cyI cyO C u w) bV_X0_allLines wml_RX6_189 ⟨rfl, rfl⟩ ⟨Nat.le_of_ble_eq_true rfl, Nat.le_of_ble_eq_true rfl, Nat.zero_le _, Nat.zero_le _⟩ [3] (by simp only [List.flatten_cons, List.flatten_nil, List.append_nil]) rfl hP hK 0 rfl rfl rfl rfl rfl (Nat.le_of_ble_eq_true rfl) dX6_roof_145 ?_
                    refine lv_iload_n hx hb dX6_roof_148 rfl (lv_at hl 1 rfl) ?_
                    refine rS (As := [.int a1]) (rest := [.int (pX0_allLines u w)]) hx hb hml hown hts hl.1 (kX4_gangwaysOf l D cyC cyI cyO a1) bS_X4_gangwaysOf  wml_RX6_186 ⟨rfl, rfl⟩ ⟨Nat.le_of_ble_eq_true rfl, Nat.le_of_ble_eq_true rfl, Nat.zero_le _, Nat.zero_le _⟩ [] rfl hP hK rfl rfl (Nat.le_of_ble_eq_true rfl) dX6_roof_149 ?_
                    refine lv_iand hx hb dX6_roof_152 ?_
                    refine rS (As := [.int ((pX0_allLines u w) &&& (pX4_gangwaysOf a1))]) (rest := []) hx hb hml hown hts hl.1 (kJ6_bitCount_0f7a4 l D cyC cyI cyO ((pX0_allLines u w) &&& (pX4_gangwaysOf a1))) bS_J6_bitCount_0f7a4  wml_RX6_89 ⟨rfl, rfl⟩ ⟨Nat.le_of_ble_eq_true rfl, Nat.le_of_ble_eq_true rfl, Nat.zero_le _, Nat.zero_le _⟩ [] rfl hP hK rfl rfl (Nat.le_of_ble_eq_true rfl) dX6_roof_153 ?_
                    have e9 : (pJ6_bitCount_0f7a4 ((pX0_allLines u w) &&& (pX4_gangwaysOf a1))) = (pX6_roof rt sg pw rd u w h r v tu tw su sw g a1 a2) := by simp only [pX6_roof, if_neg c_1, if_neg c_2, if_neg c_3, if_neg c_4, if_neg c_5, if_neg c_6, if_neg c_7, if_neg c_8, if_pos c_9]
                    exact W.iret (v := (pJ6_bitCount_0f7a4 ((pX0_allLines u w) &&& (pX4_gangwaysOf a1)))) hx hb hr (fun t ht hW => ⟨_, rfl, e9, ht⟩) (fun _ h => absurd h List.not_mem_nil) dX6_roof_156
                  · have nc_3 : (a2 : Int32).toInt ≠ 0 := fun h => c_3 (Int32.toInt_inj.mp (h.trans (by decide)))
                    have nc_4 : (a2 : Int32).toInt ≠ 1 := fun h => c_4 (Int32.toInt_inj.mp (h.trans (by decide)))
                    have nc_5 : (a2 : Int32).toInt ≠ 2 := fun h => c_5 (Int32.toInt_inj.mp (h.trans (by decide)))
                    have nc_6 : (a2 : Int32).toInt ≠ 3 := fun h => c_6 (Int32.toInt_inj.mp (h.trans (by decide)))
                    have nc_7 : (a2 : Int32).toInt ≠ 4 := fun h => c_7 (Int32.toInt_inj.mp (h.trans (by decide)))
                    have nc_8 : (a2 : Int32).toInt ≠ 5 := fun h => c_8 (Int32.toInt_inj.mp (h.trans (by decide)))
                    have nc_9 : (a2 : Int32).toInt ≠ 6 := fun h => c_9 (Int32.toInt_inj.mp (h.trans (by decide)))
                    refine lv_tableOut (tgt := 157) hx hb dX6_roof_20 (by omega) (by decide) ?_
                    refine lv_aload_n hx hb dX6_roof_157 rfl (lv_at hl 0 rfl) ?_
                    refine va_get (D := D) (ci := 5) (v := .ref (Y 0)) (C := RX6) (T := TX6) (N := 12) hx hb hts inT_X6 hown hK.1 hP 0 rfl rfl 5 (by decide) (hts _ wfl_RX6_32) (fun _ h9 => h9) rfl dX6_roof_158 ?_
                    refine lv_aload_n hx hb dX6_roof_161 rfl (lv_at hl 0 rfl) ?_
                    refine va_get (D := D) (ci := 5) (v := .ref (C 0)) (C := RX6) (T := TX6) (N := 12) hx hb hts inT_X6 hown hK.1 hP 0 rfl rfl 0 (by decide) (hts _ wfl_RX6_10) (fun _ h9 => h9) rfl dX6_roof_162 ?_
                    refine lv_iload_n hx hb dX6_roof_165 rfl (lv_at hl 1 rfl) ?_
                    refine rVB (bl := [wRt Z C TR SN HI Y P R rt, wPd cyC P sg pw, wRd R P rd, wC cyI C u w, wHM cyI cyO HI BB h r v, wC cyI TR tu tw, wC cyI SN su sw, wWy cyI Y g]) (WSb := [wWy cyI Y g, wC cyI C u w]) (As := [.ref (C 0), .int a1]) (rest := []) hx hb hml hown hts hl.1 (kX5_roofsFrom l D cyC cyI cyO Y C g u w a1) bV_X5_roofsFrom wml_RX6_192 ⟨rfl, rfl⟩ ⟨Nat.le_of_ble_eq_true rfl, Nat.le_of_ble_eq_true rfl, Nat.zero_le _, Nat.zero_le _⟩ [7, 3] (by simp only [List.flatten_cons, List.flatten_nil, List.append_nil]) rfl hP hK 0 rfl rfl rfl rfl rfl (Nat.le_of_ble_eq_true rfl) dX6_roof_166 ?_
                    refine rS (As := [.int (pX5_roofsFrom g u w a1)]) (rest := []) hx hb hml hown hts hl.1 (kJ6_bitCount_0f7a4 l D cyC cyI cyO (pX5_roofsFrom g u w a1)) bS_J6_bitCount_0f7a4  wml_RX6_89 ⟨rfl, rfl⟩ ⟨Nat.le_of_ble_eq_true rfl, Nat.le_of_ble_eq_true rfl, Nat.zero_le _, Nat.zero_le _⟩ [] rfl hP hK rfl rfl (Nat.le_of_ble_eq_true rfl) dX6_roof_169 ?_
                    have e9 : (pJ6_bitCount_0f7a4 (pX5_roofsFrom g u w a1)) = (pX6_roof rt sg pw rd u w h r v tu tw su sw g a1 a2) := by simp only [pX6_roof, if_neg c_1, if_neg c_2, if_neg c_3, if_neg c_4, if_neg c_5, if_neg c_6, if_neg c_7, if_neg c_8, if_neg c_9]
                    exact W.iret (v := (pJ6_bitCount_0f7a4 (pX5_roofsFrom g u w a1))) hx hb hr (fun t ht hW => ⟨_, rfl, e9, ht⟩) (fun _ h => absurd h List.not_mem_nil) dX6_roof_172
    · refine lv_iconst (v := (-1)) hx hb dX6_roof_17 (by decide) ?_
      have e9 : (-1) = (pX6_roof rt sg pw rd u w h r v tu tw su sw g a1 a2) := by simp only [pX6_roof, if_neg c_1, if_pos c_2]
      exact W.iret (v := (-1)) hx hb hr (fun t ht hW => ⟨_, rfl, e9, ht⟩) (fun _ h => absurd h List.not_mem_nil) dX6_roof_18
theorem bV_X6_roof : BV RX6 yX6_roof cX6_roof 3 (some .int) 2 := ⟨wcd_X6_roof, wim_X6_roof, wse_X6_roof, win_RX6, by decide +kernel⟩
def pX6_gangway (rt : (Nat → Int32)) (sg : (Nat → Nat → Int32)) (pw : (Nat → Int32)) (rd : (Nat → Int32)) (u : (Nat → Nat → Int32)) (w : (Nat → Int32)) (h : (Nat → (Nat → Nat → Int32) × (Nat → Int32))) (r : Nat) (v : (Nat → Int32)) (tu : (Nat → Nat → Int32)) (tw : (Nat → Int32)) (su : (Nat → Nat → Int32)) (sw : (Nat → Int32)) (g : (Nat → Nat → Int32)) (a1 : Int32) (a2 : Int32) : Int32 := (if (pX4_isGangway a1) = 0 then (-1) else (if (pX6_isWithin a2 0 6) = 0 then (-1) else (if a2 = 0 then ((u 0) (a1).toNatClampNeg) else (if a2 = 1 then (pX4_lesserRoof a1) else (if a2 = 2 then (pX4_greaterRoof a1) else (if a2 = 3 then (if (pX0_hasLine u w a1) = 0 then (-4) else ((u 1) (a1).toNatClampNeg)) else (if a2 = 4 then (if (pX0_hasLine u w a1) = 0 then (-4) else ((u 2) (a1).toNatClampNeg)) else (if a2 = 5 then (if (pX0_hasLine u w a1) = 0 then (-4) else ((u 3) (a1).toNatClampNeg)) else (pJ6_bitCount_0f7a4 ((pX0_smokeBlown u w (w 11)) &&& (pX4_roofsOf a1)))))))))))
set_option maxHeartbeats 4000000 in
set_option maxRecDepth 100000 in
theorem kX6_gangway (l : Launch) (D : va_G) (cyC cyI cyO : ClassId) (Z : Nat → Nat) (C : Nat → Nat) (TR : Nat → Nat) (SN : Nat → Nat) (HI : Nat → Nat) (Y : Nat → Nat) (P : Nat → Nat) (R : Nat → Nat) (BB : Nat → Nat → Nat) (rt : (Nat → Int32)) (sg : (Nat → Nat → Int32)) (pw : (Nat → Int32)) (rd : (Nat → Int32)) (u : (Nat → Nat → Int32)) (w : (Nat → Int32)) (h : (Nat → (Nat → Nat → Int32) × (Nat → Int32))) (r : Nat) (v : (Nat → Int32)) (tu : (Nat → Nat → Int32)) (tw : (Nat → Int32)) (su : (Nat → Nat → Int32)) (sw : (Nat → Int32)) (g : (Nat → Nat → Int32)) (a1 : Int32) (a2 : Int32) (hq : (w 12) < 4) : RO l yX6_gangway (Ty yX6_gangway cX6_gangway 3 (some .int)) ({ frames := 3, cells := 0, slots := 0, locals := 69 } : Room) D cyC cyI cyO (List.flatten [wRt Z C TR SN HI Y P R rt, wPd cyC P sg pw, wRd R P rd, wC cyI C u w, wHM cyI cyO HI BB h r v, wC cyI TR tu tw, wC cyI SN su sw, wWy cyI Y g]) [.ref (Z 0), .int a1, .int a2] (pX6_gangway rt sg pw rd u w h r v tu tw su sw g a1 a2) := by
  refine Met.ofW (cc := cX6_gangway) (maxL := 3) (ret := (some .int)) (by decide) rfl ?_
  intro p e s m args below meth cd s₁ B hml hv
  obtain ⟨rfl, hP, hK⟩ := hv
  have hx := B.exec
  have hb := B.bytes
  have hr := B.returns
  have hts : ∀ w ∈ TB, w.before ([.ref (Z 0), .int a1, .int a2] : List Value).toArray s = true := fun w h => atoms_spec (ws := (Ty yX6_gangway cX6_gangway 3 (some .int))) B.pre w (List.mem_cons_of_mem _ h)
  have hown : s.vm.findClass RX6 = some m.cls := findClass_of_methodNamed B.named
  have hlocks := B.notSynchronized
  have hl := lv_entry ([.ref (Z 0), .int a1, .int a2]) (n := 3) (Nat.le_of_ble_eq_true rfl)
  rw [lg_entry_eq]
  generalize (lg_sl ([.ref (Z 0), .int a1, .int a2]) ++ List.replicate (3 - (lg_sl ([.ref (Z 0), .int a1, .int a2])).length) Slot.unset).toArray = ls at hl ⊢
  have hl : lv_has ls 3 [(0, .ref (Z 0)), (1, .int a1), (2, .int a2)] := hl
  refine lv_iload_n hx hb dX6_gangway_0 rfl (lv_at hl 1 rfl) ?_
  refine rS (As := [.int a1]) (rest := []) hx hb hml hown hts hl.1 (kX4_isGangway l D cyC cyI cyO a1) bS_X4_isGangway  wml_RX6_52 ⟨rfl, rfl⟩ ⟨Nat.le_of_ble_eq_true rfl, Nat.le_of_ble_eq_true rfl, Nat.zero_le _, Nat.zero_le _⟩ [] rfl hP hK rfl rfl (Nat.le_of_ble_eq_true rfl) dX6_gangway_1 ?_
  refine lv_if_eq (tgt := 17) hx hb dX6_gangway_4 (by decide) (fun c_1 => ?_) (fun c_1 => ?_)
  · refine lv_iconst (v := (-1)) hx hb dX6_gangway_17 (by decide) ?_
    have e9 : (-1) = (pX6_gangway rt sg pw rd u w h r v tu tw su sw g a1 a2) := by simp only [pX6_gangway, if_pos c_1]
    exact W.iret (v := (-1)) hx hb hr (fun t ht hW => ⟨_, rfl, e9, ht⟩) (fun _ h => absurd h List.not_mem_nil) dX6_gangway_18
  · refine lv_iload_n hx hb dX6_gangway_7 rfl (lv_at hl 2 rfl) ?_
    refine lv_iconst (v := 0) hx hb dX6_gangway_8 (by decide) ?_
    refine lv_bipush (v := 6) hx hb dX6_gangway_9 (by decide) ?_
    refine rS (As := [.int a2, .int 0, .int 6]) (rest := []) hx hb hml hown hts hl.1 (kX6_isWithin l D cyC cyI cyO a2 0 6) bS_X6_isWithin  wml_RX6_58 ⟨rfl, rfl⟩ ⟨Nat.le_of_ble_eq_true rfl, Nat.le_of_ble_eq_true rfl, Nat.zero_le _, Nat.zero_le _⟩ [] rfl hP hK rfl rfl (Nat.le_of_ble_eq_true rfl) dX6_gangway_11 ?_
    refine lv_if_ne (tgt := 19) hx hb dX6_gangway_14 (by decide) (fun c_2 => ?_) (fun c_2 => ?_)
    · refine lv_iload_n hx hb dX6_gangway_19 rfl (lv_at hl 2 rfl) ?_
      by_cases c_3 : a2 = 0
      · refine lv_tableIn (off := 40) (tgt := 60) hx hb dX6_gangway_20 (by rw [c_3]; decide) (by rw [c_3]; decide) (by rw [c_3]; rfl) (by decide) ?_
        refine lv_aload_n hx hb dX6_gangway_60 rfl (lv_at hl 0 rfl) ?_
        refine va_get (D := D) (ci := 5) (v := .ref (C 0)) (C := RX6) (T := TX6) (N := 12) hx hb hts inT_X6 hown hK.1 hP 0 rfl rfl 0 (by decide) (hts _ wfl_RX6_10) (fun _ h9 => h9) rfl dX6_gangway_61 ?_
        refine va_get (D := D) (ci := 0) (v := .ref (C 1)) (C := RX0) (T := TX0) (N := 19) hx hb hts inT_X0 hown hK.1 hP 4 rfl rfl 0 (by decide) (hts _ wfl_RX6_66) (fun _ h9 => h9) rfl dX6_gangway_64 ?_
        refine lv_iload_n hx hb dX6_gangway_67 rfl (lv_at hl 1 rfl) ?_
        refine va_iald (D := D) (f := (u 0)) hx hb hK.1 hP 5 1 rfl rfl (ig_in c_1) dX6_gangway_68 ?_
        have e9 : ((u 0) (a1).toNatClampNeg) = (pX6_gangway rt sg pw rd u w h r v tu tw su sw g a1 a2) := by simp only [pX6_gangway, if_neg c_1, if_neg c_2, if_pos c_3]
        exact W.iret (v := ((u 0) (a1).toNatClampNeg)) hx hb hr (fun t ht hW => ⟨_, rfl, e9, ht⟩) (fun _ h => absurd h List.not_mem_nil) dX6_gangway_69
      · by_cases c_4 : a2 = 1
        · refine lv_tableIn (off := 50) (tgt := 70) hx hb dX6_gangway_20 (by rw [c_4]; decide) (by rw [c_4]; decide) (by rw [c_4]; rfl) (by decide) ?_
          refine lv_iload_n hx hb dX6_gangway_70 rfl (lv_at hl 1 rfl) ?_
          refine rS (As := [.int a1]) (rest := []) hx hb hml hown hts hl.1 (kX4_lesserRoof l D cyC cyI cyO a1) bS_X4_lesserRoof  wml_RX6_196 ⟨rfl, rfl⟩ ⟨Nat.le_of_ble_eq_true rfl, Nat.le_of_ble_eq_true rfl, Nat.zero_le _, Nat.zero_le _⟩ [] rfl hP hK rfl rfl (Nat.le_of_ble_eq_true rfl) dX6_gangway_71 ?_
          have e9 : (pX4_lesserRoof a1) = (pX6_gangway rt sg pw rd u w h r v tu tw su sw g a1 a2) := by simp only [pX6_gangway, if_neg c_1, if_neg c_2, if_neg c_3, if_pos c_4]
          exact W.iret (v := (pX4_lesserRoof a1)) hx hb hr (fun t ht hW => ⟨_, rfl, e9, ht⟩) (fun _ h => absurd h List.not_mem_nil) dX6_gangway_74
        · by_cases c_5 : a2 = 2
          · refine lv_tableIn (off := 55) (tgt := 75) hx hb dX6_gangway_20 (by rw [c_5]; decide) (by rw [c_5]; decide) (by rw [c_5]; rfl) (by decide) ?_
            refine lv_iload_n hx hb dX6_gangway_75 rfl (lv_at hl 1 rfl) ?_
            refine rS (As := [.int a1]) (rest := []) hx hb hml hown hts hl.1 (kX4_greaterRoof l D cyC cyI cyO a1) bS_X4_greaterRoof  wml_RX6_199 ⟨rfl, rfl⟩ ⟨Nat.le_of_ble_eq_true rfl, Nat.le_of_ble_eq_true rfl, Nat.zero_le _, Nat.zero_le _⟩ [] rfl hP hK rfl rfl (Nat.le_of_ble_eq_true rfl) dX6_gangway_76 ?_
            have e9 : (pX4_greaterRoof a1) = (pX6_gangway rt sg pw rd u w h r v tu tw su sw g a1 a2) := by simp only [pX6_gangway, if_neg c_1, if_neg c_2, if_neg c_3, if_neg c_4, if_pos c_5]
            exact W.iret (v := (pX4_greaterRoof a1)) hx hb hr (fun t ht hW => ⟨_, rfl, e9, ht⟩) (fun _ h => absurd h List.not_mem_nil) dX6_gangway_79
          · by_cases c_6 : a2 = 3
            · refine lv_tableIn (off := 60) (tgt := 80) hx hb dX6_gangway_20 (by rw [c_6]; decide) (by rw [c_6]; decide) (by rw [c_6]; rfl) (by decide) ?_
              refine lv_aload_n hx hb dX6_gangway_80 rfl (lv_at hl 0 rfl) ?_
              refine va_get (D := D) (ci := 5) (v := .ref (C 0)) (C := RX6) (T := TX6) (N := 12) hx hb hts inT_X6 hown hK.1 hP 0 rfl rfl 0 (by decide) (hts _ wfl_RX6_10) (fun _ h9 => h9) rfl dX6_gangway_81 ?_
              refine lv_iload_n hx hb dX6_gangway_84 rfl (lv_at hl 1 rfl) ?_
              refine rVB (bl := [wRt Z C TR SN HI Y P R rt, wPd cyC P sg pw, wRd R P rd, wC cyI C u w, wHM cyI cyO HI BB h r v, wC cyI TR tu tw, wC cyI SN su sw, wWy cyI Y g]) (WSb := [wC cyI C u w]) (As := [.int a1]) (rest := []) hx hb hml hown hts hl.1 (kX0_hasLine l D cyC cyI cyO C u w a1 (ig_in c_1)) bV_X0_hasLine wml_RX6_202 ⟨rfl, rfl⟩ ⟨Nat.le_of_ble_eq_true rfl, Nat.le_of_ble_eq_true rfl, Nat.zero_le _, Nat.zero_le _⟩ [3] (by simp only [List.flatten_cons, List.flatten_nil, List.append_nil]) rfl hP hK 0 rfl rfl rfl rfl rfl (Nat.le_of_ble_eq_true rfl) dX6_gangway_85 ?_
              refine lv_if_eq (tgt := 103) hx hb dX6_gangway_88 (by decide) (fun c_9 => ?_) (fun c_9 => ?_)
              · refine lv_bipush (v := (-4)) hx hb dX6_gangway_103 (by decide) ?_
                have e9 : (-4) = (pX6_gangway rt sg pw rd u w h r v tu tw su sw g a1 a2) := by simp only [pX6_gangway, if_neg c_1, if_neg c_2, if_neg c_3, if_neg c_4, if_neg c_5, if_pos c_6, if_pos c_9]
                exact W.iret (v := (-4)) hx hb hr (fun t ht hW => ⟨_, rfl, e9, ht⟩) (fun _ h => absurd h List.not_mem_nil) dX6_gangway_105
              · refine lv_aload_n hx hb dX6_gangway_91 rfl (lv_at hl 0 rfl) ?_
                refine va_get (D := D) (ci := 5) (v := .ref (C 0)) (C := RX6) (T := TX6) (N := 12) hx hb hts inT_X6 hown hK.1 hP 0 rfl rfl 0 (by decide) (hts _ wfl_RX6_10) (fun _ h9 => h9) rfl dX6_gangway_92 ?_
                refine va_get (D := D) (ci := 0) (v := .ref (C 2)) (C := RX0) (T := TX0) (N := 19) hx hb hts inT_X0 hown hK.1 hP 4 rfl rfl 1 (by decide) (hts _ wfl_RX6_205) (fun _ h9 => h9) rfl dX6_gangway_95 ?_
                refine lv_iload_n hx hb dX6_gangway_98 rfl (lv_at hl 1 rfl) ?_
                refine va_iald (D := D) (f := (u 1)) hx hb hK.1 hP 6 1 rfl rfl (ig_in c_1) dX6_gangway_99 ?_
                refine lv_goto (tgt := 105) hx hb dX6_gangway_100 (by decide) ?_
                have e9 : ((u 1) (a1).toNatClampNeg) = (pX6_gangway rt sg pw rd u w h r v tu tw su sw g a1 a2) := by simp only [pX6_gangway, if_neg c_1, if_neg c_2, if_neg c_3, if_neg c_4, if_neg c_5, if_pos c_6, if_neg c_9]
                exact W.iret (v := ((u 1) (a1).toNatClampNeg)) hx hb hr (fun t ht hW => ⟨_, rfl, e9, ht⟩) (fun _ h => absurd h List.not_mem_nil) dX6_gangway_105
            · by_cases c_7 : a2 = 4
              · refine lv_tableIn (off := 86) (tgt := 106) hx hb dX6_gangway_20 (by rw [c_7]; decide) (by rw [c_7]; decide) (by rw [c_7]; rfl) (by decide) ?_
                refine lv_aload_n hx hb dX6_gangway_106 rfl (lv_at hl 0 rfl) ?_
                refine va_get (D := D) (ci := 5) (v := .ref (C 0)) (C := RX6) (T := TX6) (N := 12) hx hb hts inT_X6 hown hK.1 hP 0 rfl rfl 0 (by decide) (hts _ wfl_RX6_10) (fun _ h9 => h9) rfl dX6_gangway_107 ?_
                refine lv_iload_n hx hb dX6_gangway_110 rfl (lv_at hl 1 rfl) ?_
                refine rVB (bl := [wRt Z C TR SN HI Y P R rt, wPd cyC P sg pw, wRd R P rd, wC cyI C u w, wHM cyI cyO HI BB h r v, wC cyI TR tu tw, wC cyI SN su sw, wWy cyI Y g]) (WSb := [wC cyI C u w]) (As := [.int a1]) (rest := []) hx hb hml hown hts hl.1 (kX0_hasLine l D cyC cyI cyO C u w a1 (ig_in c_1)) bV_X0_hasLine wml_RX6_202 ⟨rfl, rfl⟩ ⟨Nat.le_of_ble_eq_true rfl, Nat.le_of_ble_eq_true rfl, Nat.zero_le _, Nat.zero_le _⟩ [3] (by simp only [List.flatten_cons, List.flatten_nil, List.append_nil]) rfl hP hK 0 rfl rfl rfl rfl rfl (Nat.le_of_ble_eq_true rfl) dX6_gangway_111 ?_
                refine lv_if_eq (tgt := 129) hx hb dX6_gangway_114 (by decide) (fun c_10 => ?_) (fun c_10 => ?_)
                · refine lv_bipush (v := (-4)) hx hb dX6_gangway_129 (by decide) ?_
                  have e9 : (-4) = (pX6_gangway rt sg pw rd u w h r v tu tw su sw g a1 a2) := by simp only [pX6_gangway, if_neg c_1, if_neg c_2, if_neg c_3, if_neg c_4, if_neg c_5, if_neg c_6, if_pos c_7, if_pos c_10]
                  exact W.iret (v := (-4)) hx hb hr (fun t ht hW => ⟨_, rfl, e9, ht⟩) (fun _ h => absurd h List.not_mem_nil) dX6_gangway_131
                · refine lv_aload_n hx hb dX6_gangway_117 rfl (lv_at hl 0 rfl) ?_
                  refine va_get (D := D) (ci := 5) (v := .ref (C 0)) (C := RX6) (T := TX6) (N := 12) hx hb hts inT_X6 hown hK.1 hP 0 rfl rfl 0 (by decide) (hts _ wfl_RX6_10) (fun _ h9 => h9) rfl dX6_gangway_118 ?_
                  refine va_get (D := D) (ci := 0) (v := .ref (C 3)) (C := RX0) (T := TX0) (N := 19) hx hb hts inT_X0 hown hK.1 hP 4 rfl rfl 2 (by decide) (hts _ wfl_RX6_208) (fun _ h9 => h9) rfl dX6_gangway_121 ?_
                  refine lv_iload_n hx hb dX6_gangway_124 rfl (lv_at hl 1 rfl) ?_
                  refine va_iald (D := D) (f := (u 2)) hx hb hK.1 hP 7 1 rfl rfl (ig_in c_1) dX6_gangway_125 ?_
                  refine lv_goto (tgt := 131) hx hb dX6_gangway_126 (by decide) ?_
                  have e9 : ((u 2) (a1).toNatClampNeg) = (pX6_gangway rt sg pw rd u w h r v tu tw su sw g a1 a2) := by simp only [pX6_gangway, if_neg c_1, if_neg c_2, if_neg c_3, if_neg c_4, if_neg c_5, if_neg c_6, if_pos c_7, if_neg c_10]
                  exact W.iret (v := ((u 2) (a1).toNatClampNeg)) hx hb hr (fun t ht hW => ⟨_, rfl, e9, ht⟩) (fun _ h => absurd h List.not_mem_nil) dX6_gangway_131
              · by_cases c_8 : a2 = 5
                · refine lv_tableIn (off := 112) (tgt := 132) hx hb dX6_gangway_20 (by rw [c_8]; decide) (by rw [c_8]; decide) (by rw [c_8]; rfl) (by decide) ?_
                  refine lv_aload_n hx hb dX6_gangway_132 rfl (lv_at hl 0 rfl) ?_
                  refine va_get (D := D) (ci := 5) (v := .ref (C 0)) (C := RX6) (T := TX6) (N := 12) hx hb hts inT_X6 hown hK.1 hP 0 rfl rfl 0 (by decide) (hts _ wfl_RX6_10) (fun _ h9 => h9) rfl dX6_gangway_133 ?_
                  refine lv_iload_n hx hb dX6_gangway_136 rfl (lv_at hl 1 rfl) ?_
                  refine rVB (bl := [wRt Z C TR SN HI Y P R rt, wPd cyC P sg pw, wRd R P rd, wC cyI C u w, wHM cyI cyO HI BB h r v, wC cyI TR tu tw, wC cyI SN su sw, wWy cyI Y g]) (WSb := [wC cyI C u w]) (As := [.int a1]) (rest := []) hx hb hml hown hts hl.1 (kX0_hasLine l D cyC cyI cyO C u w a1 (ig_in c_1)) bV_X0_hasLine wml_RX6_202 ⟨rfl, rfl⟩ ⟨Nat.le_of_ble_eq_true rfl, Nat.le_of_ble_eq_true rfl, Nat.zero_le _, Nat.zero_le _⟩ [3] (by simp only [List.flatten_cons, List.flatten_nil, List.append_nil]) rfl hP hK 0 rfl rfl rfl rfl rfl (Nat.le_of_ble_eq_true rfl) dX6_gangway_137 ?_
                  refine lv_if_eq (tgt := 155) hx hb dX6_gangway_140 (by decide) (fun c_11 => ?_) (fun c_11 => ?_)
                  · refine lv_bipush (v := (-4)) hx hb dX6_gangway_155 (by decide) ?_
                    have e9 : (-4) = (pX6_gangway rt sg pw rd u w h r v tu tw su sw g a1 a2) := by simp only [pX6_gangway, if_neg c_1, if_neg c_2, if_neg c_3, if_neg c_4, if_neg c_5, if_neg c_6, if_neg c_7, if_pos c_8, if_pos c_11]
                    exact W.iret (v := (-4)) hx hb hr (fun t ht hW => ⟨_, rfl, e9, ht⟩) (fun _ h => absurd h List.not_mem_nil) dX6_gangway_157
                  · refine lv_aload_n hx hb dX6_gangway_143 rfl (lv_at hl 0 rfl) ?_
                    refine va_get (D := D) (ci := 5) (v := .ref (C 0)) (C := RX6) (T := TX6) (N := 12) hx hb hts inT_X6 hown hK.1 hP 0 rfl rfl 0 (by decide) (hts _ wfl_RX6_10) (fun _ h9 => h9) rfl dX6_gangway_144 ?_
                    refine va_get (D := D) (ci := 0) (v := .ref (C 4)) (C := RX0) (T := TX0) (N := 19) hx hb hts inT_X0 hown hK.1 hP 4 rfl rfl 3 (by decide) (hts _ wfl_RX6_211) (fun _ h9 => h9) rfl dX6_gangway_147 ?_
                    refine lv_iload_n hx hb dX6_gangway_150 rfl (lv_at hl 1 rfl) ?_
                    refine va_iald (D := D) (f := (u 3)) hx hb hK.1 hP 8 1 rfl rfl (ig_in c_1) dX6_gangway_151 ?_
                    refine lv_goto (tgt := 157) hx hb dX6_gangway_152 (by decide) ?_
                    have e9 : ((u 3) (a1).toNatClampNeg) = (pX6_gangway rt sg pw rd u w h r v tu tw su sw g a1 a2) := by simp only [pX6_gangway, if_neg c_1, if_neg c_2, if_neg c_3, if_neg c_4, if_neg c_5, if_neg c_6, if_neg c_7, if_pos c_8, if_neg c_11]
                    exact W.iret (v := ((u 3) (a1).toNatClampNeg)) hx hb hr (fun t ht hW => ⟨_, rfl, e9, ht⟩) (fun _ h => absurd h List.not_mem_nil) dX6_gangway_157
                · have nc_3 : (a2 : Int32).toInt ≠ 0 := fun h => c_3 (Int32.toInt_inj.mp (h.trans (by decide)))
                  have nc_4 : (a2 : Int32).toInt ≠ 1 := fun h => c_4 (Int32.toInt_inj.mp (h.trans (by decide)))
                  have nc_5 : (a2 : Int32).toInt ≠ 2 := fun h => c_5 (Int32.toInt_inj.mp (h.trans (by decide)))
                  have nc_6 : (a2 : Int32).toInt ≠ 3 := fun h => c_6 (Int32.toInt_inj.mp (h.trans (by decide)))
                  have nc_7 : (a2 : Int32).toInt ≠ 4 := fun h => c_7 (Int32.toInt_inj.mp (h.trans (by decide)))
                  have nc_8 : (a2 : Int32).toInt ≠ 5 := fun h => c_8 (Int32.toInt_inj.mp (h.trans (by decide)))
                  refine lv_tableOut (tgt := 158) hx hb dX6_gangway_20 (by omega) (by decide) ?_
                  refine lv_aload_n hx hb dX6_gangway_158 rfl (lv_at hl 0 rfl) ?_
                  refine va_get (D := D) (ci := 5) (v := .ref (C 0)) (C := RX6) (T := TX6) (N := 12) hx hb hts inT_X6 hown hK.1 hP 0 rfl rfl 0 (by decide) (hts _ wfl_RX6_10) (fun _ h9 => h9) rfl dX6_gangway_159 ?_
                  refine lv_aload_n hx hb dX6_gangway_162 rfl (lv_at hl 0 rfl) ?_
                  refine va_get (D := D) (ci := 5) (v := .ref (C 0)) (C := RX6) (T := TX6) (N := 12) hx hb hts inT_X6 hown hK.1 hP 0 rfl rfl 0 (by decide) (hts _ wfl_RX6_10) (fun _ h9 => h9) rfl dX6_gangway_163 ?_
                  refine va_get (D := D) (ci := 0) (v := .int (w 11)) (C := RX0) (T := TX0) (N := 19) hx hb hts inT_X0 hown hK.1 hP 4 rfl rfl 11 (by decide) (hts _ wfl_RX6_74) (fun _ h9 => h9) rfl dX6_gangway_166 ?_
                  refine rVB (bl := [wRt Z C TR SN HI Y P R rt, wPd cyC P sg pw, wRd R P rd, wC cyI C u w, wHM cyI cyO HI BB h r v, wC cyI TR tu tw, wC cyI SN su sw, wWy cyI Y g]) (WSb := [wC cyI C u w]) (As := [.int (w 11)]) (rest := []) hx hb hml hown hts hl.1 (kX0_smokeBlown l D cyC cyI cyO C u w (w 11) hq) bV_X0_smokeBlown wml_RX6_85 ⟨rfl, rfl⟩ ⟨Nat.le_of_ble_eq_true rfl, Nat.le_of_ble_eq_true rfl, Nat.zero_le _, Nat.zero_le _⟩ [3] (by simp only [List.flatten_cons, List.flatten_nil, List.append_nil]) rfl hP hK 0 rfl rfl rfl rfl rfl (Nat.le_of_ble_eq_true rfl) dX6_gangway_169 ?_
                  refine lv_iload_n hx hb dX6_gangway_172 rfl (lv_at hl 1 rfl) ?_
                  refine rS (As := [.int a1]) (rest := [.int (pX0_smokeBlown u w (w 11))]) hx hb hml hown hts hl.1 (kX4_roofsOf l D cyC cyI cyO a1) bS_X4_roofsOf  wml_RX6_214 ⟨rfl, rfl⟩ ⟨Nat.le_of_ble_eq_true rfl, Nat.le_of_ble_eq_true rfl, Nat.zero_le _, Nat.zero_le _⟩ [] rfl hP hK rfl rfl (Nat.le_of_ble_eq_true rfl) dX6_gangway_173 ?_
                  refine lv_iand hx hb dX6_gangway_176 ?_
                  refine rS (As := [.int ((pX0_smokeBlown u w (w 11)) &&& (pX4_roofsOf a1))]) (rest := []) hx hb hml hown hts hl.1 (kJ6_bitCount_0f7a4 l D cyC cyI cyO ((pX0_smokeBlown u w (w 11)) &&& (pX4_roofsOf a1))) bS_J6_bitCount_0f7a4  wml_RX6_89 ⟨rfl, rfl⟩ ⟨Nat.le_of_ble_eq_true rfl, Nat.le_of_ble_eq_true rfl, Nat.zero_le _, Nat.zero_le _⟩ [] rfl hP hK rfl rfl (Nat.le_of_ble_eq_true rfl) dX6_gangway_177 ?_
                  have e9 : (pJ6_bitCount_0f7a4 ((pX0_smokeBlown u w (w 11)) &&& (pX4_roofsOf a1))) = (pX6_gangway rt sg pw rd u w h r v tu tw su sw g a1 a2) := by simp only [pX6_gangway, if_neg c_1, if_neg c_2, if_neg c_3, if_neg c_4, if_neg c_5, if_neg c_6, if_neg c_7, if_neg c_8]
                  exact W.iret (v := (pJ6_bitCount_0f7a4 ((pX0_smokeBlown u w (w 11)) &&& (pX4_roofsOf a1)))) hx hb hr (fun t ht hW => ⟨_, rfl, e9, ht⟩) (fun _ h => absurd h List.not_mem_nil) dX6_gangway_180
    · refine lv_iconst (v := (-1)) hx hb dX6_gangway_17 (by decide) ?_
      have e9 : (-1) = (pX6_gangway rt sg pw rd u w h r v tu tw su sw g a1 a2) := by simp only [pX6_gangway, if_neg c_1, if_pos c_2]
      exact W.iret (v := (-1)) hx hb hr (fun t ht hW => ⟨_, rfl, e9, ht⟩) (fun _ h => absurd h List.not_mem_nil) dX6_gangway_18
theorem bV_X6_gangway : BV RX6 yX6_gangway cX6_gangway 3 (some .int) 2 := ⟨wcd_X6_gangway, wim_X6_gangway, wse_X6_gangway, win_RX6, by decide +kernel⟩
def pX6_ownerOf (rt : (Nat → Int32)) (sg : (Nat → Nat → Int32)) (pw : (Nat → Int32)) (rd : (Nat → Int32)) (u : (Nat → Nat → Int32)) (w : (Nat → Int32)) (h : (Nat → (Nat → Nat → Int32) × (Nat → Int32))) (r : Nat) (v : (Nat → Int32)) (tu : (Nat → Nat → Int32)) (tw : (Nat → Int32)) (su : (Nat → Nat → Int32)) (sw : (Nat → Int32)) (g : (Nat → Nat → Int32)) (a1 : Int32) (a2 : Int32) : Int32 := (if (pX6_isOwner a1) = 0 then (-1) else (if (pX6_isWithin a2 0 8) = 0 then (-1) else (if a2 = 0 then ((u 4) (a1).toNatClampNeg) else (if a2 = 1 then ((u 5) (a1).toNatClampNeg) else (if a2 = 2 then (pX6_bitOf (w 8) a1) else (if a2 = 3 then ((u 6) (a1).toNatClampNeg) else (if a2 = 4 then (pJ6_bitCount_0f7a4 (pX0_linesOf u w a1)) else (if a2 = 5 then (pJ6_bitCount_0f7a4 ((pX0_linesOf u w a1) &&& (pX0_cleanLines u w))) else (if a2 = 6 then (pX0_walksOpenTo u w a1) else (if a2 = 7 then ((u 7) (a1).toNatClampNeg) else (pX0_hangingsOpenTo u w a1)))))))))))
set_option maxHeartbeats 4000000 in
set_option maxRecDepth 100000 in
theorem kX6_ownerOf (l : Launch) (D : va_G) (cyC cyI cyO : ClassId) (Z : Nat → Nat) (C : Nat → Nat) (TR : Nat → Nat) (SN : Nat → Nat) (HI : Nat → Nat) (Y : Nat → Nat) (P : Nat → Nat) (R : Nat → Nat) (BB : Nat → Nat → Nat) (rt : (Nat → Int32)) (sg : (Nat → Nat → Int32)) (pw : (Nat → Int32)) (rd : (Nat → Int32)) (u : (Nat → Nat → Int32)) (w : (Nat → Int32)) (h : (Nat → (Nat → Nat → Int32) × (Nat → Int32))) (r : Nat) (v : (Nat → Int32)) (tu : (Nat → Nat → Int32)) (tw : (Nat → Int32)) (su : (Nat → Nat → Int32)) (sw : (Nat → Int32)) (g : (Nat → Nat → Int32)) (a1 : Int32) (a2 : Int32) (hq : (w 12) < 4) : RO l yX6_ownerOf (Ty yX6_ownerOf cX6_ownerOf 3 (some .int)) ({ frames := 5, cells := 0, slots := 0, locals := 115 } : Room) D cyC cyI cyO (List.flatten [wRt Z C TR SN HI Y P R rt, wPd cyC P sg pw, wRd R P rd, wC cyI C u w, wHM cyI cyO HI BB h r v, wC cyI TR tu tw, wC cyI SN su sw, wWy cyI Y g]) [.ref (Z 0), .int a1, .int a2] (pX6_ownerOf rt sg pw rd u w h r v tu tw su sw g a1 a2) := by
  refine Met.ofW (cc := cX6_ownerOf) (maxL := 3) (ret := (some .int)) (by decide) rfl ?_
  intro p e s m args below meth cd s₁ B hml hv
  obtain ⟨rfl, hP, hK⟩ := hv
  have hx := B.exec
  have hb := B.bytes
  have hr := B.returns
  have hts : ∀ w ∈ TB, w.before ([.ref (Z 0), .int a1, .int a2] : List Value).toArray s = true := fun w h => atoms_spec (ws := (Ty yX6_ownerOf cX6_ownerOf 3 (some .int))) B.pre w (List.mem_cons_of_mem _ h)
  have hown : s.vm.findClass RX6 = some m.cls := findClass_of_methodNamed B.named
  have hlocks := B.notSynchronized
  have hl := lv_entry ([.ref (Z 0), .int a1, .int a2]) (n := 3) (Nat.le_of_ble_eq_true rfl)
  rw [lg_entry_eq]
  generalize (lg_sl ([.ref (Z 0), .int a1, .int a2]) ++ List.replicate (3 - (lg_sl ([.ref (Z 0), .int a1, .int a2])).length) Slot.unset).toArray = ls at hl ⊢
  have hl : lv_has ls 3 [(0, .ref (Z 0)), (1, .int a1), (2, .int a2)] := hl
  refine lv_iload_n hx hb dX6_ownerOf_0 rfl (lv_at hl 1 rfl) ?_
  refine rS (As := [.int a1]) (rest := []) hx hb hml hown hts hl.1 (kX6_isOwner l D cyC cyI cyO a1) bS_X6_isOwner  wml_RX6_97 ⟨rfl, rfl⟩ ⟨Nat.le_of_ble_eq_true rfl, Nat.le_of_ble_eq_true rfl, Nat.zero_le _, Nat.zero_le _⟩ [] rfl hP hK rfl rfl (Nat.le_of_ble_eq_true rfl) dX6_ownerOf_1 ?_
  refine lv_if_eq (tgt := 17) hx hb dX6_ownerOf_4 (by decide) (fun c_1 => ?_) (fun c_1 => ?_)
  · refine lv_iconst (v := (-1)) hx hb dX6_ownerOf_17 (by decide) ?_
    have e9 : (-1) = (pX6_ownerOf rt sg pw rd u w h r v tu tw su sw g a1 a2) := by simp only [pX6_ownerOf, if_pos c_1]
    exact W.iret (v := (-1)) hx hb hr (fun t ht hW => ⟨_, rfl, e9, ht⟩) (fun _ h => absurd h List.not_mem_nil) dX6_ownerOf_18
  · refine lv_iload_n hx hb dX6_ownerOf_7 rfl (lv_at hl 2 rfl) ?_
    refine lv_iconst (v := 0) hx hb dX6_ownerOf_8 (by decide) ?_
    refine lv_bipush (v := 8) hx hb dX6_ownerOf_9 (by decide) ?_
    refine rS (As := [.int a2, .int 0, .int 8]) (rest := []) hx hb hml hown hts hl.1 (kX6_isWithin l D cyC cyI cyO a2 0 8) bS_X6_isWithin  wml_RX6_58 ⟨rfl, rfl⟩ ⟨Nat.le_of_ble_eq_true rfl, Nat.le_of_ble_eq_true rfl, Nat.zero_le _, Nat.zero_le _⟩ [] rfl hP hK rfl rfl (Nat.le_of_ble_eq_true rfl) dX6_ownerOf_11 ?_
    refine lv_if_ne (tgt := 19) hx hb dX6_ownerOf_14 (by decide) (fun c_2 => ?_) (fun c_2 => ?_)
    · refine lv_iload_n hx hb dX6_ownerOf_19 rfl (lv_at hl 2 rfl) ?_
      by_cases c_3 : a2 = 0
      · refine lv_tableIn (off := 48) (tgt := 68) hx hb dX6_ownerOf_20 (by rw [c_3]; decide) (by rw [c_3]; decide) (by rw [c_3]; rfl) (by decide) ?_
        refine lv_aload_n hx hb dX6_ownerOf_68 rfl (lv_at hl 0 rfl) ?_
        refine va_get (D := D) (ci := 5) (v := .ref (C 0)) (C := RX6) (T := TX6) (N := 12) hx hb hts inT_X6 hown hK.1 hP 0 rfl rfl 0 (by decide) (hts _ wfl_RX6_10) (fun _ h9 => h9) rfl dX6_ownerOf_69 ?_
        refine va_get (D := D) (ci := 0) (v := .ref (C 5)) (C := RX0) (T := TX0) (N := 19) hx hb hts inT_X0 hown hK.1 hP 4 rfl rfl 4 (by decide) (hts _ wfl_RX6_101) (fun _ h9 => h9) rfl dX6_ownerOf_72 ?_
        refine lv_iload_n hx hb dX6_ownerOf_75 rfl (lv_at hl 1 rfl) ?_
        refine va_iald (D := D) (f := (u 4)) hx hb hK.1 hP 9 1 rfl rfl (io_in c_1) dX6_ownerOf_76 ?_
        have e9 : ((u 4) (a1).toNatClampNeg) = (pX6_ownerOf rt sg pw rd u w h r v tu tw su sw g a1 a2) := by simp only [pX6_ownerOf, if_neg c_1, if_neg c_2, if_pos c_3]
        exact W.iret (v := ((u 4) (a1).toNatClampNeg)) hx hb hr (fun t ht hW => ⟨_, rfl, e9, ht⟩) (fun _ h => absurd h List.not_mem_nil) dX6_ownerOf_77
      · by_cases c_4 : a2 = 1
        · refine lv_tableIn (off := 58) (tgt := 78) hx hb dX6_ownerOf_20 (by rw [c_4]; decide) (by rw [c_4]; decide) (by rw [c_4]; rfl) (by decide) ?_
          refine lv_aload_n hx hb dX6_ownerOf_78 rfl (lv_at hl 0 rfl) ?_
          refine va_get (D := D) (ci := 5) (v := .ref (C 0)) (C := RX6) (T := TX6) (N := 12) hx hb hts inT_X6 hown hK.1 hP 0 rfl rfl 0 (by decide) (hts _ wfl_RX6_10) (fun _ h9 => h9) rfl dX6_ownerOf_79 ?_
          refine va_get (D := D) (ci := 0) (v := .ref (C 6)) (C := RX0) (T := TX0) (N := 19) hx hb hts inT_X0 hown hK.1 hP 4 rfl rfl 5 (by decide) (hts _ wfl_RX6_104) (fun _ h9 => h9) rfl dX6_ownerOf_82 ?_
          refine lv_iload_n hx hb dX6_ownerOf_85 rfl (lv_at hl 1 rfl) ?_
          refine va_iald (D := D) (f := (u 5)) hx hb hK.1 hP 10 1 rfl rfl (io_in c_1) dX6_ownerOf_86 ?_
          have e9 : ((u 5) (a1).toNatClampNeg) = (pX6_ownerOf rt sg pw rd u w h r v tu tw su sw g a1 a2) := by simp only [pX6_ownerOf, if_neg c_1, if_neg c_2, if_neg c_3, if_pos c_4]
          exact W.iret (v := ((u 5) (a1).toNatClampNeg)) hx hb hr (fun t ht hW => ⟨_, rfl, e9, ht⟩) (fun _ h => absurd h List.not_mem_nil) dX6_ownerOf_87
        · by_cases c_5 : a2 = 2
          · refine lv_tableIn (off := 68) (tgt := 88) hx hb dX6_ownerOf_20 (by rw [c_5]; decide) (by rw [c_5]; decide) (by rw [c_5]; rfl) (by decide) ?_
            refine lv_aload_n hx hb dX6_ownerOf_88 rfl (lv_at hl 0 rfl) ?_
            refine va_get (D := D) (ci := 5) (v := .ref (C 0)) (C := RX6) (T := TX6) (N := 12) hx hb hts inT_X6 hown hK.1 hP 0 rfl rfl 0 (by decide) (hts _ wfl_RX6_10) (fun _ h9 => h9) rfl dX6_ownerOf_89 ?_
            refine va_get (D := D) (ci := 0) (v := .int (w 8)) (C := RX0) (T := TX0) (N := 19) hx hb hts inT_X0 hown hK.1 hP 4 rfl rfl 8 (by decide) (hts _ wfl_RX6_217) (fun _ h9 => h9) rfl dX6_ownerOf_92 ?_
            refine lv_iload_n hx hb dX6_ownerOf_95 rfl (lv_at hl 1 rfl) ?_
            refine rS (As := [.int (w 8), .int a1]) (rest := []) hx hb hml hown hts hl.1 (kX6_bitOf l D cyC cyI cyO (w 8) a1) bS_X6_bitOf  wml_RX6_174 ⟨rfl, rfl⟩ ⟨Nat.le_of_ble_eq_true rfl, Nat.le_of_ble_eq_true rfl, Nat.zero_le _, Nat.zero_le _⟩ [] rfl hP hK rfl rfl (Nat.le_of_ble_eq_true rfl) dX6_ownerOf_96 ?_
            have e9 : (pX6_bitOf (w 8) a1) = (pX6_ownerOf rt sg pw rd u w h r v tu tw su sw g a1 a2) := by simp only [pX6_ownerOf, if_neg c_1, if_neg c_2, if_neg c_3, if_neg c_4, if_pos c_5]
            exact W.iret (v := (pX6_bitOf (w 8) a1)) hx hb hr (fun t ht hW => ⟨_, rfl, e9, ht⟩) (fun _ h => absurd h List.not_mem_nil) dX6_ownerOf_99
          · by_cases c_6 : a2 = 3
            · refine lv_tableIn (off := 80) (tgt := 100) hx hb dX6_ownerOf_20 (by rw [c_6]; decide) (by rw [c_6]; decide) (by rw [c_6]; rfl) (by decide) ?_
              refine lv_aload_n hx hb dX6_ownerOf_100 rfl (lv_at hl 0 rfl) ?_
              refine va_get (D := D) (ci := 5) (v := .ref (C 0)) (C := RX6) (T := TX6) (N := 12) hx hb hts inT_X6 hown hK.1 hP 0 rfl rfl 0 (by decide) (hts _ wfl_RX6_10) (fun _ h9 => h9) rfl dX6_ownerOf_101 ?_
              refine va_get (D := D) (ci := 0) (v := .ref (C 7)) (C := RX0) (T := TX0) (N := 19) hx hb hts inT_X0 hown hK.1 hP 4 rfl rfl 6 (by decide) (hts _ wfl_RX6_220) (fun _ h9 => h9) rfl dX6_ownerOf_104 ?_
              refine lv_iload_n hx hb dX6_ownerOf_107 rfl (lv_at hl 1 rfl) ?_
              refine va_iald (D := D) (f := (u 6)) hx hb hK.1 hP 11 1 rfl rfl (io_in c_1) dX6_ownerOf_108 ?_
              have e9 : ((u 6) (a1).toNatClampNeg) = (pX6_ownerOf rt sg pw rd u w h r v tu tw su sw g a1 a2) := by simp only [pX6_ownerOf, if_neg c_1, if_neg c_2, if_neg c_3, if_neg c_4, if_neg c_5, if_pos c_6]
              exact W.iret (v := ((u 6) (a1).toNatClampNeg)) hx hb hr (fun t ht hW => ⟨_, rfl, e9, ht⟩) (fun _ h => absurd h List.not_mem_nil) dX6_ownerOf_109
            · by_cases c_7 : a2 = 4
              · refine lv_tableIn (off := 90) (tgt := 110) hx hb dX6_ownerOf_20 (by rw [c_7]; decide) (by rw [c_7]; decide) (by rw [c_7]; rfl) (by decide) ?_
                refine lv_aload_n hx hb dX6_ownerOf_110 rfl (lv_at hl 0 rfl) ?_
                refine va_get (D := D) (ci := 5) (v := .ref (C 0)) (C := RX6) (T := TX6) (N := 12) hx hb hts inT_X6 hown hK.1 hP 0 rfl rfl 0 (by decide) (hts _ wfl_RX6_10) (fun _ h9 => h9) rfl dX6_ownerOf_111 ?_
                refine lv_iload_n hx hb dX6_ownerOf_114 rfl (lv_at hl 1 rfl) ?_
                refine rVB (bl := [wRt Z C TR SN HI Y P R rt, wPd cyC P sg pw, wRd R P rd, wC cyI C u w, wHM cyI cyO HI BB h r v, wC cyI TR tu tw, wC cyI SN su sw, wWy cyI Y g]) (WSb := [wC cyI C u w]) (As := [.int a1]) (rest := []) hx hb hml hown hts hl.1 (kX0_linesOf l D cyC cyI cyO C u w a1) bV_X0_linesOf wml_RX6_223 ⟨rfl, rfl⟩ ⟨Nat.le_of_ble_eq_true rfl, Nat.le_of_ble_eq_true rfl, Nat.zero_le _, Nat.zero_le _⟩ [3] (by simp only [List.flatten_cons, List.flatten_nil, List.append_nil]) rfl hP hK 0 rfl rfl rfl rfl rfl (Nat.le_of_ble_eq_true rfl) dX6_ownerOf_115 ?_
                refine rS (As := [.int (pX0_linesOf u w a1)]) (rest := []) hx hb hml hown hts hl.1 (kJ6_bitCount_0f7a4 l D cyC cyI cyO (pX0_linesOf u w a1)) bS_J6_bitCount_0f7a4  wml_RX6_89 ⟨rfl, rfl⟩ ⟨Nat.le_of_ble_eq_true rfl, Nat.le_of_ble_eq_true rfl, Nat.zero_le _, Nat.zero_le _⟩ [] rfl hP hK rfl rfl (Nat.le_of_ble_eq_true rfl) dX6_ownerOf_118 ?_
                have e9 : (pJ6_bitCount_0f7a4 (pX0_linesOf u w a1)) = (pX6_ownerOf rt sg pw rd u w h r v tu tw su sw g a1 a2) := by simp only [pX6_ownerOf, if_neg c_1, if_neg c_2, if_neg c_3, if_neg c_4, if_neg c_5, if_neg c_6, if_pos c_7]
                exact W.iret (v := (pJ6_bitCount_0f7a4 (pX0_linesOf u w a1))) hx hb hr (fun t ht hW => ⟨_, rfl, e9, ht⟩) (fun _ h => absurd h List.not_mem_nil) dX6_ownerOf_121
              · by_cases c_8 : a2 = 5
                · refine lv_tableIn (off := 102) (tgt := 122) hx hb dX6_ownerOf_20 (by rw [c_8]; decide) (by rw [c_8]; decide) (by rw [c_8]; rfl) (by decide) ?_
                  refine lv_aload_n hx hb dX6_ownerOf_122 rfl (lv_at hl 0 rfl) ?_
                  refine va_get (D := D) (ci := 5) (v := .ref (C 0)) (C := RX6) (T := TX6) (N := 12) hx hb hts inT_X6 hown hK.1 hP 0 rfl rfl 0 (by decide) (hts _ wfl_RX6_10) (fun _ h9 => h9) rfl dX6_ownerOf_123 ?_
                  refine lv_iload_n hx hb dX6_ownerOf_126 rfl (lv_at hl 1 rfl) ?_
                  refine rVB (bl := [wRt Z C TR SN HI Y P R rt, wPd cyC P sg pw, wRd R P rd, wC cyI C u w, wHM cyI cyO HI BB h r v, wC cyI TR tu tw, wC cyI SN su sw, wWy cyI Y g]) (WSb := [wC cyI C u w]) (As := [.int a1]) (rest := []) hx hb hml hown hts hl.1 (kX0_linesOf l D cyC cyI cyO C u w a1) bV_X0_linesOf wml_RX6_223 ⟨rfl, rfl⟩ ⟨Nat.le_of_ble_eq_true rfl, Nat.le_of_ble_eq_true rfl, Nat.zero_le _, Nat.zero_le _⟩ [3] (by simp only [List.flatten_cons, List.flatten_nil, List.append_nil]) rfl hP hK 0 rfl rfl rfl rfl rfl (Nat.le_of_ble_eq_true rfl) dX6_ownerOf_127 ?_
                  refine lv_aload_n hx hb dX6_ownerOf_130 rfl (lv_at hl 0 rfl) ?_
                  refine va_get (D := D) (ci := 5) (v := .ref (C 0)) (C := RX6) (T := TX6) (N := 12) hx hb hts inT_X6 hown hK.1 hP 0 rfl rfl 0 (by decide) (hts _ wfl_RX6_10) (fun _ h9 => h9) rfl dX6_ownerOf_131 ?_
                  refine rVB (bl := [wRt Z C TR SN HI Y P R rt, wPd cyC P sg pw, wRd R P rd, wC cyI C u w, wHM cyI cyO HI BB h r v, wC cyI TR tu tw, wC cyI SN su sw, wWy cyI Y g]) (WSb := [wC cyI C u w]) (As := []) (rest := [.int (pX0_linesOf u w a1)]) hx hb hml hown hts hl.1 (kX0_cleanLines l D cyC cyI cyO C u w) bV_X0_cleanLines wml_RX6_131 ⟨rfl, rfl⟩ ⟨Nat.le_of_ble_eq_true rfl, Nat.le_of_ble_eq_true rfl, Nat.zero_le _, Nat.zero_le _⟩ [3] (by simp only [List.flatten_cons, List.flatten_nil, List.append_nil]) rfl hP hK 0 rfl rfl rfl rfl rfl (Nat.le_of_ble_eq_true rfl) dX6_ownerOf_134 ?_
                  refine lv_iand hx hb dX6_ownerOf_137 ?_
                  refine rS (As := [.int ((pX0_linesOf u w a1) &&& (pX0_cleanLines u w))]) (rest := []) hx hb hml hown hts hl.1 (kJ6_bitCount_0f7a4 l D cyC cyI cyO ((pX0_linesOf u w a1) &&& (pX0_cleanLines u w))) bS_J6_bitCount_0f7a4  wml_RX6_89 ⟨rfl, rfl⟩ ⟨Nat.le_of_ble_eq_true rfl, Nat.le_of_ble_eq_true rfl, Nat.zero_le _, Nat.zero_le _⟩ [] rfl hP hK rfl rfl (Nat.le_of_ble_eq_true rfl) dX6_ownerOf_138 ?_
                  have e9 : (pJ6_bitCount_0f7a4 ((pX0_linesOf u w a1) &&& (pX0_cleanLines u w))) = (pX6_ownerOf rt sg pw rd u w h r v tu tw su sw g a1 a2) := by simp only [pX6_ownerOf, if_neg c_1, if_neg c_2, if_neg c_3, if_neg c_4, if_neg c_5, if_neg c_6, if_neg c_7, if_pos c_8]
                  exact W.iret (v := (pJ6_bitCount_0f7a4 ((pX0_linesOf u w a1) &&& (pX0_cleanLines u w)))) hx hb hr (fun t ht hW => ⟨_, rfl, e9, ht⟩) (fun _ h => absurd h List.not_mem_nil) dX6_ownerOf_141
                · by_cases c_9 : a2 = 6
                  · refine lv_tableIn (off := 122) (tgt := 142) hx hb dX6_ownerOf_20 (by rw [c_9]; decide) (by rw [c_9]; decide) (by rw [c_9]; rfl) (by decide) ?_
                    refine lv_aload_n hx hb dX6_ownerOf_142 rfl (lv_at hl 0 rfl) ?_
                    refine va_get (D := D) (ci := 5) (v := .ref (C 0)) (C := RX6) (T := TX6) (N := 12) hx hb hts inT_X6 hown hK.1 hP 0 rfl rfl 0 (by decide) (hts _ wfl_RX6_10) (fun _ h9 => h9) rfl dX6_ownerOf_143 ?_
                    refine lv_iload_n hx hb dX6_ownerOf_146 rfl (lv_at hl 1 rfl) ?_
                    refine rVB (bl := [wRt Z C TR SN HI Y P R rt, wPd cyC P sg pw, wRd R P rd, wC cyI C u w, wHM cyI cyO HI BB h r v, wC cyI TR tu tw, wC cyI SN su sw, wWy cyI Y g]) (WSb := [wC cyI C u w]) (As := [.int a1]) (rest := []) hx hb hml hown hts hl.1 (kX0_walksOpenTo l D cyC cyI cyO C u w a1 (io_in c_1)) bV_X0_walksOpenTo wml_RX6_226 ⟨rfl, rfl⟩ ⟨Nat.le_of_ble_eq_true rfl, Nat.le_of_ble_eq_true rfl, Nat.zero_le _, Nat.zero_le _⟩ [3] (by simp only [List.flatten_cons, List.flatten_nil, List.append_nil]) rfl hP hK 0 rfl rfl rfl rfl rfl (Nat.le_of_ble_eq_true rfl) dX6_ownerOf_147 ?_
                    have e9 : (pX0_walksOpenTo u w a1) = (pX6_ownerOf rt sg pw rd u w h r v tu tw su sw g a1 a2) := by simp only [pX6_ownerOf, if_neg c_1, if_neg c_2, if_neg c_3, if_neg c_4, if_neg c_5, if_neg c_6, if_neg c_7, if_neg c_8, if_pos c_9]
                    exact W.iret (v := (pX0_walksOpenTo u w a1)) hx hb hr (fun t ht hW => ⟨_, rfl, e9, ht⟩) (fun _ h => absurd h List.not_mem_nil) dX6_ownerOf_150
                  · by_cases c_10 : a2 = 7
                    · refine lv_tableIn (off := 131) (tgt := 151) hx hb dX6_ownerOf_20 (by rw [c_10]; decide) (by rw [c_10]; decide) (by rw [c_10]; rfl) (by decide) ?_
                      refine lv_aload_n hx hb dX6_ownerOf_151 rfl (lv_at hl 0 rfl) ?_
                      refine va_get (D := D) (ci := 5) (v := .ref (C 0)) (C := RX6) (T := TX6) (N := 12) hx hb hts inT_X6 hown hK.1 hP 0 rfl rfl 0 (by decide) (hts _ wfl_RX6_10) (fun _ h9 => h9) rfl dX6_ownerOf_152 ?_
                      refine va_get (D := D) (ci := 0) (v := .ref (C 8)) (C := RX0) (T := TX0) (N := 19) hx hb hts inT_X0 hown hK.1 hP 4 rfl rfl 7 (by decide) (hts _ wfl_RX6_229) (fun _ h9 => h9) rfl dX6_ownerOf_155 ?_
                      refine lv_iload_n hx hb dX6_ownerOf_158 rfl (lv_at hl 1 rfl) ?_
                      refine va_iald (D := D) (f := (u 7)) hx hb hK.1 hP 12 1 rfl rfl (io_in c_1) dX6_ownerOf_159 ?_
                      have e9 : ((u 7) (a1).toNatClampNeg) = (pX6_ownerOf rt sg pw rd u w h r v tu tw su sw g a1 a2) := by simp only [pX6_ownerOf, if_neg c_1, if_neg c_2, if_neg c_3, if_neg c_4, if_neg c_5, if_neg c_6, if_neg c_7, if_neg c_8, if_neg c_9, if_pos c_10]
                      exact W.iret (v := ((u 7) (a1).toNatClampNeg)) hx hb hr (fun t ht hW => ⟨_, rfl, e9, ht⟩) (fun _ h => absurd h List.not_mem_nil) dX6_ownerOf_160
                    · have nc_3 : (a2 : Int32).toInt ≠ 0 := fun h => c_3 (Int32.toInt_inj.mp (h.trans (by decide)))
                      have nc_4 : (a2 : Int32).toInt ≠ 1 := fun h => c_4 (Int32.toInt_inj.mp (h.trans (by decide)))
                      have nc_5 : (a2 : Int32).toInt ≠ 2 := fun h => c_5 (Int32.toInt_inj.mp (h.trans (by decide)))
                      have nc_6 : (a2 : Int32).toInt ≠ 3 := fun h => c_6 (Int32.toInt_inj.mp (h.trans (by decide)))
                      have nc_7 : (a2 : Int32).toInt ≠ 4 := fun h => c_7 (Int32.toInt_inj.mp (h.trans (by decide)))
                      have nc_8 : (a2 : Int32).toInt ≠ 5 := fun h => c_8 (Int32.toInt_inj.mp (h.trans (by decide)))
                      have nc_9 : (a2 : Int32).toInt ≠ 6 := fun h => c_9 (Int32.toInt_inj.mp (h.trans (by decide)))
                      have nc_10 : (a2 : Int32).toInt ≠ 7 := fun h => c_10 (Int32.toInt_inj.mp (h.trans (by decide)))
                      refine lv_tableOut (tgt := 161) hx hb dX6_ownerOf_20 (by omega) (by decide) ?_
                      refine lv_aload_n hx hb dX6_ownerOf_161 rfl (lv_at hl 0 rfl) ?_
                      refine va_get (D := D) (ci := 5) (v := .ref (C 0)) (C := RX6) (T := TX6) (N := 12) hx hb hts inT_X6 hown hK.1 hP 0 rfl rfl 0 (by decide) (hts _ wfl_RX6_10) (fun _ h9 => h9) rfl dX6_ownerOf_162 ?_
                      refine lv_iload_n hx hb dX6_ownerOf_165 rfl (lv_at hl 1 rfl) ?_
                      refine rVB (bl := [wRt Z C TR SN HI Y P R rt, wPd cyC P sg pw, wRd R P rd, wC cyI C u w, wHM cyI cyO HI BB h r v, wC cyI TR tu tw, wC cyI SN su sw, wWy cyI Y g]) (WSb := [wC cyI C u w]) (As := [.int a1]) (rest := []) hx hb hml hown hts hl.1 (kX0_hangingsOpenTo l D cyC cyI cyO C u w a1 (io_in c_1) hq) bV_X0_hangingsOpenTo wml_RX6_232 ⟨rfl, rfl⟩ ⟨Nat.le_of_ble_eq_true rfl, Nat.le_of_ble_eq_true rfl, Nat.zero_le _, Nat.zero_le _⟩ [3] (by simp only [List.flatten_cons, List.flatten_nil, List.append_nil]) rfl hP hK 0 rfl rfl rfl rfl rfl (Nat.le_of_ble_eq_true rfl) dX6_ownerOf_166 ?_
                      have e9 : (pX0_hangingsOpenTo u w a1) = (pX6_ownerOf rt sg pw rd u w h r v tu tw su sw g a1 a2) := by simp only [pX6_ownerOf, if_neg c_1, if_neg c_2, if_neg c_3, if_neg c_4, if_neg c_5, if_neg c_6, if_neg c_7, if_neg c_8, if_neg c_9, if_neg c_10]
                      exact W.iret (v := (pX0_hangingsOpenTo u w a1)) hx hb hr (fun t ht hW => ⟨_, rfl, e9, ht⟩) (fun _ h => absurd h List.not_mem_nil) dX6_ownerOf_169
    · refine lv_iconst (v := (-1)) hx hb dX6_ownerOf_17 (by decide) ?_
      have e9 : (-1) = (pX6_ownerOf rt sg pw rd u w h r v tu tw su sw g a1 a2) := by simp only [pX6_ownerOf, if_neg c_1, if_pos c_2]
      exact W.iret (v := (-1)) hx hb hr (fun t ht hW => ⟨_, rfl, e9, ht⟩) (fun _ h => absurd h List.not_mem_nil) dX6_ownerOf_18
theorem bV_X6_ownerOf : BV RX6 yX6_ownerOf cX6_ownerOf 3 (some .int) 2 := ⟨wcd_X6_ownerOf, wim_X6_ownerOf, wse_X6_ownerOf, win_RX6, by decide +kernel⟩
def pX6_whyNotHang (rt : (Nat → Int32)) (sg : (Nat → Nat → Int32)) (pw : (Nat → Int32)) (rd : (Nat → Int32)) (u : (Nat → Nat → Int32)) (w : (Nat → Int32)) (h : (Nat → (Nat → Nat → Int32) × (Nat → Int32))) (r : Nat) (v : (Nat → Int32)) (tu : (Nat → Nat → Int32)) (tw : (Nat → Int32)) (su : (Nat → Nat → Int32)) (sw : (Nat → Int32)) (g : (Nat → Nat → Int32)) (a1 : Int32) (a2 : Int32) : Int32 := (if (pX6_isOwner a1) = 0 then (-1) else (if (pX4_isGangway a2) = 0 then (-1) else (pX0_reasonNotToHang u w a1 a2)))
set_option maxHeartbeats 4000000 in
set_option maxRecDepth 100000 in
theorem kX6_whyNotHang (l : Launch) (D : va_G) (cyC cyI cyO : ClassId) (Z : Nat → Nat) (C : Nat → Nat) (TR : Nat → Nat) (SN : Nat → Nat) (HI : Nat → Nat) (Y : Nat → Nat) (P : Nat → Nat) (R : Nat → Nat) (BB : Nat → Nat → Nat) (rt : (Nat → Int32)) (sg : (Nat → Nat → Int32)) (pw : (Nat → Int32)) (rd : (Nat → Int32)) (u : (Nat → Nat → Int32)) (w : (Nat → Int32)) (h : (Nat → (Nat → Nat → Int32) × (Nat → Int32))) (r : Nat) (v : (Nat → Int32)) (tu : (Nat → Nat → Int32)) (tw : (Nat → Int32)) (su : (Nat → Nat → Int32)) (sw : (Nat → Int32)) (g : (Nat → Nat → Int32)) (a1 : Int32) (a2 : Int32) (hq : (w 12) < 4) : RO l yX6_whyNotHang (Ty yX6_whyNotHang cX6_whyNotHang 3 (some .int)) ({ frames := 4, cells := 0, slots := 0, locals := 92 } : Room) D cyC cyI cyO (List.flatten [wRt Z C TR SN HI Y P R rt, wPd cyC P sg pw, wRd R P rd, wC cyI C u w, wHM cyI cyO HI BB h r v, wC cyI TR tu tw, wC cyI SN su sw, wWy cyI Y g]) [.ref (Z 0), .int a1, .int a2] (pX6_whyNotHang rt sg pw rd u w h r v tu tw su sw g a1 a2) := by
  refine Met.ofW (cc := cX6_whyNotHang) (maxL := 3) (ret := (some .int)) (by decide) rfl ?_
  intro p e s m args below meth cd s₁ B hml hv
  obtain ⟨rfl, hP, hK⟩ := hv
  have hx := B.exec
  have hb := B.bytes
  have hr := B.returns
  have hts : ∀ w ∈ TB, w.before ([.ref (Z 0), .int a1, .int a2] : List Value).toArray s = true := fun w h => atoms_spec (ws := (Ty yX6_whyNotHang cX6_whyNotHang 3 (some .int))) B.pre w (List.mem_cons_of_mem _ h)
  have hown : s.vm.findClass RX6 = some m.cls := findClass_of_methodNamed B.named
  have hlocks := B.notSynchronized
  have hl := lv_entry ([.ref (Z 0), .int a1, .int a2]) (n := 3) (Nat.le_of_ble_eq_true rfl)
  rw [lg_entry_eq]
  generalize (lg_sl ([.ref (Z 0), .int a1, .int a2]) ++ List.replicate (3 - (lg_sl ([.ref (Z 0), .int a1, .int a2])).length) Slot.unset).toArray = ls at hl ⊢
  have hl : lv_has ls 3 [(0, .ref (Z 0)), (1, .int a1), (2, .int a2)] := hl
  refine lv_iload_n hx hb dX6_whyNotHang_0 rfl (lv_at hl 1 rfl) ?_
  refine rS (As := [.int a1]) (rest := []) hx hb hml hown hts hl.1 (kX6_isOwner l D cyC cyI cyO a1) bS_X6_isOwner  wml_RX6_97 ⟨rfl, rfl⟩ ⟨Nat.le_of_ble_eq_true rfl, Nat.le_of_ble_eq_true rfl, Nat.zero_le _, Nat.zero_le _⟩ [] rfl hP hK rfl rfl (Nat.le_of_ble_eq_true rfl) dX6_whyNotHang_1 ?_
  refine lv_if_eq (tgt := 14) hx hb dX6_whyNotHang_4 (by decide) (fun c_1 => ?_) (fun c_1 => ?_)
  · refine lv_iconst (v := (-1)) hx hb dX6_whyNotHang_14 (by decide) ?_
    have e9 : (-1) = (pX6_whyNotHang rt sg pw rd u w h r v tu tw su sw g a1 a2) := by simp only [pX6_whyNotHang, if_pos c_1]
    exact W.iret (v := (-1)) hx hb hr (fun t ht hW => ⟨_, rfl, e9, ht⟩) (fun _ h => absurd h List.not_mem_nil) dX6_whyNotHang_15
  · refine lv_iload_n hx hb dX6_whyNotHang_7 rfl (lv_at hl 2 rfl) ?_
    refine rS (As := [.int a2]) (rest := []) hx hb hml hown hts hl.1 (kX4_isGangway l D cyC cyI cyO a2) bS_X4_isGangway  wml_RX6_52 ⟨rfl, rfl⟩ ⟨Nat.le_of_ble_eq_true rfl, Nat.le_of_ble_eq_true rfl, Nat.zero_le _, Nat.zero_le _⟩ [] rfl hP hK rfl rfl (Nat.le_of_ble_eq_true rfl) dX6_whyNotHang_8 ?_
    refine lv_if_ne (tgt := 16) hx hb dX6_whyNotHang_11 (by decide) (fun c_2 => ?_) (fun c_2 => ?_)
    · refine lv_aload_n hx hb dX6_whyNotHang_16 rfl (lv_at hl 0 rfl) ?_
      refine va_get (D := D) (ci := 5) (v := .ref (C 0)) (C := RX6) (T := TX6) (N := 12) hx hb hts inT_X6 hown hK.1 hP 0 rfl rfl 0 (by decide) (hts _ wfl_RX6_10) (fun _ h9 => h9) rfl dX6_whyNotHang_17 ?_
      refine lv_iload_n hx hb dX6_whyNotHang_20 rfl (lv_at hl 1 rfl) ?_
      refine lv_iload_n hx hb dX6_whyNotHang_21 rfl (lv_at hl 2 rfl) ?_
      refine rVB (bl := [wRt Z C TR SN HI Y P R rt, wPd cyC P sg pw, wRd R P rd, wC cyI C u w, wHM cyI cyO HI BB h r v, wC cyI TR tu tw, wC cyI SN su sw, wWy cyI Y g]) (WSb := [wC cyI C u w]) (As := [.int a1, .int a2]) (rest := []) hx hb hml hown hts hl.1 (kX0_reasonNotToHang l D cyC cyI cyO C u w a1 a2 (io_in c_1) (ig_in c_2) hq) bV_X0_reasonNotToHang wml_RX6_235 ⟨rfl, rfl⟩ ⟨Nat.le_of_ble_eq_true rfl, Nat.le_of_ble_eq_true rfl, Nat.zero_le _, Nat.zero_le _⟩ [3] (by simp only [List.flatten_cons, List.flatten_nil, List.append_nil]) rfl hP hK 0 rfl rfl rfl rfl rfl (Nat.le_of_ble_eq_true rfl) dX6_whyNotHang_22 ?_
      have e9 : (pX0_reasonNotToHang u w a1 a2) = (pX6_whyNotHang rt sg pw rd u w h r v tu tw su sw g a1 a2) := by simp only [pX6_whyNotHang, if_neg c_1, if_neg c_2]
      exact W.iret (v := (pX0_reasonNotToHang u w a1 a2)) hx hb hr (fun t ht hW => ⟨_, rfl, e9, ht⟩) (fun _ h => absurd h List.not_mem_nil) dX6_whyNotHang_25
    · refine lv_iconst (v := (-1)) hx hb dX6_whyNotHang_14 (by decide) ?_
      have e9 : (-1) = (pX6_whyNotHang rt sg pw rd u w h r v tu tw su sw g a1 a2) := by simp only [pX6_whyNotHang, if_neg c_1, if_pos c_2]
      exact W.iret (v := (-1)) hx hb hr (fun t ht hW => ⟨_, rfl, e9, ht⟩) (fun _ h => absurd h List.not_mem_nil) dX6_whyNotHang_15
theorem bV_X6_whyNotHang : BV RX6 yX6_whyNotHang cX6_whyNotHang 3 (some .int) 2 := ⟨wcd_X6_whyNotHang, wim_X6_whyNotHang, wse_X6_whyNotHang, win_RX6, by decide +kernel⟩
def pX6_strongest (rt : (Nat → Int32)) (sg : (Nat → Nat → Int32)) (pw : (Nat → Int32)) (rd : (Nat → Int32)) (u : (Nat → Nat → Int32)) (w : (Nat → Int32)) (h : (Nat → (Nat → Nat → Int32) × (Nat → Int32))) (r : Nat) (v : (Nat → Int32)) (tu : (Nat → Nat → Int32)) (tw : (Nat → Int32)) (su : (Nat → Nat → Int32)) (sw : (Nat → Int32)) (g : (Nat → Nat → Int32)) (a1 : Int32) (a2 : Int32) (a3 : Int32) : Int32 × (Nat → Nat → Int32) := (if (pX6_isRoof a1) = 0 then ((-1), g) else (if (pX6_isRoof a2) = 0 then ((-1), g) else (if (pX6_isWithin a3 0 1) = 0 then ((-1), g) else (if a3 = 0 then ((pX5_strongestByJoining g u w a1 a2).1, (pX5_strongestByJoining g u w a1 a2).2) else ((pX5_strongestBySpreading g u w a1 a2).1, (pX5_strongestBySpreading g u w a1 a2).2)))))
set_option maxHeartbeats 4000000 in
set_option maxRecDepth 100000 in
theorem kX6_strongest (l : Launch) (D : va_G) (cyC cyI cyO : ClassId) (Z : Nat → Nat) (C : Nat → Nat) (TR : Nat → Nat) (SN : Nat → Nat) (HI : Nat → Nat) (Y : Nat → Nat) (P : Nat → Nat) (R : Nat → Nat) (BB : Nat → Nat → Nat) (rt : (Nat → Int32)) (sg : (Nat → Nat → Int32)) (pw : (Nat → Int32)) (rd : (Nat → Int32)) (u : (Nat → Nat → Int32)) (w : (Nat → Int32)) (h : (Nat → (Nat → Nat → Int32) × (Nat → Int32))) (r : Nat) (v : (Nat → Int32)) (tu : (Nat → Nat → Int32)) (tw : (Nat → Int32)) (su : (Nat → Nat → Int32)) (sw : (Nat → Int32)) (g : (Nat → Nat → Int32)) (a1 : Int32) (a2 : Int32) (a3 : Int32) : MU l yX6_strongest (Ty yX6_strongest cX6_strongest 4 (some .int)) ({ frames := 4, cells := 0, slots := 0, locals := 94 } : Room) D cyC cyI cyO (List.flatten [wRt Z C TR SN HI Y P R rt, wPd cyC P sg pw, wRd R P rd, wC cyI C u w, wHM cyI cyO HI BB h r v, wC cyI TR tu tw, wC cyI SN su sw, wWy cyI Y g]) [.ref (Z 0), .int a1, .int a2, .int a3] (some (.int (pX6_strongest rt sg pw rd u w h r v tu tw su sw g a1 a2 a3).1)) (List.flatten [wRt Z C TR SN HI Y P R rt, wPd cyC P sg pw, wRd R P rd, wC cyI C u w, wHM cyI cyO HI BB h r v, wC cyI TR tu tw, wC cyI SN su sw, wWy cyI Y (pX6_strongest rt sg pw rd u w h r v tu tw su sw g a1 a2 a3).2]) := by
  intro sz
  refine Met.ofW (cc := cX6_strongest) (maxL := 4) (ret := (some .int)) (by decide) rfl ?_
  intro p e s m args below meth cd s₁ B hml hv
  obtain ⟨rfl, hsz, hP, hK, hD0⟩ := hv
  have hx := B.exec
  have hb := B.bytes
  have hr := B.returns
  have hts : ∀ w ∈ TB, w.before ([.ref (Z 0), .int a1, .int a2, .int a3] : List Value).toArray s = true := fun w h => atoms_spec (ws := (Ty yX6_strongest cX6_strongest 4 (some .int))) B.pre w (List.mem_cons_of_mem _ h)
  have hown : s.vm.findClass RX6 = some m.cls := findClass_of_methodNamed B.named
  have hlocks := B.notSynchronized
  subst hsz
  have hD := hD0.self (sz := s.heap.size)
  have hA : ∀ q : Nat, s.heap.size ≤ q → (va_A (List.flatten [wRt Z C TR SN HI Y P R rt, wPd cyC P sg pw, wRd R P rd, wC cyI C u w, wHM cyI cyO HI BB h r v, wC cyI TR tu tw, wC cyI SN su sw, wWy cyI Y g]) s.heap.size) q := fun q h => Or.inr h
  generalize hAe : va_A (List.flatten [wRt Z C TR SN HI Y P R rt, wPd cyC P sg pw, wRd R P rd, wC cyI C u w, wHM cyI cyO HI BB h r v, wC cyI TR tu tw, wC cyI SN su sw, wWy cyI Y g]) s.heap.size = A0 at hD hA ⊢
  have hS : va_S A0 s.heap s.heap [] := va_S.rf
  have hl := lv_entry ([.ref (Z 0), .int a1, .int a2, .int a3]) (n := 4) (Nat.le_of_ble_eq_true rfl)
  rw [lg_entry_eq]
  generalize (lg_sl ([.ref (Z 0), .int a1, .int a2, .int a3]) ++ List.replicate (4 - (lg_sl ([.ref (Z 0), .int a1, .int a2, .int a3])).length) Slot.unset).toArray = ls at hl ⊢
  have hl : lv_has ls 4 [(0, .ref (Z 0)), (1, .int a1), (2, .int a2), (3, .int a3)] := hl
  refine lv_iload_n hx hb dX6_strongest_0 rfl (lv_at hl 1 rfl) ?_
  refine rS (As := [.int a1]) (rest := []) hx hb hml hown hts hl.1 (kX6_isRoof l D cyC cyI cyO a1) bS_X6_isRoof  wml_RX6_78 ⟨rfl, rfl⟩ ⟨Nat.le_of_ble_eq_true rfl, Nat.le_of_ble_eq_true rfl, Nat.zero_le _, Nat.zero_le _⟩ [] rfl hP hK rfl rfl (Nat.le_of_ble_eq_true rfl) dX6_strongest_1 ?_
  refine lv_if_eq (tgt := 23) hx hb dX6_strongest_4 (by decide) (fun c_1 => ?_) (fun c_1 => ?_)
  · refine lv_iconst (v := (-1)) hx hb dX6_strongest_23 (by decide) ?_
    have e9 : (pX6_strongest rt sg pw rd u w h r v tu tw su sw g a1 a2 a3) = ((-1), g) := by simp only [pX6_strongest, if_pos c_1]
    have e9_0 : (pX6_strongest rt sg pw rd u w h r v tu tw su sw g a1 a2 a3).1 = (-1) := by rw [e9]
    have e9_1 : (pX6_strongest rt sg pw rd u w h r v tu tw su sw g a1 a2 a3).2 = g := by rw [e9]
    exact W.iret (v := (-1)) hx hb hr (fun t ht hW => ⟨⟨by rw [e9_0], by rw [e9_1, ht]; exact hP⟩, hS.F ht⟩) hS.2.2 dX6_strongest_24
  · refine lv_iload_n hx hb dX6_strongest_7 rfl (lv_at hl 2 rfl) ?_
    refine rS (As := [.int a2]) (rest := []) hx hb hml hown hts hl.1 (kX6_isRoof l D cyC cyI cyO a2) bS_X6_isRoof  wml_RX6_78 ⟨rfl, rfl⟩ ⟨Nat.le_of_ble_eq_true rfl, Nat.le_of_ble_eq_true rfl, Nat.zero_le _, Nat.zero_le _⟩ [] rfl hP hK rfl rfl (Nat.le_of_ble_eq_true rfl) dX6_strongest_8 ?_
    refine lv_if_eq (tgt := 23) hx hb dX6_strongest_11 (by decide) (fun c_2 => ?_) (fun c_2 => ?_)
    · refine lv_iconst (v := (-1)) hx hb dX6_strongest_23 (by decide) ?_
      have e9 : (pX6_strongest rt sg pw rd u w h r v tu tw su sw g a1 a2 a3) = ((-1), g) := by simp only [pX6_strongest, if_neg c_1, if_pos c_2]
      have e9_0 : (pX6_strongest rt sg pw rd u w h r v tu tw su sw g a1 a2 a3).1 = (-1) := by rw [e9]
      have e9_1 : (pX6_strongest rt sg pw rd u w h r v tu tw su sw g a1 a2 a3).2 = g := by rw [e9]
      exact W.iret (v := (-1)) hx hb hr (fun t ht hW => ⟨⟨by rw [e9_0], by rw [e9_1, ht]; exact hP⟩, hS.F ht⟩) hS.2.2 dX6_strongest_24
    · refine lv_iload_n hx hb dX6_strongest_14 rfl (lv_at hl 3 rfl) ?_
      refine lv_iconst (v := 0) hx hb dX6_strongest_15 (by decide) ?_
      refine lv_iconst (v := 1) hx hb dX6_strongest_16 (by decide) ?_
      refine rS (As := [.int a3, .int 0, .int 1]) (rest := []) hx hb hml hown hts hl.1 (kX6_isWithin l D cyC cyI cyO a3 0 1) bS_X6_isWithin  wml_RX6_58 ⟨rfl, rfl⟩ ⟨Nat.le_of_ble_eq_true rfl, Nat.le_of_ble_eq_true rfl, Nat.zero_le _, Nat.zero_le _⟩ [] rfl hP hK rfl rfl (Nat.le_of_ble_eq_true rfl) dX6_strongest_17 ?_
      refine lv_if_ne (tgt := 25) hx hb dX6_strongest_20 (by decide) (fun c_3 => ?_) (fun c_3 => ?_)
      · refine lv_iload_n hx hb dX6_strongest_25 rfl (lv_at hl 3 rfl) ?_
        refine lv_if_ne (tgt := 45) hx hb dX6_strongest_26 (by decide) (fun c_4 => ?_) (fun c_4 => ?_)
        · refine lv_aload_n hx hb dX6_strongest_45 rfl (lv_at hl 0 rfl) ?_
          refine va_get (D := D) (ci := 5) (v := .ref (Y 0)) (C := RX6) (T := TX6) (N := 12) hx hb hts inT_X6 hown hK.1 hP 0 rfl rfl 5 (by decide) (hts _ wfl_RX6_32) (fun _ h9 => h9) rfl dX6_strongest_46 ?_
          refine lv_aload_n hx hb dX6_strongest_49 rfl (lv_at hl 0 rfl) ?_
          refine va_get (D := D) (ci := 5) (v := .ref (C 0)) (C := RX6) (T := TX6) (N := 12) hx hb hts inT_X6 hown hK.1 hP 0 rfl rfl 0 (by decide) (hts _ wfl_RX6_10) (fun _ h9 => h9) rfl dX6_strongest_50 ?_
          refine lv_iload_n hx hb dX6_strongest_53 rfl (lv_at hl 1 rfl) ?_
          refine lv_iload_n hx hb dX6_strongest_54 rfl (lv_at hl 2 rfl) ?_
          obtain ⟨z_5, hz_5⟩ : ∃ q, q = (pX5_strongestBySpreading g u w a1 a2) := ⟨_, rfl⟩
          refine mVB (bl := [wRt Z C TR SN HI Y P R rt, wPd cyC P sg pw, wRd R P rd, wC cyI C u w, wHM cyI cyO HI BB h r v, wC cyI TR tu tw, wC cyI SN su sw, wWy cyI Y g]) (bl' := [wRt Z C TR SN HI Y P R rt, wPd cyC P sg pw, wRd R P rd, wC cyI C u w, wHM cyI cyO HI BB h r v, wC cyI TR tu tw, wC cyI SN su sw, wWy cyI Y z_5.2]) (WSb := [wWy cyI Y g, wC cyI C u w]) (WSb' := [wWy cyI Y z_5.2, wC cyI C u w]) (As := [.ref (C 0), .int a1, .int a2]) (rest := []) hx hb hml hown hts hl.1 (WS := (wWy cyI Y g ++ (wC cyI C u w))) (WS' := (wWy cyI Y z_5.2 ++ (wC cyI C u w))) (ro := (some (.int z_5.1))) (by rw [hz_5]; exact kX5_strongestBySpreading l D cyC cyI cyO Y C g u w a1 a2 (ir_in c_1) (ir_in c_2)) bV_X5_strongestBySpreading wml_RX6_242 ⟨rfl, rfl⟩ ⟨Nat.le_of_ble_eq_true rfl, Nat.le_of_ble_eq_true rfl, Nat.zero_le _, Nat.zero_le _⟩ [7, 3] (by simp only [List.flatten_cons, List.flatten_nil, List.append_nil]) (by simp only [List.flatten_cons, List.flatten_nil, List.append_nil]) rfl rfl rfl rfl rfl hP hD hS hA hK 0 rfl rfl rfl rfl rfl (Nat.le_of_ble_eq_true rfl) dX6_strongest_55 (fun H locs hP hD hS => ?_)
          have e9 : (pX6_strongest rt sg pw rd u w h r v tu tw su sw g a1 a2 a3) = (z_5.1, z_5.2) := by simp only [pX6_strongest, ← hz_5, if_neg c_1, if_neg c_2, if_neg c_3, if_neg c_4]
          have e9_0 : (pX6_strongest rt sg pw rd u w h r v tu tw su sw g a1 a2 a3).1 = z_5.1 := by rw [e9]
          have e9_1 : (pX6_strongest rt sg pw rd u w h r v tu tw su sw g a1 a2 a3).2 = z_5.2 := by rw [e9]
          exact W.iret (v := z_5.1) hx hb hr (fun t ht hW => ⟨⟨by rw [e9_0], by rw [e9_1, ht]; exact hP⟩, hS.F ht⟩) hS.2.2 dX6_strongest_58
        · refine lv_aload_n hx hb dX6_strongest_29 rfl (lv_at hl 0 rfl) ?_
          refine va_get (D := D) (ci := 5) (v := .ref (Y 0)) (C := RX6) (T := TX6) (N := 12) hx hb hts inT_X6 hown hK.1 hP 0 rfl rfl 5 (by decide) (hts _ wfl_RX6_32) (fun _ h9 => h9) rfl dX6_strongest_30 ?_
          refine lv_aload_n hx hb dX6_strongest_33 rfl (lv_at hl 0 rfl) ?_
          refine va_get (D := D) (ci := 5) (v := .ref (C 0)) (C := RX6) (T := TX6) (N := 12) hx hb hts inT_X6 hown hK.1 hP 0 rfl rfl 0 (by decide) (hts _ wfl_RX6_10) (fun _ h9 => h9) rfl dX6_strongest_34 ?_
          refine lv_iload_n hx hb dX6_strongest_37 rfl (lv_at hl 1 rfl) ?_
          refine lv_iload_n hx hb dX6_strongest_38 rfl (lv_at hl 2 rfl) ?_
          obtain ⟨z_6, hz_6⟩ : ∃ q, q = (pX5_strongestByJoining g u w a1 a2) := ⟨_, rfl⟩
          refine mVB (bl := [wRt Z C TR SN HI Y P R rt, wPd cyC P sg pw, wRd R P rd, wC cyI C u w, wHM cyI cyO HI BB h r v, wC cyI TR tu tw, wC cyI SN su sw, wWy cyI Y g]) (bl' := [wRt Z C TR SN HI Y P R rt, wPd cyC P sg pw, wRd R P rd, wC cyI C u w, wHM cyI cyO HI BB h r v, wC cyI TR tu tw, wC cyI SN su sw, wWy cyI Y z_6.2]) (WSb := [wWy cyI Y g, wC cyI C u w]) (WSb' := [wWy cyI Y z_6.2, wC cyI C u w]) (As := [.ref (C 0), .int a1, .int a2]) (rest := []) hx hb hml hown hts hl.1 (WS := (wWy cyI Y g ++ (wC cyI C u w))) (WS' := (wWy cyI Y z_6.2 ++ (wC cyI C u w))) (ro := (some (.int z_6.1))) (by rw [hz_6]; exact kX5_strongestByJoining l D cyC cyI cyO Y C g u w a1 a2 (ir_in c_1) (ir_in c_2)) bV_X5_strongestByJoining wml_RX6_238 ⟨rfl, rfl⟩ ⟨Nat.le_of_ble_eq_true rfl, Nat.le_of_ble_eq_true rfl, Nat.zero_le _, Nat.zero_le _⟩ [7, 3] (by simp only [List.flatten_cons, List.flatten_nil, List.append_nil]) (by simp only [List.flatten_cons, List.flatten_nil, List.append_nil]) rfl rfl rfl rfl rfl hP hD hS hA hK 0 rfl rfl rfl rfl rfl (Nat.le_of_ble_eq_true rfl) dX6_strongest_39 (fun H locs hP hD hS => ?_)
          refine lv_goto (tgt := 58) hx hb dX6_strongest_42 (by decide) ?_
          have e9 : (pX6_strongest rt sg pw rd u w h r v tu tw su sw g a1 a2 a3) = (z_6.1, z_6.2) := by simp only [pX6_strongest, ← hz_6, if_neg c_1, if_neg c_2, if_neg c_3, if_pos c_4]
          have e9_0 : (pX6_strongest rt sg pw rd u w h r v tu tw su sw g a1 a2 a3).1 = z_6.1 := by rw [e9]
          have e9_1 : (pX6_strongest rt sg pw rd u w h r v tu tw su sw g a1 a2 a3).2 = z_6.2 := by rw [e9]
          exact W.iret (v := z_6.1) hx hb hr (fun t ht hW => ⟨⟨by rw [e9_0], by rw [e9_1, ht]; exact hP⟩, hS.F ht⟩) hS.2.2 dX6_strongest_58
      · refine lv_iconst (v := (-1)) hx hb dX6_strongest_23 (by decide) ?_
        have e9 : (pX6_strongest rt sg pw rd u w h r v tu tw su sw g a1 a2 a3) = ((-1), g) := by simp only [pX6_strongest, if_neg c_1, if_neg c_2, if_pos c_3]
        have e9_0 : (pX6_strongest rt sg pw rd u w h r v tu tw su sw g a1 a2 a3).1 = (-1) := by rw [e9]
        have e9_1 : (pX6_strongest rt sg pw rd u w h r v tu tw su sw g a1 a2 a3).2 = g := by rw [e9]
        exact W.iret (v := (-1)) hx hb hr (fun t ht hW => ⟨⟨by rw [e9_0], by rw [e9_1, ht]; exact hP⟩, hS.F ht⟩) hS.2.2 dX6_strongest_24
theorem bV_X6_strongest : BV RX6 yX6_strongest cX6_strongest 4 (some .int) 3 := ⟨wcd_X6_strongest, wim_X6_strongest, wse_X6_strongest, win_RX6, by decide +kernel⟩
def pX6_steps (rt : (Nat → Int32)) (sg : (Nat → Nat → Int32)) (pw : (Nat → Int32)) (rd : (Nat → Int32)) (u : (Nat → Nat → Int32)) (w : (Nat → Int32)) (h : (Nat → (Nat → Nat → Int32) × (Nat → Int32))) (r : Nat) (v : (Nat → Int32)) (tu : (Nat → Nat → Int32)) (tw : (Nat → Int32)) (su : (Nat → Nat → Int32)) (sw : (Nat → Int32)) (g : (Nat → Nat → Int32)) (a1 : Int32) (a2 : Int32) : Int32 := (if (pX6_isOwner a1) = 0 then (-1) else (if (pX6_isRoof a2) = 0 then (-1) else (pX5_fewestWalks g u w a1 a2)))
set_option maxHeartbeats 4000000 in
set_option maxRecDepth 100000 in
theorem kX6_steps (l : Launch) (D : va_G) (cyC cyI cyO : ClassId) (Z : Nat → Nat) (C : Nat → Nat) (TR : Nat → Nat) (SN : Nat → Nat) (HI : Nat → Nat) (Y : Nat → Nat) (P : Nat → Nat) (R : Nat → Nat) (BB : Nat → Nat → Nat) (rt : (Nat → Int32)) (sg : (Nat → Nat → Int32)) (pw : (Nat → Int32)) (rd : (Nat → Int32)) (u : (Nat → Nat → Int32)) (w : (Nat → Int32)) (h : (Nat → (Nat → Nat → Int32) × (Nat → Int32))) (r : Nat) (v : (Nat → Int32)) (tu : (Nat → Nat → Int32)) (tw : (Nat → Int32)) (su : (Nat → Nat → Int32)) (sw : (Nat → Int32)) (g : (Nat → Nat → Int32)) (a1 : Int32) (a2 : Int32) : RO l yX6_steps (Ty yX6_steps cX6_steps 3 (some .int)) ({ frames := 4, cells := 0, slots := 0, locals := 96 } : Room) D cyC cyI cyO (List.flatten [wRt Z C TR SN HI Y P R rt, wPd cyC P sg pw, wRd R P rd, wC cyI C u w, wHM cyI cyO HI BB h r v, wC cyI TR tu tw, wC cyI SN su sw, wWy cyI Y g]) [.ref (Z 0), .int a1, .int a2] (pX6_steps rt sg pw rd u w h r v tu tw su sw g a1 a2) := by
  refine Met.ofW (cc := cX6_steps) (maxL := 3) (ret := (some .int)) (by decide) rfl ?_
  intro p e s m args below meth cd s₁ B hml hv
  obtain ⟨rfl, hP, hK⟩ := hv
  have hx := B.exec
  have hb := B.bytes
  have hr := B.returns
  have hts : ∀ w ∈ TB, w.before ([.ref (Z 0), .int a1, .int a2] : List Value).toArray s = true := fun w h => atoms_spec (ws := (Ty yX6_steps cX6_steps 3 (some .int))) B.pre w (List.mem_cons_of_mem _ h)
  have hown : s.vm.findClass RX6 = some m.cls := findClass_of_methodNamed B.named
  have hlocks := B.notSynchronized
  have hl := lv_entry ([.ref (Z 0), .int a1, .int a2]) (n := 3) (Nat.le_of_ble_eq_true rfl)
  rw [lg_entry_eq]
  generalize (lg_sl ([.ref (Z 0), .int a1, .int a2]) ++ List.replicate (3 - (lg_sl ([.ref (Z 0), .int a1, .int a2])).length) Slot.unset).toArray = ls at hl ⊢
  have hl : lv_has ls 3 [(0, .ref (Z 0)), (1, .int a1), (2, .int a2)] := hl
  refine lv_iload_n hx hb dX6_steps_0 rfl (lv_at hl 1 rfl) ?_
  refine rS (As := [.int a1]) (rest := []) hx hb hml hown hts hl.1 (kX6_isOwner l D cyC cyI cyO a1) bS_X6_isOwner  wml_RX6_97 ⟨rfl, rfl⟩ ⟨Nat.le_of_ble_eq_true rfl, Nat.le_of_ble_eq_true rfl, Nat.zero_le _, Nat.zero_le _⟩ [] rfl hP hK rfl rfl (Nat.le_of_ble_eq_true rfl) dX6_steps_1 ?_
  refine lv_if_eq (tgt := 14) hx hb dX6_steps_4 (by decide) (fun c_1 => ?_) (fun c_1 => ?_)
  · refine lv_iconst (v := (-1)) hx hb dX6_steps_14 (by decide) ?_
    have e9 : (-1) = (pX6_steps rt sg pw rd u w h r v tu tw su sw g a1 a2) := by simp only [pX6_steps, if_pos c_1]
    exact W.iret (v := (-1)) hx hb hr (fun t ht hW => ⟨_, rfl, e9, ht⟩) (fun _ h => absurd h List.not_mem_nil) dX6_steps_15
  · refine lv_iload_n hx hb dX6_steps_7 rfl (lv_at hl 2 rfl) ?_
    refine rS (As := [.int a2]) (rest := []) hx hb hml hown hts hl.1 (kX6_isRoof l D cyC cyI cyO a2) bS_X6_isRoof  wml_RX6_78 ⟨rfl, rfl⟩ ⟨Nat.le_of_ble_eq_true rfl, Nat.le_of_ble_eq_true rfl, Nat.zero_le _, Nat.zero_le _⟩ [] rfl hP hK rfl rfl (Nat.le_of_ble_eq_true rfl) dX6_steps_8 ?_
    refine lv_if_ne (tgt := 16) hx hb dX6_steps_11 (by decide) (fun c_2 => ?_) (fun c_2 => ?_)
    · refine lv_aload_n hx hb dX6_steps_16 rfl (lv_at hl 0 rfl) ?_
      refine va_get (D := D) (ci := 5) (v := .ref (Y 0)) (C := RX6) (T := TX6) (N := 12) hx hb hts inT_X6 hown hK.1 hP 0 rfl rfl 5 (by decide) (hts _ wfl_RX6_32) (fun _ h9 => h9) rfl dX6_steps_17 ?_
      refine lv_aload_n hx hb dX6_steps_20 rfl (lv_at hl 0 rfl) ?_
      refine va_get (D := D) (ci := 5) (v := .ref (C 0)) (C := RX6) (T := TX6) (N := 12) hx hb hts inT_X6 hown hK.1 hP 0 rfl rfl 0 (by decide) (hts _ wfl_RX6_10) (fun _ h9 => h9) rfl dX6_steps_21 ?_
      refine lv_iload_n hx hb dX6_steps_24 rfl (lv_at hl 1 rfl) ?_
      refine lv_iload_n hx hb dX6_steps_25 rfl (lv_at hl 2 rfl) ?_
      refine rVB (bl := [wRt Z C TR SN HI Y P R rt, wPd cyC P sg pw, wRd R P rd, wC cyI C u w, wHM cyI cyO HI BB h r v, wC cyI TR tu tw, wC cyI SN su sw, wWy cyI Y g]) (WSb := [wWy cyI Y g, wC cyI C u w]) (As := [.ref (C 0), .int a1, .int a2]) (rest := []) hx hb hml hown hts hl.1 (kX5_fewestWalks l D cyC cyI cyO Y C g u w a1 a2 (io_in c_1)) bV_X5_fewestWalks wml_RX6_245 ⟨rfl, rfl⟩ ⟨Nat.le_of_ble_eq_true rfl, Nat.le_of_ble_eq_true rfl, Nat.zero_le _, Nat.zero_le _⟩ [7, 3] (by simp only [List.flatten_cons, List.flatten_nil, List.append_nil]) rfl hP hK 0 rfl rfl rfl rfl rfl (Nat.le_of_ble_eq_true rfl) dX6_steps_26 ?_
      have e9 : (pX5_fewestWalks g u w a1 a2) = (pX6_steps rt sg pw rd u w h r v tu tw su sw g a1 a2) := by simp only [pX6_steps, if_neg c_1, if_neg c_2]
      exact W.iret (v := (pX5_fewestWalks g u w a1 a2)) hx hb hr (fun t ht hW => ⟨_, rfl, e9, ht⟩) (fun _ h => absurd h List.not_mem_nil) dX6_steps_29
    · refine lv_iconst (v := (-1)) hx hb dX6_steps_14 (by decide) ?_
      have e9 : (-1) = (pX6_steps rt sg pw rd u w h r v tu tw su sw g a1 a2) := by simp only [pX6_steps, if_neg c_1, if_pos c_2]
      exact W.iret (v := (-1)) hx hb hr (fun t ht hW => ⟨_, rfl, e9, ht⟩) (fun _ h => absurd h List.not_mem_nil) dX6_steps_15
theorem bV_X6_steps : BV RX6 yX6_steps cX6_steps 3 (some .int) 2 := ⟨wcd_X6_steps, wim_X6_steps, wse_X6_steps, win_RX6, by decide +kernel⟩
def pX6_count (rt : (Nat → Int32)) (sg : (Nat → Nat → Int32)) (pw : (Nat → Int32)) (rd : (Nat → Int32)) (u : (Nat → Nat → Int32)) (w : (Nat → Int32)) (h : (Nat → (Nat → Nat → Int32) × (Nat → Int32))) (r : Nat) (v : (Nat → Int32)) (tu : (Nat → Nat → Int32)) (tw : (Nat → Int32)) (su : (Nat → Nat → Int32)) (sw : (Nat → Int32)) (g : (Nat → Nat → Int32)) (a1 : Int32) : Int32 := (if (pX6_isWithin a1 0 17) = 0 then (-1) else (if a1 = 16 then (pw 1) else (if a1 = 17 then (v 1) else (if 10 ≤ a1 then (pX0_numberSoFar u w a1) else (pX0_numberOfNow u w a1)))))
set_option maxHeartbeats 4000000 in
set_option maxRecDepth 100000 in
theorem kX6_count (l : Launch) (D : va_G) (cyC cyI cyO : ClassId) (Z : Nat → Nat) (C : Nat → Nat) (TR : Nat → Nat) (SN : Nat → Nat) (HI : Nat → Nat) (Y : Nat → Nat) (P : Nat → Nat) (R : Nat → Nat) (BB : Nat → Nat → Nat) (rt : (Nat → Int32)) (sg : (Nat → Nat → Int32)) (pw : (Nat → Int32)) (rd : (Nat → Int32)) (u : (Nat → Nat → Int32)) (w : (Nat → Int32)) (h : (Nat → (Nat → Nat → Int32) × (Nat → Int32))) (r : Nat) (v : (Nat → Int32)) (tu : (Nat → Nat → Int32)) (tw : (Nat → Int32)) (su : (Nat → Nat → Int32)) (sw : (Nat → Int32)) (g : (Nat → Nat → Int32)) (a1 : Int32) (hq : (w 12) < 4) : RO l yX6_count (Ty yX6_count cX6_count 2 (some .int)) ({ frames := 5, cells := 0, slots := 0, locals := 114 } : Room) D cyC cyI cyO (List.flatten [wRt Z C TR SN HI Y P R rt, wPd cyC P sg pw, wRd R P rd, wC cyI C u w, wHM cyI cyO HI BB h r v, wC cyI TR tu tw, wC cyI SN su sw, wWy cyI Y g]) [.ref (Z 0), .int a1] (pX6_count rt sg pw rd u w h r v tu tw su sw g a1) := by
  refine Met.ofW (cc := cX6_count) (maxL := 2) (ret := (some .int)) (by decide) rfl ?_
  intro p e s m args below meth cd s₁ B hml hv
  obtain ⟨rfl, hP, hK⟩ := hv
  have hx := B.exec
  have hb := B.bytes
  have hr := B.returns
  have hts : ∀ w ∈ TB, w.before ([.ref (Z 0), .int a1] : List Value).toArray s = true := fun w h => atoms_spec (ws := (Ty yX6_count cX6_count 2 (some .int))) B.pre w (List.mem_cons_of_mem _ h)
  have hown : s.vm.findClass RX6 = some m.cls := findClass_of_methodNamed B.named
  have hlocks := B.notSynchronized
  have hl := lv_entry ([.ref (Z 0), .int a1]) (n := 2) (Nat.le_of_ble_eq_true rfl)
  rw [lg_entry_eq]
  generalize (lg_sl ([.ref (Z 0), .int a1]) ++ List.replicate (2 - (lg_sl ([.ref (Z 0), .int a1])).length) Slot.unset).toArray = ls at hl ⊢
  have hl : lv_has ls 2 [(0, .ref (Z 0)), (1, .int a1)] := hl
  refine lv_iload_n hx hb dX6_count_0 rfl (lv_at hl 1 rfl) ?_
  refine lv_iconst (v := 0) hx hb dX6_count_1 (by decide) ?_
  refine lv_bipush (v := 17) hx hb dX6_count_2 (by decide) ?_
  refine rS (As := [.int a1, .int 0, .int 17]) (rest := []) hx hb hml hown hts hl.1 (kX6_isWithin l D cyC cyI cyO a1 0 17) bS_X6_isWithin  wml_RX6_58 ⟨rfl, rfl⟩ ⟨Nat.le_of_ble_eq_true rfl, Nat.le_of_ble_eq_true rfl, Nat.zero_le _, Nat.zero_le _⟩ [] rfl hP hK rfl rfl (Nat.le_of_ble_eq_true rfl) dX6_count_4 ?_
  refine lv_if_ne (tgt := 12) hx hb dX6_count_7 (by decide) (fun c_1 => ?_) (fun c_1 => ?_)
  · refine lv_iload_n hx hb dX6_count_12 rfl (lv_at hl 1 rfl) ?_
    refine lv_bipush (v := 16) hx hb dX6_count_13 (by decide) ?_
    refine lv_icmp_ne (tgt := 26) hx hb dX6_count_15 (by decide) (fun c_2 => ?_) (fun c_2 => ?_)
    · refine lv_iload_n hx hb dX6_count_26 rfl (lv_at hl 1 rfl) ?_
      refine lv_bipush (v := 17) hx hb dX6_count_27 (by decide) ?_
      refine lv_icmp_ne (tgt := 40) hx hb dX6_count_29 (by decide) (fun c_3 => ?_) (fun c_3 => ?_)
      · refine lv_iload_n hx hb dX6_count_40 rfl (lv_at hl 1 rfl) ?_
        refine lv_bipush (v := 10) hx hb dX6_count_41 (by decide) ?_
        refine lv_icmp_ge (tgt := 57) hx hb dX6_count_43 (by decide) (fun c_4 => ?_) (fun c_4 => ?_)
        · refine lv_aload_n hx hb dX6_count_57 rfl (lv_at hl 0 rfl) ?_
          refine va_get (D := D) (ci := 5) (v := .ref (C 0)) (C := RX6) (T := TX6) (N := 12) hx hb hts inT_X6 hown hK.1 hP 0 rfl rfl 0 (by decide) (hts _ wfl_RX6_10) (fun _ h9 => h9) rfl dX6_count_58 ?_
          refine lv_iload_n hx hb dX6_count_61 rfl (lv_at hl 1 rfl) ?_
          refine rVB (bl := [wRt Z C TR SN HI Y P R rt, wPd cyC P sg pw, wRd R P rd, wC cyI C u w, wHM cyI cyO HI BB h r v, wC cyI TR tu tw, wC cyI SN su sw, wWy cyI Y g]) (WSb := [wC cyI C u w]) (As := [.int a1]) (rest := []) hx hb hml hown hts hl.1 (kX0_numberSoFar l D cyC cyI cyO C u w a1) bV_X0_numberSoFar wml_RX6_254 ⟨rfl, rfl⟩ ⟨Nat.le_of_ble_eq_true rfl, Nat.le_of_ble_eq_true rfl, Nat.zero_le _, Nat.zero_le _⟩ [3] (by simp only [List.flatten_cons, List.flatten_nil, List.append_nil]) rfl hP hK 0 rfl rfl rfl rfl rfl (Nat.le_of_ble_eq_true rfl) dX6_count_62 ?_
          have e9 : (pX0_numberSoFar u w a1) = (pX6_count rt sg pw rd u w h r v tu tw su sw g a1) := by simp only [pX6_count, if_neg c_1, if_neg c_2, if_neg c_3, if_pos c_4]
          exact W.iret (v := (pX0_numberSoFar u w a1)) hx hb hr (fun t ht hW => ⟨_, rfl, e9, ht⟩) (fun _ h => absurd h List.not_mem_nil) dX6_count_65
        · refine lv_aload_n hx hb dX6_count_46 rfl (lv_at hl 0 rfl) ?_
          refine va_get (D := D) (ci := 5) (v := .ref (C 0)) (C := RX6) (T := TX6) (N := 12) hx hb hts inT_X6 hown hK.1 hP 0 rfl rfl 0 (by decide) (hts _ wfl_RX6_10) (fun _ h9 => h9) rfl dX6_count_47 ?_
          refine lv_iload_n hx hb dX6_count_50 rfl (lv_at hl 1 rfl) ?_
          refine rVB (bl := [wRt Z C TR SN HI Y P R rt, wPd cyC P sg pw, wRd R P rd, wC cyI C u w, wHM cyI cyO HI BB h r v, wC cyI TR tu tw, wC cyI SN su sw, wWy cyI Y g]) (WSb := [wC cyI C u w]) (As := [.int a1]) (rest := []) hx hb hml hown hts hl.1 (kX0_numberOfNow l D cyC cyI cyO C u w a1 hq) bV_X0_numberOfNow wml_RX6_251 ⟨rfl, rfl⟩ ⟨Nat.le_of_ble_eq_true rfl, Nat.le_of_ble_eq_true rfl, Nat.zero_le _, Nat.zero_le _⟩ [3] (by simp only [List.flatten_cons, List.flatten_nil, List.append_nil]) rfl hP hK 0 rfl rfl rfl rfl rfl (Nat.le_of_ble_eq_true rfl) dX6_count_51 ?_
          refine lv_goto (tgt := 65) hx hb dX6_count_54 (by decide) ?_
          have e9 : (pX0_numberOfNow u w a1) = (pX6_count rt sg pw rd u w h r v tu tw su sw g a1) := by simp only [pX6_count, if_neg c_1, if_neg c_2, if_neg c_3, if_neg c_4]
          exact W.iret (v := (pX0_numberOfNow u w a1)) hx hb hr (fun t ht hW => ⟨_, rfl, e9, ht⟩) (fun _ h => absurd h List.not_mem_nil) dX6_count_65
      · refine lv_aload_n hx hb dX6_count_32 rfl (lv_at hl 0 rfl) ?_
        refine va_get (D := D) (ci := 5) (v := .ref (HI 0)) (C := RX6) (T := TX6) (N := 12) hx hb hts inT_X6 hown hK.1 hP 0 rfl rfl 4 (by decide) (hts _ wfl_RX6_25) (fun _ h9 => h9) rfl dX6_count_33 ?_
        refine va_get (D := D) (ci := 1) (v := .int (v 1)) (C := RX1) (T := TX1) (N := 2) hx hb hts inT_X1 hown hK.1 hP 13 rfl rfl 1 (by decide) (hts _ wfl_RX6_248) (fun _ h9 => h9) rfl dX6_count_36 ?_
        have e9 : (v 1) = (pX6_count rt sg pw rd u w h r v tu tw su sw g a1) := by simp only [pX6_count, if_neg c_1, if_neg c_2, if_pos c_3]
        exact W.iret (v := (v 1)) hx hb hr (fun t ht hW => ⟨_, rfl, e9, ht⟩) (fun _ h => absurd h List.not_mem_nil) dX6_count_39
    · refine lv_aload_n hx hb dX6_count_18 rfl (lv_at hl 0 rfl) ?_
      refine va_get (D := D) (ci := 5) (v := .ref (P 0)) (C := RX6) (T := TX6) (N := 12) hx hb hts inT_X6 hown hK.1 hP 0 rfl rfl 6 (by decide) (hts _ wfl_RX6_39) (fun _ h9 => h9) rfl dX6_count_19 ?_
      refine va_get (D := D) (ci := 3) (v := .int (pw 1)) (C := RX3) (T := TX3) (N := 2) hx hb hts inT_X3 hown hK.1 hP 1 rfl rfl 1 (by decide) (hts _ wfl_RX6_135) (fun _ h9 => h9) rfl dX6_count_22 ?_
      have e9 : (pw 1) = (pX6_count rt sg pw rd u w h r v tu tw su sw g a1) := by simp only [pX6_count, if_neg c_1, if_pos c_2]
      exact W.iret (v := (pw 1)) hx hb hr (fun t ht hW => ⟨_, rfl, e9, ht⟩) (fun _ h => absurd h List.not_mem_nil) dX6_count_25
  · refine lv_iconst (v := (-1)) hx hb dX6_count_10 (by decide) ?_
    have e9 : (-1) = (pX6_count rt sg pw rd u w h r v tu tw su sw g a1) := by simp only [pX6_count, if_pos c_1]
    exact W.iret (v := (-1)) hx hb hr (fun t ht hW => ⟨_, rfl, e9, ht⟩) (fun _ h => absurd h List.not_mem_nil) dX6_count_11
theorem bV_X6_count : BV RX6 yX6_count cX6_count 2 (some .int) 1 := ⟨wcd_X6_count, wim_X6_count, wse_X6_count, win_RX6, by decide +kernel⟩
def pX6_ifWind (rt : (Nat → Int32)) (sg : (Nat → Nat → Int32)) (pw : (Nat → Int32)) (rd : (Nat → Int32)) (u : (Nat → Nat → Int32)) (w : (Nat → Int32)) (h : (Nat → (Nat → Nat → Int32) × (Nat → Int32))) (r : Nat) (v : (Nat → Int32)) (tu : (Nat → Nat → Int32)) (tw : (Nat → Int32)) (su : (Nat → Nat → Int32)) (sw : (Nat → Int32)) (g : (Nat → Nat → Int32)) (a1 : Int32) : Int32 := (if (pX6_isWithin a1 0 3) = 0 then (-1) else (pX0_linesSmokedBy u w a1))
set_option maxHeartbeats 4000000 in
set_option maxRecDepth 100000 in
theorem kX6_ifWind (l : Launch) (D : va_G) (cyC cyI cyO : ClassId) (Z : Nat → Nat) (C : Nat → Nat) (TR : Nat → Nat) (SN : Nat → Nat) (HI : Nat → Nat) (Y : Nat → Nat) (P : Nat → Nat) (R : Nat → Nat) (BB : Nat → Nat → Nat) (rt : (Nat → Int32)) (sg : (Nat → Nat → Int32)) (pw : (Nat → Int32)) (rd : (Nat → Int32)) (u : (Nat → Nat → Int32)) (w : (Nat → Int32)) (h : (Nat → (Nat → Nat → Int32) × (Nat → Int32))) (r : Nat) (v : (Nat → Int32)) (tu : (Nat → Nat → Int32)) (tw : (Nat → Int32)) (su : (Nat → Nat → Int32)) (sw : (Nat → Int32)) (g : (Nat → Nat → Int32)) (a1 : Int32) (hq : (w 12) < 4) : RO l yX6_ifWind (Ty yX6_ifWind cX6_ifWind 2 (some .int)) ({ frames := 4, cells := 0, slots := 0, locals := 93 } : Room) D cyC cyI cyO (List.flatten [wRt Z C TR SN HI Y P R rt, wPd cyC P sg pw, wRd R P rd, wC cyI C u w, wHM cyI cyO HI BB h r v, wC cyI TR tu tw, wC cyI SN su sw, wWy cyI Y g]) [.ref (Z 0), .int a1] (pX6_ifWind rt sg pw rd u w h r v tu tw su sw g a1) := by
  refine Met.ofW (cc := cX6_ifWind) (maxL := 2) (ret := (some .int)) (by decide) rfl ?_
  intro p e s m args below meth cd s₁ B hml hv
  obtain ⟨rfl, hP, hK⟩ := hv
  have hx := B.exec
  have hb := B.bytes
  have hr := B.returns
  have hts : ∀ w ∈ TB, w.before ([.ref (Z 0), .int a1] : List Value).toArray s = true := fun w h => atoms_spec (ws := (Ty yX6_ifWind cX6_ifWind 2 (some .int))) B.pre w (List.mem_cons_of_mem _ h)
  have hown : s.vm.findClass RX6 = some m.cls := findClass_of_methodNamed B.named
  have hlocks := B.notSynchronized
  have hl := lv_entry ([.ref (Z 0), .int a1]) (n := 2) (Nat.le_of_ble_eq_true rfl)
  rw [lg_entry_eq]
  generalize (lg_sl ([.ref (Z 0), .int a1]) ++ List.replicate (2 - (lg_sl ([.ref (Z 0), .int a1])).length) Slot.unset).toArray = ls at hl ⊢
  have hl : lv_has ls 2 [(0, .ref (Z 0)), (1, .int a1)] := hl
  refine lv_iload_n hx hb dX6_ifWind_0 rfl (lv_at hl 1 rfl) ?_
  refine lv_iconst (v := 0) hx hb dX6_ifWind_1 (by decide) ?_
  refine lv_iconst (v := 3) hx hb dX6_ifWind_2 (by decide) ?_
  refine rS (As := [.int a1, .int 0, .int 3]) (rest := []) hx hb hml hown hts hl.1 (kX6_isWithin l D cyC cyI cyO a1 0 3) bS_X6_isWithin  wml_RX6_58 ⟨rfl, rfl⟩ ⟨Nat.le_of_ble_eq_true rfl, Nat.le_of_ble_eq_true rfl, Nat.zero_le _, Nat.zero_le _⟩ [] rfl hP hK rfl rfl (Nat.le_of_ble_eq_true rfl) dX6_ifWind_3 ?_
  refine lv_if_ne (tgt := 11) hx hb dX6_ifWind_6 (by decide) (fun c_1 => ?_) (fun c_1 => ?_)
  · refine lv_aload_n hx hb dX6_ifWind_11 rfl (lv_at hl 0 rfl) ?_
    refine va_get (D := D) (ci := 5) (v := .ref (C 0)) (C := RX6) (T := TX6) (N := 12) hx hb hts inT_X6 hown hK.1 hP 0 rfl rfl 0 (by decide) (hts _ wfl_RX6_10) (fun _ h9 => h9) rfl dX6_ifWind_12 ?_
    refine lv_iload_n hx hb dX6_ifWind_15 rfl (lv_at hl 1 rfl) ?_
    refine rVB (bl := [wRt Z C TR SN HI Y P R rt, wPd cyC P sg pw, wRd R P rd, wC cyI C u w, wHM cyI cyO HI BB h r v, wC cyI TR tu tw, wC cyI SN su sw, wWy cyI Y g]) (WSb := [wC cyI C u w]) (As := [.int a1]) (rest := []) hx hb hml hown hts hl.1 (kX0_linesSmokedBy l D cyC cyI cyO C u w a1 hq) bV_X0_linesSmokedBy wml_RX6_257 ⟨rfl, rfl⟩ ⟨Nat.le_of_ble_eq_true rfl, Nat.le_of_ble_eq_true rfl, Nat.zero_le _, Nat.zero_le _⟩ [3] (by simp only [List.flatten_cons, List.flatten_nil, List.append_nil]) rfl hP hK 0 rfl rfl rfl rfl rfl (Nat.le_of_ble_eq_true rfl) dX6_ifWind_16 ?_
    have e9 : (pX0_linesSmokedBy u w a1) = (pX6_ifWind rt sg pw rd u w h r v tu tw su sw g a1) := by simp only [pX6_ifWind, if_neg c_1]
    exact W.iret (v := (pX0_linesSmokedBy u w a1)) hx hb hr (fun t ht hW => ⟨_, rfl, e9, ht⟩) (fun _ h => absurd h List.not_mem_nil) dX6_ifWind_19
  · refine lv_iconst (v := (-1)) hx hb dX6_ifWind_9 (by decide) ?_
    have e9 : (-1) = (pX6_ifWind rt sg pw rd u w h r v tu tw su sw g a1) := by simp only [pX6_ifWind, if_pos c_1]
    exact W.iret (v := (-1)) hx hb hr (fun t ht hW => ⟨_, rfl, e9, ht⟩) (fun _ h => absurd h List.not_mem_nil) dX6_ifWind_10
theorem bV_X6_ifWind : BV RX6 yX6_ifWind cX6_ifWind 2 (some .int) 1 := ⟨wcd_X6_ifWind, wim_X6_ifWind, wse_X6_ifWind, win_RX6, by decide +kernel⟩
def pX6_bestWind_L4 (rt : (Nat → Int32)) (sg : (Nat → Nat → Int32)) (pw : (Nat → Int32)) (rd : (Nat → Int32)) (u : (Nat → Nat → Int32)) (w : (Nat → Int32)) (h : (Nat → (Nat → Nat → Int32) × (Nat → Int32))) (r : Nat) (v : (Nat → Int32)) (tu : (Nat → Nat → Int32)) (tw : (Nat → Int32)) (su : (Nat → Nat → Int32)) (sw : (Nat → Int32)) (g : (Nat → Nat → Int32)) : Nat → Int32 := fo (fun i x_i => (if (pX0_linesSmokedBy u w x_i) ≤ (pX0_linesSmokedBy u w (nI (i + 1))) then x_i else (nI (i + 1)))) 0
theorem pX6_bestWind_L4_s (rt : (Nat → Int32)) (sg : (Nat → Nat → Int32)) (pw : (Nat → Int32)) (rd : (Nat → Int32)) (u : (Nat → Nat → Int32)) (w : (Nat → Int32)) (h : (Nat → (Nat → Nat → Int32) × (Nat → Int32))) (r : Nat) (v : (Nat → Int32)) (tu : (Nat → Nat → Int32)) (tw : (Nat → Int32)) (su : (Nat → Nat → Int32)) (sw : (Nat → Int32)) (g : (Nat → Nat → Int32)) (i : Nat) : pX6_bestWind_L4 rt sg pw rd u w h r v tu tw su sw g (i + 1) = (if (pX0_linesSmokedBy u w (pX6_bestWind_L4 rt sg pw rd u w h r v tu tw su sw g i)) ≤ (pX0_linesSmokedBy u w (nI (i + 1))) then (pX6_bestWind_L4 rt sg pw rd u w h r v tu tw su sw g i) else (nI (i + 1))) := rfl
theorem pX6_bestWind_L4_0 (rt : (Nat → Int32)) (sg : (Nat → Nat → Int32)) (pw : (Nat → Int32)) (rd : (Nat → Int32)) (u : (Nat → Nat → Int32)) (w : (Nat → Int32)) (h : (Nat → (Nat → Nat → Int32) × (Nat → Int32))) (r : Nat) (v : (Nat → Int32)) (tu : (Nat → Nat → Int32)) (tw : (Nat → Int32)) (su : (Nat → Nat → Int32)) (sw : (Nat → Int32)) (g : (Nat → Nat → Int32)) : pX6_bestWind_L4 rt sg pw rd u w h r v tu tw su sw g 0 = 0 := rfl
def pX6_bestWind (rt : (Nat → Int32)) (sg : (Nat → Nat → Int32)) (pw : (Nat → Int32)) (rd : (Nat → Int32)) (u : (Nat → Nat → Int32)) (w : (Nat → Int32)) (h : (Nat → (Nat → Nat → Int32) × (Nat → Int32))) (r : Nat) (v : (Nat → Int32)) (tu : (Nat → Nat → Int32)) (tw : (Nat → Int32)) (su : (Nat → Nat → Int32)) (sw : (Nat → Int32)) (g : (Nat → Nat → Int32)) : Int32 := (pX6_bestWind_L4 rt sg pw rd u w h r v tu tw su sw g 3)
set_option maxHeartbeats 4000000 in
set_option maxRecDepth 100000 in
theorem kX6_bestWind (l : Launch) (D : va_G) (cyC cyI cyO : ClassId) (Z : Nat → Nat) (C : Nat → Nat) (TR : Nat → Nat) (SN : Nat → Nat) (HI : Nat → Nat) (Y : Nat → Nat) (P : Nat → Nat) (R : Nat → Nat) (BB : Nat → Nat → Nat) (rt : (Nat → Int32)) (sg : (Nat → Nat → Int32)) (pw : (Nat → Int32)) (rd : (Nat → Int32)) (u : (Nat → Nat → Int32)) (w : (Nat → Int32)) (h : (Nat → (Nat → Nat → Int32) × (Nat → Int32))) (r : Nat) (v : (Nat → Int32)) (tu : (Nat → Nat → Int32)) (tw : (Nat → Int32)) (su : (Nat → Nat → Int32)) (sw : (Nat → Int32)) (g : (Nat → Nat → Int32)) (hq : (w 12) < 4) : RO l yX6_bestWind (Ty yX6_bestWind cX6_bestWind 3 (some .int)) ({ frames := 4, cells := 0, slots := 0, locals := 93 } : Room) D cyC cyI cyO (List.flatten [wRt Z C TR SN HI Y P R rt, wPd cyC P sg pw, wRd R P rd, wC cyI C u w, wHM cyI cyO HI BB h r v, wC cyI TR tu tw, wC cyI SN su sw, wWy cyI Y g]) [.ref (Z 0)] (pX6_bestWind rt sg pw rd u w h r v tu tw su sw g) := by
  refine Met.ofW (cc := cX6_bestWind) (maxL := 3) (ret := (some .int)) (by decide) rfl ?_
  intro p e s m args below meth cd s₁ B hml hv
  obtain ⟨rfl, hP, hK⟩ := hv
  have hx := B.exec
  have hb := B.bytes
  have hr := B.returns
  have hts : ∀ w ∈ TB, w.before ([.ref (Z 0)] : List Value).toArray s = true := fun w h => atoms_spec (ws := (Ty yX6_bestWind cX6_bestWind 3 (some .int))) B.pre w (List.mem_cons_of_mem _ h)
  have hown : s.vm.findClass RX6 = some m.cls := findClass_of_methodNamed B.named
  have hlocks := B.notSynchronized
  have hl := lv_entry ([.ref (Z 0)]) (n := 3) (Nat.le_of_ble_eq_true rfl)
  rw [lg_entry_eq]
  generalize (lg_sl ([.ref (Z 0)]) ++ List.replicate (3 - (lg_sl ([.ref (Z 0)])).length) Slot.unset).toArray = ls at hl ⊢
  have hl : lv_has ls 3 [(0, .ref (Z 0))] := hl
  refine lv_iconst (v := 0) hx hb dX6_bestWind_0 (by decide) ?_
  refine lv_istore_n (lv' := [(1, .int 0), (0, .ref (Z 0))]) hx hb dX6_bestWind_1 rfl hl (by decide) rfl (fun ls hl => ?_)
  refine lv_iconst (v := 1) hx hb dX6_bestWind_2 (by decide) ?_
  refine lv_istore_n (lv' := [(2, .int 1), (1, .int 0), (0, .ref (Z 0))]) hx hb dX6_bestWind_3 rfl hl (by decide) rfl (fun ls hl => ?_)
  have key_4 : ∀ k i : Nat, i + k = 3 → ∀ (ls : Array Slot), lv_has ls 3 [(0, .ref (Z 0)), (1, .int (pX6_bestWind_L4 rt sg pw rd u w h r v tu tw su sw g i)), (2, .int (nI (i + 1)))] → W p l e (headSpec (Ty yX6_bestWind cX6_bestWind 3 (some .int)) ({ frames := 4, cells := 0, slots := 0, locals := 93 } : Room)).room s m ([.ref (Z 0)] : List Value).toArray below meth cd s.heap [] 0 0 (MQ below (vp_Si (fun x => x = (pX6_bestWind rt sg pw rd u w h r v tu tw su sw g))) ([.ref (Z 0)] : List Value).toArray s 0 0 (fun _ => False)) (F0 m 4 ls []) := by
    intro k
    induction k with
    | zero =>
      intro i hi ls hl
      obtain rfl : i = 3 := hi
      obtain ⟨z_1, hz_1⟩ : ∃ q, q = (pX6_bestWind_L4 rt sg pw rd u w h r v tu tw su sw g 3) := ⟨_, rfl⟩
      rw [← hz_1] at hl
      refine lv_iload_n hx hb dX6_bestWind_4 rfl (lv_at hl 2 rfl) ?_
      refine lv_iconst (v := 4) hx hb dX6_bestWind_5 (by decide) ?_
      refine lv_icmp_ge (tgt := 36) hx hb dX6_bestWind_6 (by decide) (fun c_2 => ?_) (fun c_2 => absurd (le_of (C := 4) (N := 3 + 1) (by decide)) c_2)
      refine lv_iload_n hx hb dX6_bestWind_36 rfl (lv_at hl 1 rfl) ?_
      have e9 : z_1 = (pX6_bestWind rt sg pw rd u w h r v tu tw su sw g) := by simp only [pX6_bestWind, ← hz_1]
      exact W.iret (v := z_1) hx hb hr (fun t ht hW => ⟨_, rfl, e9, ht⟩) (fun _ h => absurd h List.not_mem_nil) dX6_bestWind_37
    | succ k ih_4 =>
      intro i hi ls hl
      have hlt : i < 3 := by omega
      refine lv_iload_n hx hb dX6_bestWind_4 rfl (lv_at hl 2 rfl) ?_
      refine lv_iconst (v := 4) hx hb dX6_bestWind_5 (by decide) ?_
      refine lv_icmp_ge (tgt := 36) hx hb dX6_bestWind_6 (by decide) (fun c_3 => absurd c_3 (nle_of (C := 4) (N := 4) (by decide) (by omega) (by decide))) (fun c_3 => ?_)
      refine lv_aload_n hx hb dX6_bestWind_9 rfl (lv_at hl 0 rfl) ?_
      refine va_get (D := D) (ci := 5) (v := .ref (C 0)) (C := RX6) (T := TX6) (N := 12) hx hb hts inT_X6 hown hK.1 hP 0 rfl rfl 0 (by decide) (hts _ wfl_RX6_10) (fun _ h9 => h9) rfl dX6_bestWind_10 ?_
      refine lv_iload_n hx hb dX6_bestWind_13 rfl (lv_at hl 2 rfl) ?_
      refine rVB (bl := [wRt Z C TR SN HI Y P R rt, wPd cyC P sg pw, wRd R P rd, wC cyI C u w, wHM cyI cyO HI BB h r v, wC cyI TR tu tw, wC cyI SN su sw, wWy cyI Y g]) (WSb := [wC cyI C u w]) (As := [.int (nI (i + 1))]) (rest := []) hx hb hml hown hts hl.1 (kX0_linesSmokedBy l D cyC cyI cyO C u w (nI (i + 1)) hq) bV_X0_linesSmokedBy wml_RX6_257 ⟨rfl, rfl⟩ ⟨Nat.le_of_ble_eq_true rfl, Nat.le_of_ble_eq_true rfl, Nat.zero_le _, Nat.zero_le _⟩ [3] (by simp only [List.flatten_cons, List.flatten_nil, List.append_nil]) rfl hP hK 0 rfl rfl rfl rfl rfl (Nat.le_of_ble_eq_true rfl) dX6_bestWind_14 ?_
      refine lv_aload_n hx hb dX6_bestWind_17 rfl (lv_at hl 0 rfl) ?_
      refine va_get (D := D) (ci := 5) (v := .ref (C 0)) (C := RX6) (T := TX6) (N := 12) hx hb hts inT_X6 hown hK.1 hP 0 rfl rfl 0 (by decide) (hts _ wfl_RX6_10) (fun _ h9 => h9) rfl dX6_bestWind_18 ?_
      refine lv_iload_n hx hb dX6_bestWind_21 rfl (lv_at hl 1 rfl) ?_
      refine rVB (bl := [wRt Z C TR SN HI Y P R rt, wPd cyC P sg pw, wRd R P rd, wC cyI C u w, wHM cyI cyO HI BB h r v, wC cyI TR tu tw, wC cyI SN su sw, wWy cyI Y g]) (WSb := [wC cyI C u w]) (As := [.int (pX6_bestWind_L4 rt sg pw rd u w h r v tu tw su sw g i)]) (rest := [.int (pX0_linesSmokedBy u w (nI (i + 1)))]) hx hb hml hown hts hl.1 (kX0_linesSmokedBy l D cyC cyI cyO C u w (pX6_bestWind_L4 rt sg pw rd u w h r v tu tw su sw g i) hq) bV_X0_linesSmokedBy wml_RX6_257 ⟨rfl, rfl⟩ ⟨Nat.le_of_ble_eq_true rfl, Nat.le_of_ble_eq_true rfl, Nat.zero_le _, Nat.zero_le _⟩ [3] (by simp only [List.flatten_cons, List.flatten_nil, List.append_nil]) rfl hP hK 0 rfl rfl rfl rfl rfl (Nat.le_of_ble_eq_true rfl) dX6_bestWind_22 ?_
      refine lv_icmp_ge (tgt := 30) hx hb dX6_bestWind_25 (by decide) (fun c_4 => ?_) (fun c_4 => ?_)
      · refine lv_iinc (v := (nI (i + 1 + 1))) (lv' := [(2, .int (nI (i + 1 + 1))), (0, .ref (Z 0)), (1, .int (pX6_bestWind_L4 rt sg pw rd u w h r v tu tw su sw g i))]) hx hb dX6_bestWind_30 hl (k := 2) rfl (nI_succ (i + 1)).symm (by decide) rfl (fun ls hl => ?_)
        refine lv_goto (tgt := 4) hx hb dX6_bestWind_33 (by decide) ?_
        have e8 : pX6_bestWind_L4 rt sg pw rd u w h r v tu tw su sw g (i + 1) = (pX6_bestWind_L4 rt sg pw rd u w h r v tu tw su sw g i) := by rw [pX6_bestWind_L4_s] <;> simp only [if_pos c_4]
        exact ih_4 (i + 1) (by omega) ls (by rw [e8]; exact lv_sub hl [1, 2, 0] rfl)
      · refine lv_iload_n hx hb dX6_bestWind_28 rfl (lv_at hl 2 rfl) ?_
        refine lv_istore_n (lv' := [(1, .int (nI (i + 1))), (0, .ref (Z 0)), (2, .int (nI (i + 1)))]) hx hb dX6_bestWind_29 rfl hl (by decide) rfl (fun ls hl => ?_)
        refine lv_iinc (v := (nI (i + 1 + 1))) (lv' := [(2, .int (nI (i + 1 + 1))), (1, .int (nI (i + 1))), (0, .ref (Z 0))]) hx hb dX6_bestWind_30 hl (k := 2) rfl (nI_succ (i + 1)).symm (by decide) rfl (fun ls hl => ?_)
        refine lv_goto (tgt := 4) hx hb dX6_bestWind_33 (by decide) ?_
        have e8 : pX6_bestWind_L4 rt sg pw rd u w h r v tu tw su sw g (i + 1) = (nI (i + 1)) := by rw [pX6_bestWind_L4_s] <;> simp only [if_neg c_4]
        exact ih_4 (i + 1) (by omega) ls (by rw [e8]; exact lv_sub hl [2, 1, 0] rfl)
  exact key_4 3 0 (Nat.zero_add 3) ls (lv_sub hl [2, 1, 0] rfl)
theorem bV_X6_bestWind : BV RX6 yX6_bestWind cX6_bestWind 3 (some .int) 0 := ⟨wcd_X6_bestWind, wim_X6_bestWind, wse_X6_bestWind, win_RX6, by decide +kernel⟩
def pX6_bestPlace_L17 (rt : (Nat → Int32)) (sg : (Nat → Nat → Int32)) (pw : (Nat → Int32)) (rd : (Nat → Int32)) (u : (Nat → Nat → Int32)) (w : (Nat → Int32)) (h : (Nat → (Nat → Nat → Int32) × (Nat → Int32))) (r : Nat) (v : (Nat → Int32)) (tu : (Nat → Nat → Int32)) (tw : (Nat → Int32)) (su : (Nat → Nat → Int32)) (sw : (Nat → Int32)) (g : (Nat → Nat → Int32)) (a1 : Int32) : Nat → Int32 × Int32 := fo (fun i x_i => (if (pX0_reasonNotToHang u w a1 (nI i)) = 0 then (if x_i.2 ≤ (pX0_windsSmoking u w (nI i)) then (x_i.1, x_i.2) else ((nI i), (pX0_windsSmoking u w (nI i)))) else (x_i.1, x_i.2))) ((-4), 5)
theorem pX6_bestPlace_L17_s (rt : (Nat → Int32)) (sg : (Nat → Nat → Int32)) (pw : (Nat → Int32)) (rd : (Nat → Int32)) (u : (Nat → Nat → Int32)) (w : (Nat → Int32)) (h : (Nat → (Nat → Nat → Int32) × (Nat → Int32))) (r : Nat) (v : (Nat → Int32)) (tu : (Nat → Nat → Int32)) (tw : (Nat → Int32)) (su : (Nat → Nat → Int32)) (sw : (Nat → Int32)) (g : (Nat → Nat → Int32)) (a1 : Int32) (i : Nat) : pX6_bestPlace_L17 rt sg pw rd u w h r v tu tw su sw g a1 (i + 1) = (if (pX0_reasonNotToHang u w a1 (nI i)) = 0 then (if (pX6_bestPlace_L17 rt sg pw rd u w h r v tu tw su sw g a1 i).2 ≤ (pX0_windsSmoking u w (nI i)) then ((pX6_bestPlace_L17 rt sg pw rd u w h r v tu tw su sw g a1 i).1, (pX6_bestPlace_L17 rt sg pw rd u w h r v tu tw su sw g a1 i).2) else ((nI i), (pX0_windsSmoking u w (nI i)))) else ((pX6_bestPlace_L17 rt sg pw rd u w h r v tu tw su sw g a1 i).1, (pX6_bestPlace_L17 rt sg pw rd u w h r v tu tw su sw g a1 i).2)) := rfl
theorem pX6_bestPlace_L17_0 (rt : (Nat → Int32)) (sg : (Nat → Nat → Int32)) (pw : (Nat → Int32)) (rd : (Nat → Int32)) (u : (Nat → Nat → Int32)) (w : (Nat → Int32)) (h : (Nat → (Nat → Nat → Int32) × (Nat → Int32))) (r : Nat) (v : (Nat → Int32)) (tu : (Nat → Nat → Int32)) (tw : (Nat → Int32)) (su : (Nat → Nat → Int32)) (sw : (Nat → Int32)) (g : (Nat → Nat → Int32)) (a1 : Int32) : pX6_bestPlace_L17 rt sg pw rd u w h r v tu tw su sw g a1 0 = ((-4), 5) := rfl
def pX6_bestPlace (rt : (Nat → Int32)) (sg : (Nat → Nat → Int32)) (pw : (Nat → Int32)) (rd : (Nat → Int32)) (u : (Nat → Nat → Int32)) (w : (Nat → Int32)) (h : (Nat → (Nat → Nat → Int32) × (Nat → Int32))) (r : Nat) (v : (Nat → Int32)) (tu : (Nat → Nat → Int32)) (tw : (Nat → Int32)) (su : (Nat → Nat → Int32)) (sw : (Nat → Int32)) (g : (Nat → Nat → Int32)) (a1 : Int32) : Int32 := (if (pX6_isOwner a1) = 0 then (-1) else (pX6_bestPlace_L17 rt sg pw rd u w h r v tu tw su sw g a1 28).1)
set_option maxHeartbeats 4000000 in
set_option maxRecDepth 100000 in
theorem kX6_bestPlace (l : Launch) (D : va_G) (cyC cyI cyO : ClassId) (Z : Nat → Nat) (C : Nat → Nat) (TR : Nat → Nat) (SN : Nat → Nat) (HI : Nat → Nat) (Y : Nat → Nat) (P : Nat → Nat) (R : Nat → Nat) (BB : Nat → Nat → Nat) (rt : (Nat → Int32)) (sg : (Nat → Nat → Int32)) (pw : (Nat → Int32)) (rd : (Nat → Int32)) (u : (Nat → Nat → Int32)) (w : (Nat → Int32)) (h : (Nat → (Nat → Nat → Int32) × (Nat → Int32))) (r : Nat) (v : (Nat → Int32)) (tu : (Nat → Nat → Int32)) (tw : (Nat → Int32)) (su : (Nat → Nat → Int32)) (sw : (Nat → Int32)) (g : (Nat → Nat → Int32)) (a1 : Int32) (hq : (w 12) < 4) : RO l yX6_bestPlace (Ty yX6_bestPlace cX6_bestPlace 6 (some .int)) ({ frames := 4, cells := 0, slots := 0, locals := 92 } : Room) D cyC cyI cyO (List.flatten [wRt Z C TR SN HI Y P R rt, wPd cyC P sg pw, wRd R P rd, wC cyI C u w, wHM cyI cyO HI BB h r v, wC cyI TR tu tw, wC cyI SN su sw, wWy cyI Y g]) [.ref (Z 0), .int a1] (pX6_bestPlace rt sg pw rd u w h r v tu tw su sw g a1) := by
  refine Met.ofW (cc := cX6_bestPlace) (maxL := 6) (ret := (some .int)) (by decide) rfl ?_
  intro p e s m args below meth cd s₁ B hml hv
  obtain ⟨rfl, hP, hK⟩ := hv
  have hx := B.exec
  have hb := B.bytes
  have hr := B.returns
  have hts : ∀ w ∈ TB, w.before ([.ref (Z 0), .int a1] : List Value).toArray s = true := fun w h => atoms_spec (ws := (Ty yX6_bestPlace cX6_bestPlace 6 (some .int))) B.pre w (List.mem_cons_of_mem _ h)
  have hown : s.vm.findClass RX6 = some m.cls := findClass_of_methodNamed B.named
  have hlocks := B.notSynchronized
  have hl := lv_entry ([.ref (Z 0), .int a1]) (n := 6) (Nat.le_of_ble_eq_true rfl)
  rw [lg_entry_eq]
  generalize (lg_sl ([.ref (Z 0), .int a1]) ++ List.replicate (6 - (lg_sl ([.ref (Z 0), .int a1])).length) Slot.unset).toArray = ls at hl ⊢
  have hl : lv_has ls 6 [(0, .ref (Z 0)), (1, .int a1)] := hl
  refine lv_iload_n hx hb dX6_bestPlace_0 rfl (lv_at hl 1 rfl) ?_
  refine rS (As := [.int a1]) (rest := []) hx hb hml hown hts hl.1 (kX6_isOwner l D cyC cyI cyO a1) bS_X6_isOwner  wml_RX6_97 ⟨rfl, rfl⟩ ⟨Nat.le_of_ble_eq_true rfl, Nat.le_of_ble_eq_true rfl, Nat.zero_le _, Nat.zero_le _⟩ [] rfl hP hK rfl rfl (Nat.le_of_ble_eq_true rfl) dX6_bestPlace_1 ?_
  refine lv_if_ne (tgt := 9) hx hb dX6_bestPlace_4 (by decide) (fun c_1 => ?_) (fun c_1 => ?_)
  · refine lv_bipush (v := (-4)) hx hb dX6_bestPlace_9 (by decide) ?_
    refine lv_istore_n (lv' := [(2, .int (-4)), (0, .ref (Z 0)), (1, .int a1)]) hx hb dX6_bestPlace_11 rfl hl (by decide) rfl (fun ls hl => ?_)
    refine lv_iconst (v := 5) hx hb dX6_bestPlace_12 (by decide) ?_
    refine lv_istore_n (lv' := [(3, .int 5), (2, .int (-4)), (0, .ref (Z 0)), (1, .int a1)]) hx hb dX6_bestPlace_13 rfl hl (by decide) rfl (fun ls hl => ?_)
    refine lv_iconst (v := 0) hx hb dX6_bestPlace_14 (by decide) ?_
    refine lv_istore (lv' := [(4, .int 0), (3, .int 5), (2, .int (-4)), (0, .ref (Z 0)), (1, .int a1)]) hx hb dX6_bestPlace_15 hl (by decide) rfl (fun ls hl => ?_)
    have key_17 : ∀ k i : Nat, i + k = 28 → ∀ (ls : Array Slot), lv_has ls 6 [(0, .ref (Z 0)), (1, .int a1), (2, .int (pX6_bestPlace_L17 rt sg pw rd u w h r v tu tw su sw g a1 i).1), (3, .int (pX6_bestPlace_L17 rt sg pw rd u w h r v tu tw su sw g a1 i).2), (4, .int (nI i))] → W p l e (headSpec (Ty yX6_bestPlace cX6_bestPlace 6 (some .int)) ({ frames := 4, cells := 0, slots := 0, locals := 92 } : Room)).room s m ([.ref (Z 0), .int a1] : List Value).toArray below meth cd s.heap [] 0 0 (MQ below (vp_Si (fun x => x = (pX6_bestPlace rt sg pw rd u w h r v tu tw su sw g a1))) ([.ref (Z 0), .int a1] : List Value).toArray s 0 0 (fun _ => False)) (F0 m 17 ls []) := by
      intro k
      induction k with
      | zero =>
        intro i hi ls hl
        obtain rfl : i = 28 := hi
        obtain ⟨z_2, hz_2⟩ : ∃ q, q = (pX6_bestPlace_L17 rt sg pw rd u w h r v tu tw su sw g a1 28) := ⟨_, rfl⟩
        rw [← hz_2] at hl
        refine lv_iload hx hb dX6_bestPlace_17 (lv_at hl 4 rfl) ?_
        refine lv_bipush (v := 28) hx hb dX6_bestPlace_19 (by decide) ?_
        refine lv_icmp_ge (tgt := 66) hx hb dX6_bestPlace_21 (by decide) (fun c_3 => ?_) (fun c_3 => absurd (le_of (C := 28) (N := 28) (by decide)) c_3)
        refine lv_iload_n hx hb dX6_bestPlace_66 rfl (lv_at hl 2 rfl) ?_
        have e9 : z_2.1 = (pX6_bestPlace rt sg pw rd u w h r v tu tw su sw g a1) := by simp only [pX6_bestPlace, ← hz_2, if_neg c_1]
        exact W.iret (v := z_2.1) hx hb hr (fun t ht hW => ⟨_, rfl, e9, ht⟩) (fun _ h => absurd h List.not_mem_nil) dX6_bestPlace_67
      | succ k ih_17 =>
        intro i hi ls hl
        have hlt : i < 28 := by omega
        refine lv_iload hx hb dX6_bestPlace_17 (lv_at hl 4 rfl) ?_
        refine lv_bipush (v := 28) hx hb dX6_bestPlace_19 (by decide) ?_
        refine lv_icmp_ge (tgt := 66) hx hb dX6_bestPlace_21 (by decide) (fun c_4 => absurd c_4 (nle_of (C := 28) (N := 28) (by decide) hlt (by decide))) (fun c_4 => ?_)
        refine lv_aload_n hx hb dX6_bestPlace_24 rfl (lv_at hl 0 rfl) ?_
        refine va_get (D := D) (ci := 5) (v := .ref (C 0)) (C := RX6) (T := TX6) (N := 12) hx hb hts inT_X6 hown hK.1 hP 0 rfl rfl 0 (by decide) (hts _ wfl_RX6_10) (fun _ h9 => h9) rfl dX6_bestPlace_25 ?_
        refine lv_iload_n hx hb dX6_bestPlace_28 rfl (lv_at hl 1 rfl) ?_
        refine lv_iload hx hb dX6_bestPlace_29 (lv_at hl 4 rfl) ?_
        refine rVB (bl := [wRt Z C TR SN HI Y P R rt, wPd cyC P sg pw, wRd R P rd, wC cyI C u w, wHM cyI cyO HI BB h r v, wC cyI TR tu tw, wC cyI SN su sw, wWy cyI Y g]) (WSb := [wC cyI C u w]) (As := [.int a1, .int (nI i)]) (rest := []) hx hb hml hown hts hl.1 (kX0_reasonNotToHang l D cyC cyI cyO C u w a1 (nI i) (io_in c_1) (vp_in_nI (Nat.lt_of_lt_of_le hlt (by decide)) (by decide)) hq) bV_X0_reasonNotToHang wml_RX6_235 ⟨rfl, rfl⟩ ⟨Nat.le_of_ble_eq_true rfl, Nat.le_of_ble_eq_true rfl, Nat.zero_le _, Nat.zero_le _⟩ [3] (by simp only [List.flatten_cons, List.flatten_nil, List.append_nil]) rfl hP hK 0 rfl rfl rfl rfl rfl (Nat.le_of_ble_eq_true rfl) dX6_bestPlace_31 ?_
        refine lv_if_ne (tgt := 60) hx hb dX6_bestPlace_34 (by decide) (fun c_5 => ?_) (fun c_5 => ?_)
        · refine lv_iinc (v := (nI (i + 1))) (lv' := [(4, .int (nI (i + 1))), (0, .ref (Z 0)), (1, .int a1), (2, .int (pX6_bestPlace_L17 rt sg pw rd u w h r v tu tw su sw g a1 i).1), (3, .int (pX6_bestPlace_L17 rt sg pw rd u w h r v tu tw su sw g a1 i).2)]) hx hb dX6_bestPlace_60 hl (k := 4) rfl (nI_succ i).symm (by decide) rfl (fun ls hl => ?_)
          refine lv_goto (tgt := 17) hx hb dX6_bestPlace_63 (by decide) ?_
          have e8 : pX6_bestPlace_L17 rt sg pw rd u w h r v tu tw su sw g a1 (i + 1) = ((pX6_bestPlace_L17 rt sg pw rd u w h r v tu tw su sw g a1 i).1, (pX6_bestPlace_L17 rt sg pw rd u w h r v tu tw su sw g a1 i).2) := by rw [pX6_bestPlace_L17_s] <;> simp only [if_neg c_1, if_neg c_5]
          exact ih_17 (i + 1) (by omega) ls (by rw [e8]; exact lv_sub hl [1, 2, 3, 4, 0] rfl)
        · refine lv_aload_n hx hb dX6_bestPlace_37 rfl (lv_at hl 0 rfl) ?_
          refine va_get (D := D) (ci := 5) (v := .ref (C 0)) (C := RX6) (T := TX6) (N := 12) hx hb hts inT_X6 hown hK.1 hP 0 rfl rfl 0 (by decide) (hts _ wfl_RX6_10) (fun _ h9 => h9) rfl dX6_bestPlace_38 ?_
          refine lv_iload hx hb dX6_bestPlace_41 (lv_at hl 4 rfl) ?_
          refine rVB (bl := [wRt Z C TR SN HI Y P R rt, wPd cyC P sg pw, wRd R P rd, wC cyI C u w, wHM cyI cyO HI BB h r v, wC cyI TR tu tw, wC cyI SN su sw, wWy cyI Y g]) (WSb := [wC cyI C u w]) (As := [.int (nI i)]) (rest := []) hx hb hml hown hts hl.1 (kX0_windsSmoking l D cyC cyI cyO C u w (nI i) hq) bV_X0_windsSmoking wml_RX6_267 ⟨rfl, rfl⟩ ⟨Nat.le_of_ble_eq_true rfl, Nat.le_of_ble_eq_true rfl, Nat.zero_le _, Nat.zero_le _⟩ [3] (by simp only [List.flatten_cons, List.flatten_nil, List.append_nil]) rfl hP hK 0 rfl rfl rfl rfl rfl (Nat.le_of_ble_eq_true rfl) dX6_bestPlace_43 ?_
          refine lv_istore (lv' := [(5, .int (pX0_windsSmoking u w (nI i))), (0, .ref (Z 0)), (1, .int a1), (2, .int (pX6_bestPlace_L17 rt sg pw rd u w h r v tu tw su sw g a1 i).1), (3, .int (pX6_bestPlace_L17 rt sg pw rd u w h r v tu tw su sw g a1 i).2), (4, .int (nI i))]) hx hb dX6_bestPlace_46 hl (by decide) rfl (fun ls hl => ?_)
          refine lv_iload hx hb dX6_bestPlace_48 (lv_at hl 0 rfl) ?_
          refine lv_iload_n hx hb dX6_bestPlace_50 rfl (lv_at hl 4 rfl) ?_
          refine lv_icmp_ge (tgt := 60) hx hb dX6_bestPlace_51 (by decide) (fun c_6 => ?_) (fun c_6 => ?_)
          · refine lv_iinc (v := (nI (i + 1))) (lv' := [(4, .int (nI (i + 1))), (5, .int (pX0_windsSmoking u w (nI i))), (0, .ref (Z 0)), (1, .int a1), (2, .int (pX6_bestPlace_L17 rt sg pw rd u w h r v tu tw su sw g a1 i).1), (3, .int (pX6_bestPlace_L17 rt sg pw rd u w h r v tu tw su sw g a1 i).2)]) hx hb dX6_bestPlace_60 hl (k := 5) rfl (nI_succ i).symm (by decide) rfl (fun ls hl => ?_)
            refine lv_goto (tgt := 17) hx hb dX6_bestPlace_63 (by decide) ?_
            have e8 : pX6_bestPlace_L17 rt sg pw rd u w h r v tu tw su sw g a1 (i + 1) = ((pX6_bestPlace_L17 rt sg pw rd u w h r v tu tw su sw g a1 i).1, (pX6_bestPlace_L17 rt sg pw rd u w h r v tu tw su sw g a1 i).2) := by rw [pX6_bestPlace_L17_s] <;> simp only [if_neg c_1, if_pos c_5, if_pos c_6]
            exact ih_17 (i + 1) (by omega) ls (by rw [e8]; exact lv_sub hl [2, 3, 4, 5, 0] rfl)
          · refine lv_iload hx hb dX6_bestPlace_54 (lv_at hl 0 rfl) ?_
            refine lv_istore_n (lv' := [(3, .int (pX0_windsSmoking u w (nI i))), (5, .int (pX0_windsSmoking u w (nI i))), (0, .ref (Z 0)), (1, .int a1), (2, .int (pX6_bestPlace_L17 rt sg pw rd u w h r v tu tw su sw g a1 i).1), (4, .int (nI i))]) hx hb dX6_bestPlace_56 rfl hl (by decide) rfl (fun ls hl => ?_)
            refine lv_iload hx hb dX6_bestPlace_57 (lv_at hl 5 rfl) ?_
            refine lv_istore_n (lv' := [(2, .int (nI i)), (3, .int (pX0_windsSmoking u w (nI i))), (5, .int (pX0_windsSmoking u w (nI i))), (0, .ref (Z 0)), (1, .int a1), (4, .int (nI i))]) hx hb dX6_bestPlace_59 rfl hl (by decide) rfl (fun ls hl => ?_)
            refine lv_iinc (v := (nI (i + 1))) (lv' := [(4, .int (nI (i + 1))), (2, .int (nI i)), (3, .int (pX0_windsSmoking u w (nI i))), (5, .int (pX0_windsSmoking u w (nI i))), (0, .ref (Z 0)), (1, .int a1)]) hx hb dX6_bestPlace_60 hl (k := 5) rfl (nI_succ i).symm (by decide) rfl (fun ls hl => ?_)
            refine lv_goto (tgt := 17) hx hb dX6_bestPlace_63 (by decide) ?_
            have e8 : pX6_bestPlace_L17 rt sg pw rd u w h r v tu tw su sw g a1 (i + 1) = ((nI i), (pX0_windsSmoking u w (nI i))) := by rw [pX6_bestPlace_L17_s] <;> simp only [if_neg c_1, if_pos c_5, if_neg c_6]
            exact ih_17 (i + 1) (by omega) ls (by rw [e8]; exact lv_sub hl [4, 5, 1, 2, 0] rfl)
    exact key_17 28 0 (Nat.zero_add 28) ls (lv_sub hl [3, 4, 2, 1, 0] rfl)
  · refine lv_iconst (v := (-1)) hx hb dX6_bestPlace_7 (by decide) ?_
    have e9 : (-1) = (pX6_bestPlace rt sg pw rd u w h r v tu tw su sw g a1) := by simp only [pX6_bestPlace, if_pos c_1]
    exact W.iret (v := (-1)) hx hb hr (fun t ht hW => ⟨_, rfl, e9, ht⟩) (fun _ h => absurd h List.not_mem_nil) dX6_bestPlace_8
theorem bV_X6_bestPlace : BV RX6 yX6_bestPlace cX6_bestPlace 6 (some .int) 1 := ⟨wcd_X6_bestPlace, wim_X6_bestPlace, wse_X6_bestPlace, win_RX6, by decide +kernel⟩
def pX6_undo (rt : (Nat → Int32)) (sg : (Nat → Nat → Int32)) (pw : (Nat → Int32)) (rd : (Nat → Int32)) (u : (Nat → Nat → Int32)) (w : (Nat → Int32)) (h : (Nat → (Nat → Nat → Int32) × (Nat → Int32))) (r : Nat) (v : (Nat → Int32)) (tu : (Nat → Nat → Int32)) (tw : (Nat → Int32)) (su : (Nat → Nat → Int32)) (sw : (Nat → Int32)) (g : (Nat → Nat → Int32)) : Int32 × (Nat → (Nat → Nat → Int32) × (Nat → Int32)) × Nat × (Nat → Int32) × (Nat → Nat → Int32) × (Nat → Int32) := (if (v 1) = 0 then ((-2), h, r, v, u, w) else (((va_up v 1 (if ((v 1) - (1 : Int32)) < 0 then 0 else ((v 1) - (1 : Int32)))) 1), h, ((r + 1) % 4), (va_up v 1 (if ((v 1) - (1 : Int32)) < 0 then 0 else ((v 1) - (1 : Int32)))), (h r).1, (h r).2))
set_option maxHeartbeats 4000000 in
set_option maxRecDepth 100000 in
theorem kX6_undo (l : Launch) (D : va_G) (cyC cyI cyO : ClassId) (Z : Nat → Nat) (C : Nat → Nat) (TR : Nat → Nat) (SN : Nat → Nat) (HI : Nat → Nat) (Y : Nat → Nat) (P : Nat → Nat) (R : Nat → Nat) (BB : Nat → Nat → Nat) (rt : (Nat → Int32)) (sg : (Nat → Nat → Int32)) (pw : (Nat → Int32)) (rd : (Nat → Int32)) (u : (Nat → Nat → Int32)) (w : (Nat → Int32)) (h : (Nat → (Nat → Nat → Int32) × (Nat → Int32))) (r : Nat) (v : (Nat → Int32)) (tu : (Nat → Nat → Int32)) (tw : (Nat → Int32)) (su : (Nat → Nat → Int32)) (sw : (Nat → Int32)) (g : (Nat → Nat → Int32)) (hr4 : r < 4) : MU l yX6_undo (Ty yX6_undo cX6_undo 1 (some .int)) ({ frames := 3, cells := 0, slots := 0, locals := 84 } : Room) D cyC cyI cyO (List.flatten [wRt Z C TR SN HI Y P R rt, wPd cyC P sg pw, wRd R P rd, wC cyI C u w, wHM cyI cyO HI BB h r v, wC cyI TR tu tw, wC cyI SN su sw, wWy cyI Y g]) [.ref (Z 0)] (some (.int (pX6_undo rt sg pw rd u w h r v tu tw su sw g).1)) (List.flatten [wRt Z C TR SN HI Y P R rt, wPd cyC P sg pw, wRd R P rd, wC cyI C (pX6_undo rt sg pw rd u w h r v tu tw su sw g).2.2.2.2.1 (pX6_undo rt sg pw rd u w h r v tu tw su sw g).2.2.2.2.2, wHM cyI cyO HI BB (pX6_undo rt sg pw rd u w h r v tu tw su sw g).2.1 (pX6_undo rt sg pw rd u w h r v tu tw su sw g).2.2.1 (pX6_undo rt sg pw rd u w h r v tu tw su sw g).2.2.2.1, wC cyI TR tu tw, wC cyI SN su sw, wWy cyI Y g]) := by
  intro sz
  refine Met.ofW (cc := cX6_undo) (maxL := 1) (ret := (some .int)) (by decide) rfl ?_
  intro p e s m args below meth cd s₁ B hml hv
  obtain ⟨rfl, hsz, hP, hK, hD0⟩ := hv
  have hx := B.exec
  have hb := B.bytes
  have hr := B.returns
  have hts : ∀ w ∈ TB, w.before ([.ref (Z 0)] : List Value).toArray s = true := fun w h => atoms_spec (ws := (Ty yX6_undo cX6_undo 1 (some .int))) B.pre w (List.mem_cons_of_mem _ h)
  have hown : s.vm.findClass RX6 = some m.cls := findClass_of_methodNamed B.named
  have hlocks := B.notSynchronized
  subst hsz
  have hD := hD0.self (sz := s.heap.size)
  have hA : ∀ q : Nat, s.heap.size ≤ q → (va_A (List.flatten [wRt Z C TR SN HI Y P R rt, wPd cyC P sg pw, wRd R P rd, wC cyI C u w, wHM cyI cyO HI BB h r v, wC cyI TR tu tw, wC cyI SN su sw, wWy cyI Y g]) s.heap.size) q := fun q h => Or.inr h
  generalize hAe : va_A (List.flatten [wRt Z C TR SN HI Y P R rt, wPd cyC P sg pw, wRd R P rd, wC cyI C u w, wHM cyI cyO HI BB h r v, wC cyI TR tu tw, wC cyI SN su sw, wWy cyI Y g]) s.heap.size = A0 at hD hA ⊢
  have hS : va_S A0 s.heap s.heap [] := va_S.rf
  have hl := lv_entry ([.ref (Z 0)]) (n := 1) (Nat.le_of_ble_eq_true rfl)
  rw [lg_entry_eq]
  generalize (lg_sl ([.ref (Z 0)]) ++ List.replicate (1 - (lg_sl ([.ref (Z 0)])).length) Slot.unset).toArray = ls at hl ⊢
  have hl : lv_has ls 1 [(0, .ref (Z 0))] := hl
  refine lv_aload_n hx hb dX6_undo_0 rfl (lv_at hl 0 rfl) ?_
  refine va_get (D := D) (ci := 5) (v := .ref (HI 0)) (C := RX6) (T := TX6) (N := 12) hx hb hts inT_X6 hown hK.1 hP 0 rfl rfl 4 (by decide) (hts _ wfl_RX6_25) (fun _ h9 => h9) rfl dX6_undo_1 ?_
  refine va_get (D := D) (ci := 1) (v := .int (v 1)) (C := RX1) (T := TX1) (N := 2) hx hb hts inT_X1 hown hK.1 hP 13 rfl rfl 1 (by decide) (hts _ wfl_RX6_248) (fun _ h9 => h9) rfl dX6_undo_4 ?_
  refine lv_if_ne (tgt := 13) hx hb dX6_undo_7 (by decide) (fun c_1 => ?_) (fun c_1 => ?_)
  · refine lv_aload_n hx hb dX6_undo_13 rfl (lv_at hl 0 rfl) ?_
    refine va_get (D := D) (ci := 5) (v := .ref (HI 0)) (C := RX6) (T := TX6) (N := 12) hx hb hts inT_X6 hown hK.1 hP 0 rfl rfl 4 (by decide) (hts _ wfl_RX6_25) (fun _ h9 => h9) rfl dX6_undo_14 ?_
    refine lv_aload_n hx hb dX6_undo_17 rfl (lv_at hl 0 rfl) ?_
    refine va_get (D := D) (ci := 5) (v := .ref (C 0)) (C := RX6) (T := TX6) (N := 12) hx hb hts inT_X6 hown hK.1 hP 0 rfl rfl 0 (by decide) (hts _ wfl_RX6_10) (fun _ h9 => h9) rfl dX6_undo_18 ?_
    refine mVB (bl := [wRt Z C TR SN HI Y P R rt, wPd cyC P sg pw, wRd R P rd, wC cyI C u w, wHM cyI cyO HI BB h r v, wC cyI TR tu tw, wC cyI SN su sw, wWy cyI Y g]) (bl' := [wRt Z C TR SN HI Y P R rt, wPd cyC P sg pw, wRd R P rd, wC cyI C (h r).1 (h r).2, wHM cyI cyO HI BB h ((r + 1) % 4) (va_up v 1 (if ((v 1) - (1 : Int32)) < 0 then 0 else ((v 1) - (1 : Int32)))), wC cyI TR tu tw, wC cyI SN su sw, wWy cyI Y g]) (WSb := [wHM cyI cyO HI BB h r v, wC cyI C u w]) (WSb' := [wHM cyI cyO HI BB h ((r + 1) % 4) (va_up v 1 (if ((v 1) - (1 : Int32)) < 0 then 0 else ((v 1) - (1 : Int32)))), wC cyI C (h r).1 (h r).2]) (As := [.ref (C 0)]) (rest := []) hx hb hml hown hts hl.1 (WS := (List.flatten [wHM cyI cyO HI BB h r v, wC cyI C u w])) (WS' := (List.flatten [wHM cyI cyO HI BB h ((r + 1) % 4) (va_up v 1 (if ((v 1) - (1 : Int32)) < 0 then 0 else ((v 1) - (1 : Int32)))), wC cyI C (h r).1 (h r).2])) (ro := none) (kX1_popIntoM l D cyC cyI cyO HI BB C h r v u w hr4) bV_X1_popInto wml_RX6_270 ⟨rfl, rfl⟩ ⟨Nat.le_of_ble_eq_true rfl, Nat.le_of_ble_eq_true rfl, Nat.zero_le _, Nat.zero_le _⟩ [4, 3] rfl rfl rfl rfl rfl rfl rfl hP hD hS hA hK 0 rfl rfl rfl rfl rfl (Nat.le_of_ble_eq_true rfl) dX6_undo_21 (fun H locs hP hD hS => ?_)
    refine lv_aload_n hx hb dX6_undo_24 rfl (lv_at hl 0 rfl) ?_
    refine va_get (D := D) (ci := 5) (v := .ref (HI 0)) (C := RX6) (T := TX6) (N := 12) hx hb hts inT_X6 hown hK.1 hP 0 rfl rfl 4 (by decide) (hts _ wfl_RX6_25) (fun _ h9 => h9) rfl dX6_undo_25 ?_
    refine va_get (D := D) (ci := 1) (v := .int ((va_up v 1 (if ((v 1) - (1 : Int32)) < 0 then 0 else ((v 1) - (1 : Int32)))) 1)) (C := RX1) (T := TX1) (N := 2) hx hb hts inT_X1 hown hK.1 hP 13 rfl rfl 1 (by decide) (hts _ wfl_RX6_248) (fun _ h9 => h9) rfl dX6_undo_28 ?_
    have e9 : (pX6_undo rt sg pw rd u w h r v tu tw su sw g) = (((va_up v 1 (if ((v 1) - (1 : Int32)) < 0 then 0 else ((v 1) - (1 : Int32)))) 1), h, ((r + 1) % 4), (va_up v 1 (if ((v 1) - (1 : Int32)) < 0 then 0 else ((v 1) - (1 : Int32)))), (h r).1, (h r).2) := by simp only [pX6_undo, if_neg c_1]
    have e9_0 : (pX6_undo rt sg pw rd u w h r v tu tw su sw g).1 = ((va_up v 1 (if ((v 1) - (1 : Int32)) < 0 then 0 else ((v 1) - (1 : Int32)))) 1) := by rw [e9]
    have e9_1 : (pX6_undo rt sg pw rd u w h r v tu tw su sw g).2.1 = h := by rw [e9]
    have e9_2 : (pX6_undo rt sg pw rd u w h r v tu tw su sw g).2.2.1 = ((r + 1) % 4) := by rw [e9]
    have e9_3 : (pX6_undo rt sg pw rd u w h r v tu tw su sw g).2.2.2.1 = (va_up v 1 (if ((v 1) - (1 : Int32)) < 0 then 0 else ((v 1) - (1 : Int32)))) := by rw [e9]
    have e9_4 : (pX6_undo rt sg pw rd u w h r v tu tw su sw g).2.2.2.2.1 = (h r).1 := by rw [e9]
    have e9_5 : (pX6_undo rt sg pw rd u w h r v tu tw su sw g).2.2.2.2.2 = (h r).2 := by rw [e9]
    exact W.iret (v := ((va_up v 1 (if ((v 1) - (1 : Int32)) < 0 then 0 else ((v 1) - (1 : Int32)))) 1)) hx hb hr (fun t ht hW => ⟨⟨by rw [e9_0], by rw [e9_1, e9_2, e9_3, e9_4, e9_5, ht]; exact hP⟩, hS.F ht⟩) hS.2.2 dX6_undo_31
  · refine lv_bipush (v := (-2)) hx hb dX6_undo_10 (by decide) ?_
    have e9 : (pX6_undo rt sg pw rd u w h r v tu tw su sw g) = ((-2), h, r, v, u, w) := by simp only [pX6_undo, if_pos c_1]
    have e9_0 : (pX6_undo rt sg pw rd u w h r v tu tw su sw g).1 = (-2) := by rw [e9]
    have e9_1 : (pX6_undo rt sg pw rd u w h r v tu tw su sw g).2.1 = h := by rw [e9]
    have e9_2 : (pX6_undo rt sg pw rd u w h r v tu tw su sw g).2.2.1 = r := by rw [e9]
    have e9_3 : (pX6_undo rt sg pw rd u w h r v tu tw su sw g).2.2.2.1 = v := by rw [e9]
    have e9_4 : (pX6_undo rt sg pw rd u w h r v tu tw su sw g).2.2.2.2.1 = u := by rw [e9]
    have e9_5 : (pX6_undo rt sg pw rd u w h r v tu tw su sw g).2.2.2.2.2 = w := by rw [e9]
    exact W.iret (v := (-2)) hx hb hr (fun t ht hW => ⟨⟨by rw [e9_0], by rw [e9_1, e9_2, e9_3, e9_4, e9_5, ht]; exact hP⟩, hS.F ht⟩) hS.2.2 dX6_undo_12
theorem bV_X6_undo : BV RX6 yX6_undo cX6_undo 1 (some .int) 0 := ⟨wcd_X6_undo, wim_X6_undo, wse_X6_undo, win_RX6, by decide +kernel⟩
def pX6_save (rt : (Nat → Int32)) (sg : (Nat → Nat → Int32)) (pw : (Nat → Int32)) (rd : (Nat → Int32)) (u : (Nat → Nat → Int32)) (w : (Nat → Int32)) (h : (Nat → (Nat → Nat → Int32) × (Nat → Int32))) (r : Nat) (v : (Nat → Int32)) (tu : (Nat → Nat → Int32)) (tw : (Nat → Int32)) (su : (Nat → Nat → Int32)) (sw : (Nat → Int32)) (g : (Nat → Nat → Int32)) : Int32 × (Nat → Int32) × (Nat → Nat → Int32) × (Nat → Int32) := ((pJ6_bitCount_0f7a4 (pX0_allLines u w)), (va_up rt 3 1), (pX0_copyFrom su sw u w).1, (pX0_copyFrom su sw u w).2)
set_option maxHeartbeats 4000000 in
set_option maxRecDepth 100000 in
theorem kX6_save (l : Launch) (D : va_G) (cyC cyI cyO : ClassId) (Z : Nat → Nat) (C : Nat → Nat) (TR : Nat → Nat) (SN : Nat → Nat) (HI : Nat → Nat) (Y : Nat → Nat) (P : Nat → Nat) (R : Nat → Nat) (BB : Nat → Nat → Nat) (rt : (Nat → Int32)) (sg : (Nat → Nat → Int32)) (pw : (Nat → Int32)) (rd : (Nat → Int32)) (u : (Nat → Nat → Int32)) (w : (Nat → Int32)) (h : (Nat → (Nat → Nat → Int32) × (Nat → Int32))) (r : Nat) (v : (Nat → Int32)) (tu : (Nat → Nat → Int32)) (tw : (Nat → Int32)) (su : (Nat → Nat → Int32)) (sw : (Nat → Int32)) (g : (Nat → Nat → Int32)) : MU l yX6_save (Ty yX6_save cX6_save 1 (some .int)) ({ frames := 2, cells := 0, slots := 0, locals := 61 } : Room) D cyC cyI cyO (List.flatten [wRt Z C TR SN HI Y P R rt, wPd cyC P sg pw, wRd R P rd, wC cyI C u w, wHM cyI cyO HI BB h r v, wC cyI TR tu tw, wC cyI SN su sw, wWy cyI Y g]) [.ref (Z 0)] (some (.int (pX6_save rt sg pw rd u w h r v tu tw su sw g).1)) (List.flatten [wRt Z C TR SN HI Y P R (pX6_save rt sg pw rd u w h r v tu tw su sw g).2.1, wPd cyC P sg pw, wRd R P rd, wC cyI C u w, wHM cyI cyO HI BB h r v, wC cyI TR tu tw, wC cyI SN (pX6_save rt sg pw rd u w h r v tu tw su sw g).2.2.1 (pX6_save rt sg pw rd u w h r v tu tw su sw g).2.2.2, wWy cyI Y g]) := by
  intro sz
  refine Met.ofW (cc := cX6_save) (maxL := 1) (ret := (some .int)) (by decide) rfl ?_
  intro p e s m args below meth cd s₁ B hml hv
  obtain ⟨rfl, hsz, hP, hK, hD0⟩ := hv
  have hx := B.exec
  have hb := B.bytes
  have hr := B.returns
  have hts : ∀ w ∈ TB, w.before ([.ref (Z 0)] : List Value).toArray s = true := fun w h => atoms_spec (ws := (Ty yX6_save cX6_save 1 (some .int))) B.pre w (List.mem_cons_of_mem _ h)
  have hown : s.vm.findClass RX6 = some m.cls := findClass_of_methodNamed B.named
  have hlocks := B.notSynchronized
  subst hsz
  have hD := hD0.self (sz := s.heap.size)
  have hA : ∀ q : Nat, s.heap.size ≤ q → (va_A (List.flatten [wRt Z C TR SN HI Y P R rt, wPd cyC P sg pw, wRd R P rd, wC cyI C u w, wHM cyI cyO HI BB h r v, wC cyI TR tu tw, wC cyI SN su sw, wWy cyI Y g]) s.heap.size) q := fun q h => Or.inr h
  generalize hAe : va_A (List.flatten [wRt Z C TR SN HI Y P R rt, wPd cyC P sg pw, wRd R P rd, wC cyI C u w, wHM cyI cyO HI BB h r v, wC cyI TR tu tw, wC cyI SN su sw, wWy cyI Y g]) s.heap.size = A0 at hD hA ⊢
  have hS : va_S A0 s.heap s.heap [] := va_S.rf
  have hl := lv_entry ([.ref (Z 0)]) (n := 1) (Nat.le_of_ble_eq_true rfl)
  rw [lg_entry_eq]
  generalize (lg_sl ([.ref (Z 0)]) ++ List.replicate (1 - (lg_sl ([.ref (Z 0)])).length) Slot.unset).toArray = ls at hl ⊢
  have hl : lv_has ls 1 [(0, .ref (Z 0))] := hl
  refine lv_aload_n hx hb dX6_save_0 rfl (lv_at hl 0 rfl) ?_
  refine va_get (D := D) (ci := 5) (v := .ref (SN 0)) (C := RX6) (T := TX6) (N := 12) hx hb hts inT_X6 hown hK.1 hP 0 rfl rfl 2 (by decide) (hts _ wfl_RX6_19) (fun _ h9 => h9) rfl dX6_save_1 ?_
  refine lv_aload_n hx hb dX6_save_4 rfl (lv_at hl 0 rfl) ?_
  refine va_get (D := D) (ci := 5) (v := .ref (C 0)) (C := RX6) (T := TX6) (N := 12) hx hb hts inT_X6 hown hK.1 hP 0 rfl rfl 0 (by decide) (hts _ wfl_RX6_10) (fun _ h9 => h9) rfl dX6_save_5 ?_
  obtain ⟨z_1, hz_1⟩ : ∃ q, q = (pX0_copyFrom su sw u w) := ⟨_, rfl⟩
  refine mVB (bl := [wRt Z C TR SN HI Y P R rt, wPd cyC P sg pw, wRd R P rd, wC cyI C u w, wHM cyI cyO HI BB h r v, wC cyI TR tu tw, wC cyI SN su sw, wWy cyI Y g]) (bl' := [wRt Z C TR SN HI Y P R rt, wPd cyC P sg pw, wRd R P rd, wC cyI C u w, wHM cyI cyO HI BB h r v, wC cyI TR tu tw, wC cyI SN z_1.1 z_1.2, wWy cyI Y g]) (WSb := [wC cyI SN su sw, wC cyI C u w]) (WSb' := [wC cyI SN z_1.1 z_1.2, wC cyI C u w]) (As := [.ref (C 0)]) (rest := []) hx hb hml hown hts hl.1 (WS := (wC cyI SN su sw ++ (wC cyI C u w))) (WS' := (wC cyI SN z_1.1 z_1.2 ++ (wC cyI C u w))) (ro := none) (by rw [hz_1]; exact kX0_copyFrom l D cyC cyI cyO SN C su sw u w) bV_X0_copyFrom wml_RX6_260 ⟨rfl, rfl⟩ ⟨Nat.le_of_ble_eq_true rfl, Nat.le_of_ble_eq_true rfl, Nat.zero_le _, Nat.zero_le _⟩ [6, 3] (by simp only [List.flatten_cons, List.flatten_nil, List.append_nil]) (by simp only [List.flatten_cons, List.flatten_nil, List.append_nil]) rfl rfl rfl rfl rfl hP hD hS hA hK 0 rfl rfl rfl rfl rfl (Nat.le_of_ble_eq_true rfl) dX6_save_8 (fun H locs hP hD hS => ?_)
  refine lv_aload_n hx hb dX6_save_11 rfl (lv_at hl 0 rfl) ?_
  refine lv_iconst (v := 1) hx hb dX6_save_12 (by decide) ?_
  refine va_put (D := D) (ci := 5) (v := .int 1) (ty := .boolean) (C := RX6) (T := TX6) (N := 12) hx hb hts inT_X6 tyX6 tyX6_ok nmX6 hown hK.1 hP hD hS 0 rfl rfl 3 (by decide) (hts _ wfl_RX6_273) (fun _ h9 => h9) rfl (by decide +kernel) (by rfl) (by rfl) (Nat.le_of_ble_eq_true rfl) dX6_save_13 (fun H locs hP hD hS => ?_)
  have hP : va_P D vwCl (List.flatten [wRt Z C TR SN HI Y P R (va_up rt 3 1), wPd cyC P sg pw, wRd R P rd, wC cyI C u w, wHM cyI cyO HI BB h r v, wC cyI TR tu tw, wC cyI SN z_1.1 z_1.2, wWy cyI Y g]) H := hP
  have hD : va_D A0 (List.flatten [wRt Z C TR SN HI Y P R (va_up rt 3 1), wPd cyC P sg pw, wRd R P rd, wC cyI C u w, wHM cyI cyO HI BB h r v, wC cyI TR tu tw, wC cyI SN z_1.1 z_1.2, wWy cyI Y g]) := hD
  refine lv_aload_n hx hb dX6_save_16 rfl (lv_at hl 0 rfl) ?_
  refine va_get (D := D) (ci := 5) (v := .ref (C 0)) (C := RX6) (T := TX6) (N := 12) hx hb hts inT_X6 hown hK.1 hP 0 rfl rfl 0 (by decide) (hts _ wfl_RX6_10) (fun _ h9 => h9) rfl dX6_save_17 ?_
  refine rVB (bl := [wRt Z C TR SN HI Y P R (va_up rt 3 1), wPd cyC P sg pw, wRd R P rd, wC cyI C u w, wHM cyI cyO HI BB h r v, wC cyI TR tu tw, wC cyI SN z_1.1 z_1.2, wWy cyI Y g]) (WSb := [wC cyI C u w]) (As := []) (rest := []) hx hb hml hown hts hl.1 (kX0_allLines l D cyC cyI cyO C u w) bV_X0_allLines wml_RX6_189 ⟨rfl, rfl⟩ ⟨Nat.le_of_ble_eq_true rfl, Nat.le_of_ble_eq_true rfl, Nat.zero_le _, Nat.zero_le _⟩ [3] (by simp only [List.flatten_cons, List.flatten_nil, List.append_nil]) rfl hP hK 0 rfl rfl rfl rfl rfl (Nat.le_of_ble_eq_true rfl) dX6_save_20 ?_
  refine rS (As := [.int (pX0_allLines u w)]) (rest := []) hx hb hml hown hts hl.1 (kJ6_bitCount_0f7a4 l D cyC cyI cyO (pX0_allLines u w)) bS_J6_bitCount_0f7a4  wml_RX6_89 ⟨rfl, rfl⟩ ⟨Nat.le_of_ble_eq_true rfl, Nat.le_of_ble_eq_true rfl, Nat.zero_le _, Nat.zero_le _⟩ [] rfl hP hK rfl rfl (Nat.le_of_ble_eq_true rfl) dX6_save_23 ?_
  have e9 : (pX6_save rt sg pw rd u w h r v tu tw su sw g) = ((pJ6_bitCount_0f7a4 (pX0_allLines u w)), (va_up rt 3 1), z_1.1, z_1.2) := by simp only [pX6_save, ← hz_1]
  have e9_0 : (pX6_save rt sg pw rd u w h r v tu tw su sw g).1 = (pJ6_bitCount_0f7a4 (pX0_allLines u w)) := by rw [e9]
  have e9_1 : (pX6_save rt sg pw rd u w h r v tu tw su sw g).2.1 = (va_up rt 3 1) := by rw [e9]
  have e9_2 : (pX6_save rt sg pw rd u w h r v tu tw su sw g).2.2.1 = z_1.1 := by rw [e9]
  have e9_3 : (pX6_save rt sg pw rd u w h r v tu tw su sw g).2.2.2 = z_1.2 := by rw [e9]
  exact W.iret (v := (pJ6_bitCount_0f7a4 (pX0_allLines u w))) hx hb hr (fun t ht hW => ⟨⟨by rw [e9_0], by rw [e9_1, e9_2, e9_3, ht]; exact hP⟩, hS.F ht⟩) hS.2.2 dX6_save_26
theorem bV_X6_save : BV RX6 yX6_save cX6_save 1 (some .int) 0 := ⟨wcd_X6_save, wim_X6_save, wse_X6_save, win_RX6, by decide +kernel⟩
def pX6_restore (rt : (Nat → Int32)) (sg : (Nat → Nat → Int32)) (pw : (Nat → Int32)) (rd : (Nat → Int32)) (u : (Nat → Nat → Int32)) (w : (Nat → Int32)) (h : (Nat → (Nat → Nat → Int32) × (Nat → Int32))) (r : Nat) (v : (Nat → Int32)) (tu : (Nat → Nat → Int32)) (tw : (Nat → Int32)) (su : (Nat → Nat → Int32)) (sw : (Nat → Int32)) (g : (Nat → Nat → Int32)) : Int32 × (Nat → (Nat → Nat → Int32) × (Nat → Int32)) × Nat × (Nat → Int32) × (Nat → Nat → Int32) × (Nat → Int32) := (if (rt 3) = 0 then ((-2), h, r, v, u, w) else ((pJ6_bitCount_0f7a4 (pX0_allLines (pX0_copyFrom u w su sw).1 (pX0_copyFrom u w su sw).2)), (va_up h ((r + 3) % 4) (u, w)), ((r + 3) % 4), (va_up v 1 (if 4 < ((v 1) + (1 : Int32)) then 4 else ((v 1) + (1 : Int32)))), (pX0_copyFrom u w su sw).1, (pX0_copyFrom u w su sw).2))
set_option maxHeartbeats 4000000 in
set_option maxRecDepth 100000 in
theorem kX6_restore (l : Launch) (D : va_G) (cyC cyI cyO : ClassId) (Z : Nat → Nat) (C : Nat → Nat) (TR : Nat → Nat) (SN : Nat → Nat) (HI : Nat → Nat) (Y : Nat → Nat) (P : Nat → Nat) (R : Nat → Nat) (BB : Nat → Nat → Nat) (rt : (Nat → Int32)) (sg : (Nat → Nat → Int32)) (pw : (Nat → Int32)) (rd : (Nat → Int32)) (u : (Nat → Nat → Int32)) (w : (Nat → Int32)) (h : (Nat → (Nat → Nat → Int32) × (Nat → Int32))) (r : Nat) (v : (Nat → Int32)) (tu : (Nat → Nat → Int32)) (tw : (Nat → Int32)) (su : (Nat → Nat → Int32)) (sw : (Nat → Int32)) (g : (Nat → Nat → Int32)) (hr4 : r < 4) : MU l yX6_restore (Ty yX6_restore cX6_restore 1 (some .int)) ({ frames := 3, cells := 0, slots := 0, locals := 84 } : Room) D cyC cyI cyO (List.flatten [wRt Z C TR SN HI Y P R rt, wPd cyC P sg pw, wRd R P rd, wC cyI C u w, wHM cyI cyO HI BB h r v, wC cyI TR tu tw, wC cyI SN su sw, wWy cyI Y g]) [.ref (Z 0)] (some (.int (pX6_restore rt sg pw rd u w h r v tu tw su sw g).1)) (List.flatten [wRt Z C TR SN HI Y P R rt, wPd cyC P sg pw, wRd R P rd, wC cyI C (pX6_restore rt sg pw rd u w h r v tu tw su sw g).2.2.2.2.1 (pX6_restore rt sg pw rd u w h r v tu tw su sw g).2.2.2.2.2, wHM cyI cyO HI BB (pX6_restore rt sg pw rd u w h r v tu tw su sw g).2.1 (pX6_restore rt sg pw rd u w h r v tu tw su sw g).2.2.1 (pX6_restore rt sg pw rd u w h r v tu tw su sw g).2.2.2.1, wC cyI TR tu tw, wC cyI SN su sw, wWy cyI Y g]) := by
  intro sz
  refine Met.ofW (cc := cX6_restore) (maxL := 1) (ret := (some .int)) (by decide) rfl ?_
  intro p e s m args below meth cd s₁ B hml hv
  obtain ⟨rfl, hsz, hP, hK, hD0⟩ := hv
  have hx := B.exec
  have hb := B.bytes
  have hr := B.returns
  have hts : ∀ w ∈ TB, w.before ([.ref (Z 0)] : List Value).toArray s = true := fun w h => atoms_spec (ws := (Ty yX6_restore cX6_restore 1 (some .int))) B.pre w (List.mem_cons_of_mem _ h)
  have hown : s.vm.findClass RX6 = some m.cls := findClass_of_methodNamed B.named
  have hlocks := B.notSynchronized
  subst hsz
  have hD := hD0.self (sz := s.heap.size)
  have hA : ∀ q : Nat, s.heap.size ≤ q → (va_A (List.flatten [wRt Z C TR SN HI Y P R rt, wPd cyC P sg pw, wRd R P rd, wC cyI C u w, wHM cyI cyO HI BB h r v, wC cyI TR tu tw, wC cyI SN su sw, wWy cyI Y g]) s.heap.size) q := fun q h => Or.inr h
  generalize hAe : va_A (List.flatten [wRt Z C TR SN HI Y P R rt, wPd cyC P sg pw, wRd R P rd, wC cyI C u w, wHM cyI cyO HI BB h r v, wC cyI TR tu tw, wC cyI SN su sw, wWy cyI Y g]) s.heap.size = A0 at hD hA ⊢
  have hS : va_S A0 s.heap s.heap [] := va_S.rf
  have hl := lv_entry ([.ref (Z 0)]) (n := 1) (Nat.le_of_ble_eq_true rfl)
  rw [lg_entry_eq]
  generalize (lg_sl ([.ref (Z 0)]) ++ List.replicate (1 - (lg_sl ([.ref (Z 0)])).length) Slot.unset).toArray = ls at hl ⊢
  have hl : lv_has ls 1 [(0, .ref (Z 0))] := hl
  refine lv_aload_n hx hb dX6_restore_0 rfl (lv_at hl 0 rfl) ?_
  refine va_get (D := D) (ci := 5) (v := .int (rt 3)) (C := RX6) (T := TX6) (N := 12) hx hb hts inT_X6 hown hK.1 hP 0 rfl rfl 3 (by decide) (hts _ wfl_RX6_273) (fun _ h9 => h9) rfl dX6_restore_1 ?_
  refine lv_if_ne (tgt := 10) hx hb dX6_restore_4 (by decide) (fun c_1 => ?_) (fun c_1 => ?_)
  · refine lv_aload_n hx hb dX6_restore_10 rfl (lv_at hl 0 rfl) ?_
    refine va_get (D := D) (ci := 5) (v := .ref (HI 0)) (C := RX6) (T := TX6) (N := 12) hx hb hts inT_X6 hown hK.1 hP 0 rfl rfl 4 (by decide) (hts _ wfl_RX6_25) (fun _ h9 => h9) rfl dX6_restore_11 ?_
    refine lv_aload_n hx hb dX6_restore_14 rfl (lv_at hl 0 rfl) ?_
    refine va_get (D := D) (ci := 5) (v := .ref (C 0)) (C := RX6) (T := TX6) (N := 12) hx hb hts inT_X6 hown hK.1 hP 0 rfl rfl 0 (by decide) (hts _ wfl_RX6_10) (fun _ h9 => h9) rfl dX6_restore_15 ?_
    refine mVB (bl := [wRt Z C TR SN HI Y P R rt, wPd cyC P sg pw, wRd R P rd, wC cyI C u w, wHM cyI cyO HI BB h r v, wC cyI TR tu tw, wC cyI SN su sw, wWy cyI Y g]) (bl' := [wRt Z C TR SN HI Y P R rt, wPd cyC P sg pw, wRd R P rd, wC cyI C u w, wHM cyI cyO HI BB (va_up h ((r + 3) % 4) (u, w)) ((r + 3) % 4) (va_up v 1 (if 4 < ((v 1) + (1 : Int32)) then 4 else ((v 1) + (1 : Int32)))), wC cyI TR tu tw, wC cyI SN su sw, wWy cyI Y g]) (WSb := [wHM cyI cyO HI BB h r v, wC cyI C u w]) (WSb' := [wHM cyI cyO HI BB (va_up h ((r + 3) % 4) (u, w)) ((r + 3) % 4) (va_up v 1 (if 4 < ((v 1) + (1 : Int32)) then 4 else ((v 1) + (1 : Int32)))), wC cyI C u w]) (As := [.ref (C 0)]) (rest := []) hx hb hml hown hts hl.1 (WS := (List.flatten [wHM cyI cyO HI BB h r v, wC cyI C u w])) (WS' := (List.flatten [wHM cyI cyO HI BB (va_up h ((r + 3) % 4) (u, w)) ((r + 3) % 4) (va_up v 1 (if 4 < ((v 1) + (1 : Int32)) then 4 else ((v 1) + (1 : Int32)))), wC cyI C u w])) (ro := none) (kX1_pushM l D cyC cyI cyO HI BB C h r v u w hr4) bV_X1_push wml_RX6_62 ⟨rfl, rfl⟩ ⟨Nat.le_of_ble_eq_true rfl, Nat.le_of_ble_eq_true rfl, Nat.zero_le _, Nat.zero_le _⟩ [4, 3] rfl rfl rfl rfl rfl rfl rfl hP hD hS hA hK 0 rfl rfl rfl rfl rfl (Nat.le_of_ble_eq_true rfl) dX6_restore_18 (fun H locs hP hD hS => ?_)
    refine lv_aload_n hx hb dX6_restore_21 rfl (lv_at hl 0 rfl) ?_
    refine va_get (D := D) (ci := 5) (v := .ref (C 0)) (C := RX6) (T := TX6) (N := 12) hx hb hts inT_X6 hown hK.1 hP 0 rfl rfl 0 (by decide) (hts _ wfl_RX6_10) (fun _ h9 => h9) rfl dX6_restore_22 ?_
    refine lv_aload_n hx hb dX6_restore_25 rfl (lv_at hl 0 rfl) ?_
    refine va_get (D := D) (ci := 5) (v := .ref (SN 0)) (C := RX6) (T := TX6) (N := 12) hx hb hts inT_X6 hown hK.1 hP 0 rfl rfl 2 (by decide) (hts _ wfl_RX6_19) (fun _ h9 => h9) rfl dX6_restore_26 ?_
    obtain ⟨z_2, hz_2⟩ : ∃ q, q = (pX0_copyFrom u w su sw) := ⟨_, rfl⟩
    refine mVB (bl := [wRt Z C TR SN HI Y P R rt, wPd cyC P sg pw, wRd R P rd, wC cyI C u w, wHM cyI cyO HI BB (va_up h ((r + 3) % 4) (u, w)) ((r + 3) % 4) (va_up v 1 (if 4 < ((v 1) + (1 : Int32)) then 4 else ((v 1) + (1 : Int32)))), wC cyI TR tu tw, wC cyI SN su sw, wWy cyI Y g]) (bl' := [wRt Z C TR SN HI Y P R rt, wPd cyC P sg pw, wRd R P rd, wC cyI C z_2.1 z_2.2, wHM cyI cyO HI BB (va_up h ((r + 3) % 4) (u, w)) ((r + 3) % 4) (va_up v 1 (if 4 < ((v 1) + (1 : Int32)) then 4 else ((v 1) + (1 : Int32)))), wC cyI TR tu tw, wC cyI SN su sw, wWy cyI Y g]) (WSb := [wC cyI C u w, wC cyI SN su sw]) (WSb' := [wC cyI C z_2.1 z_2.2, wC cyI SN su sw]) (As := [.ref (SN 0)]) (rest := []) hx hb hml hown hts hl.1 (WS := (wC cyI C u w ++ (wC cyI SN su sw))) (WS' := (wC cyI C z_2.1 z_2.2 ++ (wC cyI SN su sw))) (ro := none) (by rw [hz_2]; exact kX0_copyFrom l D cyC cyI cyO C SN u w su sw) bV_X0_copyFrom wml_RX6_260 ⟨rfl, rfl⟩ ⟨Nat.le_of_ble_eq_true rfl, Nat.le_of_ble_eq_true rfl, Nat.zero_le _, Nat.zero_le _⟩ [3, 6] (by simp only [List.flatten_cons, List.flatten_nil, List.append_nil]) (by simp only [List.flatten_cons, List.flatten_nil, List.append_nil]) rfl rfl rfl rfl rfl hP hD hS hA hK 0 rfl rfl rfl rfl rfl (Nat.le_of_ble_eq_true rfl) dX6_restore_29 (fun H locs hP hD hS => ?_)
    refine lv_aload_n hx hb dX6_restore_32 rfl (lv_at hl 0 rfl) ?_
    refine va_get (D := D) (ci := 5) (v := .ref (C 0)) (C := RX6) (T := TX6) (N := 12) hx hb hts inT_X6 hown hK.1 hP 0 rfl rfl 0 (by decide) (hts _ wfl_RX6_10) (fun _ h9 => h9) rfl dX6_restore_33 ?_
    refine rVB (bl := [wRt Z C TR SN HI Y P R rt, wPd cyC P sg pw, wRd R P rd, wC cyI C z_2.1 z_2.2, wHM cyI cyO HI BB (va_up h ((r + 3) % 4) (u, w)) ((r + 3) % 4) (va_up v 1 (if 4 < ((v 1) + (1 : Int32)) then 4 else ((v 1) + (1 : Int32)))), wC cyI TR tu tw, wC cyI SN su sw, wWy cyI Y g]) (WSb := [wC cyI C z_2.1 z_2.2]) (As := []) (rest := []) hx hb hml hown hts hl.1 (kX0_allLines l D cyC cyI cyO C z_2.1 z_2.2) bV_X0_allLines wml_RX6_189 ⟨rfl, rfl⟩ ⟨Nat.le_of_ble_eq_true rfl, Nat.le_of_ble_eq_true rfl, Nat.zero_le _, Nat.zero_le _⟩ [3] (by simp only [List.flatten_cons, List.flatten_nil, List.append_nil]) rfl hP hK 0 rfl rfl rfl rfl rfl (Nat.le_of_ble_eq_true rfl) dX6_restore_36 ?_
    refine rS (As := [.int (pX0_allLines z_2.1 z_2.2)]) (rest := []) hx hb hml hown hts hl.1 (kJ6_bitCount_0f7a4 l D cyC cyI cyO (pX0_allLines z_2.1 z_2.2)) bS_J6_bitCount_0f7a4  wml_RX6_89 ⟨rfl, rfl⟩ ⟨Nat.le_of_ble_eq_true rfl, Nat.le_of_ble_eq_true rfl, Nat.zero_le _, Nat.zero_le _⟩ [] rfl hP hK rfl rfl (Nat.le_of_ble_eq_true rfl) dX6_restore_39 ?_
    have e9 : (pX6_restore rt sg pw rd u w h r v tu tw su sw g) = ((pJ6_bitCount_0f7a4 (pX0_allLines z_2.1 z_2.2)), (va_up h ((r + 3) % 4) (u, w)), ((r + 3) % 4), (va_up v 1 (if 4 < ((v 1) + (1 : Int32)) then 4 else ((v 1) + (1 : Int32)))), z_2.1, z_2.2) := by simp only [pX6_restore, ← hz_2, if_neg c_1]
    have e9_0 : (pX6_restore rt sg pw rd u w h r v tu tw su sw g).1 = (pJ6_bitCount_0f7a4 (pX0_allLines z_2.1 z_2.2)) := by rw [e9]
    have e9_1 : (pX6_restore rt sg pw rd u w h r v tu tw su sw g).2.1 = (va_up h ((r + 3) % 4) (u, w)) := by rw [e9]
    have e9_2 : (pX6_restore rt sg pw rd u w h r v tu tw su sw g).2.2.1 = ((r + 3) % 4) := by rw [e9]
    have e9_3 : (pX6_restore rt sg pw rd u w h r v tu tw su sw g).2.2.2.1 = (va_up v 1 (if 4 < ((v 1) + (1 : Int32)) then 4 else ((v 1) + (1 : Int32)))) := by rw [e9]
    have e9_4 : (pX6_restore rt sg pw rd u w h r v tu tw su sw g).2.2.2.2.1 = z_2.1 := by rw [e9]
    have e9_5 : (pX6_restore rt sg pw rd u w h r v tu tw su sw g).2.2.2.2.2 = z_2.2 := by rw [e9]
    exact W.iret (v := (pJ6_bitCount_0f7a4 (pX0_allLines z_2.1 z_2.2))) hx hb hr (fun t ht hW => ⟨⟨by rw [e9_0], by rw [e9_1, e9_2, e9_3, e9_4, e9_5, ht]; exact hP⟩, hS.F ht⟩) hS.2.2 dX6_restore_42
  · refine lv_bipush (v := (-2)) hx hb dX6_restore_7 (by decide) ?_
    have e9 : (pX6_restore rt sg pw rd u w h r v tu tw su sw g) = ((-2), h, r, v, u, w) := by simp only [pX6_restore, if_pos c_1]
    have e9_0 : (pX6_restore rt sg pw rd u w h r v tu tw su sw g).1 = (-2) := by rw [e9]
    have e9_1 : (pX6_restore rt sg pw rd u w h r v tu tw su sw g).2.1 = h := by rw [e9]
    have e9_2 : (pX6_restore rt sg pw rd u w h r v tu tw su sw g).2.2.1 = r := by rw [e9]
    have e9_3 : (pX6_restore rt sg pw rd u w h r v tu tw su sw g).2.2.2.1 = v := by rw [e9]
    have e9_4 : (pX6_restore rt sg pw rd u w h r v tu tw su sw g).2.2.2.2.1 = u := by rw [e9]
    have e9_5 : (pX6_restore rt sg pw rd u w h r v tu tw su sw g).2.2.2.2.2 = w := by rw [e9]
    exact W.iret (v := (-2)) hx hb hr (fun t ht hW => ⟨⟨by rw [e9_0], by rw [e9_1, e9_2, e9_3, e9_4, e9_5, ht]; exact hP⟩, hS.F ht⟩) hS.2.2 dX6_restore_9
theorem bV_X6_restore : BV RX6 yX6_restore cX6_restore 1 (some .int) 0 := ⟨wcd_X6_restore, wim_X6_restore, wse_X6_restore, win_RX6, by decide +kernel⟩
def pX6_keepStop (rt : (Nat → Int32)) (sg : (Nat → Nat → Int32)) (pw : (Nat → Int32)) (rd : (Nat → Int32)) (u : (Nat → Nat → Int32)) (w : (Nat → Int32)) (h : (Nat → (Nat → Nat → Int32) × (Nat → Int32))) (r : Nat) (v : (Nat → Int32)) (tu : (Nat → Nat → Int32)) (tw : (Nat → Int32)) (su : (Nat → Nat → Int32)) (sw : (Nat → Int32)) (g : (Nat → Nat → Int32)) (a1 : Int32) (a2 : Int32) : (Nat → Int32) := (va_up (va_up (va_up (va_up rt 8 1) 9 a1) 10 a2) 11 (rd 2))
set_option maxHeartbeats 4000000 in
set_option maxRecDepth 100000 in
theorem kX6_keepStop (l : Launch) (D : va_G) (cyC cyI cyO : ClassId) (Z : Nat → Nat) (C : Nat → Nat) (TR : Nat → Nat) (SN : Nat → Nat) (HI : Nat → Nat) (Y : Nat → Nat) (P : Nat → Nat) (R : Nat → Nat) (BB : Nat → Nat → Nat) (rt : (Nat → Int32)) (sg : (Nat → Nat → Int32)) (pw : (Nat → Int32)) (rd : (Nat → Int32)) (u : (Nat → Nat → Int32)) (w : (Nat → Int32)) (h : (Nat → (Nat → Nat → Int32) × (Nat → Int32))) (r : Nat) (v : (Nat → Int32)) (tu : (Nat → Nat → Int32)) (tw : (Nat → Int32)) (su : (Nat → Nat → Int32)) (sw : (Nat → Int32)) (g : (Nat → Nat → Int32)) (a1 : Int32) (a2 : Int32) : MU l yX6_keepStop (Ty yX6_keepStop cX6_keepStop 3 none) ({ frames := 0, cells := 0, slots := 0, locals := 0 } : Room) D cyC cyI cyO (List.flatten [wRt Z C TR SN HI Y P R rt, wPd cyC P sg pw, wRd R P rd, wC cyI C u w, wHM cyI cyO HI BB h r v, wC cyI TR tu tw, wC cyI SN su sw, wWy cyI Y g]) [.ref (Z 0), .int a1, .int a2] none (List.flatten [wRt Z C TR SN HI Y P R (pX6_keepStop rt sg pw rd u w h r v tu tw su sw g a1 a2), wPd cyC P sg pw, wRd R P rd, wC cyI C u w, wHM cyI cyO HI BB h r v, wC cyI TR tu tw, wC cyI SN su sw, wWy cyI Y g]) := by
  intro sz
  refine Met.ofW (cc := cX6_keepStop) (maxL := 3) (ret := none) (by decide) rfl ?_
  intro p e s m args below meth cd s₁ B hml hv
  obtain ⟨rfl, hsz, hP, hK, hD0⟩ := hv
  have hx := B.exec
  have hb := B.bytes
  have hr := B.returns
  have hts : ∀ w ∈ TB, w.before ([.ref (Z 0), .int a1, .int a2] : List Value).toArray s = true := fun w h => atoms_spec (ws := (Ty yX6_keepStop cX6_keepStop 3 none)) B.pre w (List.mem_cons_of_mem _ h)
  have hown : s.vm.findClass RX6 = some m.cls := findClass_of_methodNamed B.named
  have hlocks := B.notSynchronized
  subst hsz
  have hD := hD0.self (sz := s.heap.size)
  have hA : ∀ q : Nat, s.heap.size ≤ q → (va_A (List.flatten [wRt Z C TR SN HI Y P R rt, wPd cyC P sg pw, wRd R P rd, wC cyI C u w, wHM cyI cyO HI BB h r v, wC cyI TR tu tw, wC cyI SN su sw, wWy cyI Y g]) s.heap.size) q := fun q h => Or.inr h
  generalize hAe : va_A (List.flatten [wRt Z C TR SN HI Y P R rt, wPd cyC P sg pw, wRd R P rd, wC cyI C u w, wHM cyI cyO HI BB h r v, wC cyI TR tu tw, wC cyI SN su sw, wWy cyI Y g]) s.heap.size = A0 at hD hA ⊢
  have hS : va_S A0 s.heap s.heap [] := va_S.rf
  have hl := lv_entry ([.ref (Z 0), .int a1, .int a2]) (n := 3) (Nat.le_of_ble_eq_true rfl)
  rw [lg_entry_eq]
  generalize (lg_sl ([.ref (Z 0), .int a1, .int a2]) ++ List.replicate (3 - (lg_sl ([.ref (Z 0), .int a1, .int a2])).length) Slot.unset).toArray = ls at hl ⊢
  have hl : lv_has ls 3 [(0, .ref (Z 0)), (1, .int a1), (2, .int a2)] := hl
  refine lv_aload_n hx hb dX6_keepStop_0 rfl (lv_at hl 0 rfl) ?_
  refine lv_iconst (v := 1) hx hb dX6_keepStop_1 (by decide) ?_
  refine va_put (D := D) (ci := 5) (v := .int 1) (ty := .boolean) (C := RX6) (T := TX6) (N := 12) hx hb hts inT_X6 tyX6 tyX6_ok nmX6 hown hK.1 hP hD hS 0 rfl rfl 8 (by decide) (hts _ wfl_RX6_145) (fun _ h9 => h9) rfl (by decide +kernel) (by rfl) (by rfl) (Nat.le_of_ble_eq_true rfl) dX6_keepStop_2 (fun H locs hP hD hS => ?_)
  have hP : va_P D vwCl (List.flatten [wRt Z C TR SN HI Y P R (va_up rt 8 1), wPd cyC P sg pw, wRd R P rd, wC cyI C u w, wHM cyI cyO HI BB h r v, wC cyI TR tu tw, wC cyI SN su sw, wWy cyI Y g]) H := hP
  have hD : va_D A0 (List.flatten [wRt Z C TR SN HI Y P R (va_up rt 8 1), wPd cyC P sg pw, wRd R P rd, wC cyI C u w, wHM cyI cyO HI BB h r v, wC cyI TR tu tw, wC cyI SN su sw, wWy cyI Y g]) := hD
  refine lv_aload_n hx hb dX6_keepStop_5 rfl (lv_at hl 0 rfl) ?_
  refine lv_iload_n hx hb dX6_keepStop_6 rfl (lv_at hl 1 rfl) ?_
  refine va_put (D := D) (ci := 5) (v := .int a1) (ty := .int) (C := RX6) (T := TX6) (N := 12) hx hb hts inT_X6 tyX6 tyX6_ok nmX6 hown hK.1 hP hD hS 0 rfl rfl 9 (by decide) (hts _ wfl_RX6_162) (fun _ h9 => h9) rfl (by decide +kernel) (by rfl) rfl (Nat.le_of_ble_eq_true rfl) dX6_keepStop_7 (fun H locs hP hD hS => ?_)
  have hP : va_P D vwCl (List.flatten [wRt Z C TR SN HI Y P R (va_up (va_up rt 8 1) 9 a1), wPd cyC P sg pw, wRd R P rd, wC cyI C u w, wHM cyI cyO HI BB h r v, wC cyI TR tu tw, wC cyI SN su sw, wWy cyI Y g]) H := hP
  have hD : va_D A0 (List.flatten [wRt Z C TR SN HI Y P R (va_up (va_up rt 8 1) 9 a1), wPd cyC P sg pw, wRd R P rd, wC cyI C u w, wHM cyI cyO HI BB h r v, wC cyI TR tu tw, wC cyI SN su sw, wWy cyI Y g]) := hD
  refine lv_aload_n hx hb dX6_keepStop_10 rfl (lv_at hl 0 rfl) ?_
  refine lv_iload_n hx hb dX6_keepStop_11 rfl (lv_at hl 2 rfl) ?_
  refine va_put (D := D) (ci := 5) (v := .int a2) (ty := .int) (C := RX6) (T := TX6) (N := 12) hx hb hts inT_X6 tyX6 tyX6_ok nmX6 hown hK.1 hP hD hS 0 rfl rfl 10 (by decide) (hts _ wfl_RX6_165) (fun _ h9 => h9) rfl (by decide +kernel) (by rfl) rfl (Nat.le_of_ble_eq_true rfl) dX6_keepStop_12 (fun H locs hP hD hS => ?_)
  have hP : va_P D vwCl (List.flatten [wRt Z C TR SN HI Y P R (va_up (va_up (va_up rt 8 1) 9 a1) 10 a2), wPd cyC P sg pw, wRd R P rd, wC cyI C u w, wHM cyI cyO HI BB h r v, wC cyI TR tu tw, wC cyI SN su sw, wWy cyI Y g]) H := hP
  have hD : va_D A0 (List.flatten [wRt Z C TR SN HI Y P R (va_up (va_up (va_up rt 8 1) 9 a1) 10 a2), wPd cyC P sg pw, wRd R P rd, wC cyI C u w, wHM cyI cyO HI BB h r v, wC cyI TR tu tw, wC cyI SN su sw, wWy cyI Y g]) := hD
  refine lv_aload_n hx hb dX6_keepStop_15 rfl (lv_at hl 0 rfl) ?_
  refine lv_aload_n hx hb dX6_keepStop_16 rfl (lv_at hl 0 rfl) ?_
  refine va_get (D := D) (ci := 5) (v := .ref (R 0)) (C := RX6) (T := TX6) (N := 12) hx hb hts inT_X6 hown hK.1 hP 0 rfl rfl 7 (by decide) (hts _ wfl_RX6_48) (fun _ h9 => h9) rfl dX6_keepStop_17 ?_
  refine va_get (D := D) (ci := 2) (v := .int (rd 2)) (C := RX2) (T := TX2) (N := 6) hx hb hts inT_X2 hown hK.1 hP 3 rfl rfl 2 (by decide) (hts _ wfl_RX6_276) (fun _ h9 => h9) rfl dX6_keepStop_20 ?_
  refine va_put (D := D) (ci := 5) (v := .int (rd 2)) (ty := .int) (C := RX6) (T := TX6) (N := 12) hx hb hts inT_X6 tyX6 tyX6_ok nmX6 hown hK.1 hP hD hS 0 rfl rfl 11 (by decide) (hts _ wfl_RX6_168) (fun _ h9 => h9) rfl (by decide +kernel) (by rfl) rfl (Nat.le_of_ble_eq_true rfl) dX6_keepStop_23 (fun H locs hP hD hS => ?_)
  have hP : va_P D vwCl (List.flatten [wRt Z C TR SN HI Y P R (va_up (va_up (va_up (va_up rt 8 1) 9 a1) 10 a2) 11 (rd 2)), wPd cyC P sg pw, wRd R P rd, wC cyI C u w, wHM cyI cyO HI BB h r v, wC cyI TR tu tw, wC cyI SN su sw, wWy cyI Y g]) H := hP
  have hD : va_D A0 (List.flatten [wRt Z C TR SN HI Y P R (va_up (va_up (va_up (va_up rt 8 1) 9 a1) 10 a2) 11 (rd 2)), wPd cyC P sg pw, wRd R P rd, wC cyI C u w, wHM cyI cyO HI BB h r v, wC cyI TR tu tw, wC cyI SN su sw, wWy cyI Y g]) := hD
  have e9 : (pX6_keepStop rt sg pw rd u w h r v tu tw su sw g a1 a2) = (va_up (va_up (va_up (va_up rt 8 1) 9 a1) 10 a2) 11 (rd 2)) := rfl
  exact W.vret hx hb hr (fun t ht hW => ⟨⟨rfl, by rw [e9, ht]; exact hP⟩, hS.F ht⟩) hS.2.2 dX6_keepStop_26
theorem bV_X6_keepStop : BV RX6 yX6_keepStop cX6_keepStop 3 none 2 := ⟨wcd_X6_keepStop, wim_X6_keepStop, wse_X6_keepStop, win_RX6, by decide +kernel⟩
