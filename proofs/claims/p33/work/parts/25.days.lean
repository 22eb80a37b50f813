def DC (x : Int32) : Prop := ∃ j : Nat, j ≤ 30 ∧ x = nI j
theorem DC_0 : DC 0 := ⟨0, by decide, rfl⟩
theorem dstep0 {a x : Int32} (h : DC x) (hc : ¬ a ≤ x) (ha : a ≤ 30) : (x + (1 : Int32)).toNatClampNeg = x.toNatClampNeg + 1 ∧ x.toNatClampNeg < 30 ∧ DC (x + (1 : Int32)) := by
  obtain ⟨j, hj, rfl⟩ := h
  have a1 := Int32.lt_iff_toInt_lt.mp (Int32.not_le.mp hc)
  have a2 := Int32.le_iff_toInt_le.mp ha
  rw [nI_toInt (by omega)] at a1
  rw [show (30 : Int32).toInt = 30 from rfl] at a2
  rw [nI_1, nI_clamp (by omega), nI_clamp (by omega)]
  exact ⟨rfl, by omega, j + 1, by omega, rfl⟩
theorem wi_30 {a : Int32} (h : ¬ pX6_isWithin a 1 30 = 0) : a ≤ 30 := by
  unfold pX6_isWithin at h
  split at h
  · exact absurd rfl h
  · split at h
    · exact absurd rfl h
    · rename_i _ c
      exact Int32.not_lt.mp c

def pX6_ifDays_L34 (rt : (Nat → Int32)) (sg : (Nat → Nat → Int32)) (pw : (Nat → Int32)) (rd : (Nat → Int32)) (u : (Nat → Nat → Int32)) (w : (Nat → Int32)) (h : (Nat → (Nat → Nat → Int32) × (Nat → Int32))) (r : Nat) (v : (Nat → Int32)) (tu : (Nat → Nat → Int32)) (tw : (Nat → Int32)) (su : (Nat → Nat → Int32)) (sw : (Nat → Int32)) (g : (Nat → Nat → Int32)) (a1 : Int32) (a2 : Int32) : Nat → Int32 → (Nat → Nat → Int32) → (Nat → Int32) → Int32 × (Nat → Nat → Int32) × (Nat → Int32)
  | 0, _, _, _ => (0, default, default)
  | k + 1, x0_3, u0_5, w0_5 => (if a1 ≤ x0_3 then (if a2 = 0 then ((pJ6_bitCount_0f7a4 (pX0_cleanLines u0_5 w0_5)), u0_5, w0_5) else (if a2 = 1 then ((pX0_sumOverLines_3 u0_5 w0_5), u0_5, w0_5) else (if a2 = 2 then ((pX0_sumOverLines_4 u0_5 w0_5), u0_5, w0_5) else ((w0_5 11), u0_5, w0_5)))) else (pX6_ifDays_L34 rt sg pw rd u w h r v tu tw su sw g a1 a2 k (x0_3 + (1 : Int32)) (pX0_passDay u0_5 w0_5).1 (pX0_passDay u0_5 w0_5).2))
theorem pX6_ifDays_L34_s (rt : (Nat → Int32)) (sg : (Nat → Nat → Int32)) (pw : (Nat → Int32)) (rd : (Nat → Int32)) (u : (Nat → Nat → Int32)) (w : (Nat → Int32)) (h : (Nat → (Nat → Nat → Int32) × (Nat → Int32))) (r : Nat) (v : (Nat → Int32)) (tu : (Nat → Nat → Int32)) (tw : (Nat → Int32)) (su : (Nat → Nat → Int32)) (sw : (Nat → Int32)) (g : (Nat → Nat → Int32)) (a1 : Int32) (a2 : Int32) (k : Nat) (x0_3 : Int32) (u0_5 : (Nat → Nat → Int32)) (w0_5 : (Nat → Int32)) : pX6_ifDays_L34 rt sg pw rd u w h r v tu tw su sw g a1 a2 (k + 1) x0_3 u0_5 w0_5 = (if a1 ≤ x0_3 then (if a2 = 0 then ((pJ6_bitCount_0f7a4 (pX0_cleanLines u0_5 w0_5)), u0_5, w0_5) else (if a2 = 1 then ((pX0_sumOverLines_3 u0_5 w0_5), u0_5, w0_5) else (if a2 = 2 then ((pX0_sumOverLines_4 u0_5 w0_5), u0_5, w0_5) else ((w0_5 11), u0_5, w0_5)))) else (pX6_ifDays_L34 rt sg pw rd u w h r v tu tw su sw g a1 a2 k (x0_3 + (1 : Int32)) (pX0_passDay u0_5 w0_5).1 (pX0_passDay u0_5 w0_5).2)) := rfl
def pX6_ifDays (rt : (Nat → Int32)) (sg : (Nat → Nat → Int32)) (pw : (Nat → Int32)) (rd : (Nat → Int32)) (u : (Nat → Nat → Int32)) (w : (Nat → Int32)) (h : (Nat → (Nat → Nat → Int32) × (Nat → Int32))) (r : Nat) (v : (Nat → Int32)) (tu : (Nat → Nat → Int32)) (tw : (Nat → Int32)) (su : (Nat → Nat → Int32)) (sw : (Nat → Int32)) (g : (Nat → Nat → Int32)) (a1 : Int32) (a2 : Int32) : Int32 × (Nat → Nat → Int32) × (Nat → Int32) := (if (pX6_isWithin a1 1 30) = 0 then ((-1), tu, tw) else (if (pX6_isWithin a2 0 3) = 0 then ((-1), tu, tw) else (pX6_ifDays_L34 rt sg pw rd u w h r v tu tw su sw g a1 a2 31 0 (pX0_copyFrom tu tw u w).1 (pX0_copyFrom tu tw u w).2)))
set_option maxHeartbeats 4000000 in
set_option maxRecDepth 100000 in
theorem kX6_ifDays (l : Launch) (D : va_G) (cyC cyI cyO : ClassId) (Z : Nat → Nat) (C : Nat → Nat) (TR : Nat → Nat) (SN : Nat → Nat) (HI : Nat → Nat) (Y : Nat → Nat) (P : Nat → Nat) (R : Nat → Nat) (BB : Nat → Nat → Nat) (rt : (Nat → Int32)) (sg : (Nat → Nat → Int32)) (pw : (Nat → Int32)) (rd : (Nat → Int32)) (u : (Nat → Nat → Int32)) (w : (Nat → Int32)) (h : (Nat → (Nat → Nat → Int32) × (Nat → Int32))) (r : Nat) (v : (Nat → Int32)) (tu : (Nat → Nat → Int32)) (tw : (Nat → Int32)) (su : (Nat → Nat → Int32)) (sw : (Nat → Int32)) (g : (Nat → Nat → Int32)) (a1 : Int32) (a2 : Int32) (hq : (w 12) < 4) : MU l yX6_ifDays (Ty yX6_ifDays cX6_ifDays 4 (some .int)) ({ frames := 5, cells := 0, slots := 0, locals := 105 } : Room) D cyC cyI cyO (List.flatten [wRt Z C TR SN HI Y P R rt, wPd cyC P sg pw, wRd R P rd, wC cyI C u w, wHM cyI cyO HI BB h r v, wC cyI TR tu tw, wC cyI SN su sw, wWy cyI Y g]) [.ref (Z 0), .int a1, .int a2] (some (.int (pX6_ifDays rt sg pw rd u w h r v tu tw su sw g a1 a2).1)) (List.flatten [wRt Z C TR SN HI Y P R rt, wPd cyC P sg pw, wRd R P rd, wC cyI C u w, wHM cyI cyO HI BB h r v, wC cyI TR (pX6_ifDays rt sg pw rd u w h r v tu tw su sw g a1 a2).2.1 (pX6_ifDays rt sg pw rd u w h r v tu tw su sw g a1 a2).2.2, wC cyI SN su sw, wWy cyI Y g]) := by
  intro sz
  refine Met.ofW (cc := cX6_ifDays) (maxL := 4) (ret := (some .int)) (by decide) rfl ?_
  intro p e s m args below meth cd s₁ B hml hv
  obtain ⟨rfl, hsz, hP, hK, hD0⟩ := hv
  have hx := B.exec
  have hb := B.bytes
  have hr := B.returns
  have hts : ∀ w ∈ TB, w.before ([.ref (Z 0), .int a1, .int a2] : List Value).toArray s = true := fun w h => atoms_spec (ws := (Ty yX6_ifDays cX6_ifDays 4 (some .int))) B.pre w (List.mem_cons_of_mem _ h)
  have hown : s.vm.findClass RX6 = some m.cls := findClass_of_methodNamed B.named
  have hlocks := B.notSynchronized
  subst hsz
  have hD := hD0.self (sz := s.heap.size)
  have hA : ∀ q : Nat, s.heap.size ≤ q → (va_A (List.flatten [wRt Z C TR SN HI Y P R rt, wPd cyC P sg pw, wRd R P rd, wC cyI C u w, wHM cyI cyO HI BB h r v, wC cyI TR tu tw, wC cyI SN su sw, wWy cyI Y g]) s.heap.size) q := fun q h => Or.inr h
  generalize hAe : va_A (List.flatten [wRt Z C TR SN HI Y P R rt, wPd cyC P sg pw, wRd R P rd, wC cyI C u w, wHM cyI cyO HI BB h r v, wC cyI TR tu tw, wC cyI SN su sw, wWy cyI Y g]) s.heap.size = A0 at hD hA ⊢
  have hS : va_S A0 s.heap s.heap [] := va_S.rf
  have hl := lv_entry ([.ref (Z 0), .int a1, .int a2]) (n := 4) (Nat.le_of_ble_eq_true rfl)
  rw [lg_entry_eq]
  generalize (lg_sl ([.ref (Z 0), .int a1, .int a2]) ++ List.replicate (4 - (lg_sl ([.ref (Z 0), .int a1, .int a2])).length) Slot.unset).toArray = ls at hl ⊢
  have hl : lv_has ls 4 [(0, .ref (Z 0)), (1, .int a1), (2, .int a2)] := hl
  refine lv_iload_n hx hb dX6_ifDays_0 rfl (lv_at hl 1 rfl) ?_
  refine lv_iconst (v := 1) hx hb dX6_ifDays_1 (by decide) ?_
  refine lv_bipush (v := 30) hx hb dX6_ifDays_2 (by decide) ?_
  refine rS (As := [.int a1, .int 1, .int 30]) (rest := []) hx hb hml hown hts hl.1 (kX6_isWithin l D cyC cyI cyO a1 1 30) bS_X6_isWithin  wml_RX6_58 ⟨rfl, rfl⟩ ⟨Nat.le_of_ble_eq_true rfl, Nat.le_of_ble_eq_true rfl, Nat.zero_le _, Nat.zero_le _⟩ [] rfl hP hK rfl rfl (Nat.le_of_ble_eq_true rfl) dX6_ifDays_4 ?_
  refine lv_if_eq (tgt := 19) hx hb dX6_ifDays_7 (by decide) (fun c_1 => ?_) (fun c_1 => ?_)
  · refine lv_iconst (v := (-1)) hx hb dX6_ifDays_19 (by decide) ?_
    have e9 : (pX6_ifDays rt sg pw rd u w h r v tu tw su sw g a1 a2) = ((-1), tu, tw) := by simp only [pX6_ifDays, if_pos c_1]
    have e9_0 : (pX6_ifDays rt sg pw rd u w h r v tu tw su sw g a1 a2).1 = (-1) := by rw [e9]
    have e9_1 : (pX6_ifDays rt sg pw rd u w h r v tu tw su sw g a1 a2).2.1 = tu := by rw [e9]
    have e9_2 : (pX6_ifDays rt sg pw rd u w h r v tu tw su sw g a1 a2).2.2 = tw := by rw [e9]
    exact W.iret (v := (-1)) hx hb hr (fun t ht hW => ⟨⟨by rw [e9_0], by rw [e9_1, e9_2, ht]; exact hP⟩, hS.F ht⟩) hS.2.2 dX6_ifDays_20
  · refine lv_iload_n hx hb dX6_ifDays_10 rfl (lv_at hl 2 rfl) ?_
    refine lv_iconst (v := 0) hx hb dX6_ifDays_11 (by decide) ?_
    refine lv_iconst (v := 3) hx hb dX6_ifDays_12 (by decide) ?_
    refine rS (As := [.int a2, .int 0, .int 3]) (rest := []) hx hb hml hown hts hl.1 (kX6_isWithin l D cyC cyI cyO a2 0 3) bS_X6_isWithin  wml_RX6_58 ⟨rfl, rfl⟩ ⟨Nat.le_of_ble_eq_true rfl, Nat.le_of_ble_eq_true rfl, Nat.zero_le _, Nat.zero_le _⟩ [] rfl hP hK rfl rfl (Nat.le_of_ble_eq_true rfl) dX6_ifDays_13 ?_
    refine lv_if_ne (tgt := 21) hx hb dX6_ifDays_16 (by decide) (fun c_2 => ?_) (fun c_2 => ?_)
    · refine lv_aload_n hx hb dX6_ifDays_21 rfl (lv_at hl 0 rfl) ?_
      refine va_get (D := D) (ci := 5) (v := .ref (TR 0)) (C := RX6) (T := TX6) (N := 12) hx hb hts inT_X6 hown hK.1 hP 0 rfl rfl 1 (by decide) (hts _ wfl_RX6_16) (fun _ h9 => h9) rfl dX6_ifDays_22 ?_
      refine lv_aload_n hx hb dX6_ifDays_25 rfl (lv_at hl 0 rfl) ?_
      refine va_get (D := D) (ci := 5) (v := .ref (C 0)) (C := RX6) (T := TX6) (N := 12) hx hb hts inT_X6 hown hK.1 hP 0 rfl rfl 0 (by decide) (hts _ wfl_RX6_10) (fun _ h9 => h9) rfl dX6_ifDays_26 ?_
      obtain ⟨z_3, hz_3⟩ : ∃ q, q = (pX0_copyFrom tu tw u w) := ⟨_, rfl⟩
      refine mVB (bl := [wRt Z C TR SN HI Y P R rt, wPd cyC P sg pw, wRd R P rd, wC cyI C u w, wHM cyI cyO HI BB h r v, wC cyI TR tu tw, wC cyI SN su sw, wWy cyI Y g]) (bl' := [wRt Z C TR SN HI Y P R rt, wPd cyC P sg pw, wRd R P rd, wC cyI C u w, wHM cyI cyO HI BB h r v, wC cyI TR z_3.1 z_3.2, wC cyI SN su sw, wWy cyI Y g]) (WSb := [wC cyI TR tu tw, wC cyI C u w]) (WSb' := [wC cyI TR z_3.1 z_3.2, wC cyI C u w]) (As := [.ref (C 0)]) (rest := []) hx hb hml hown hts hl.1 (WS := (wC cyI TR tu tw ++ (wC cyI C u w))) (WS' := (wC cyI TR z_3.1 z_3.2 ++ (wC cyI C u w))) (ro := none) (by rw [hz_3]; exact kX0_copyFrom l D cyC cyI cyO TR C tu tw u w) bV_X0_copyFrom wml_RX6_260 ⟨rfl, rfl⟩ ⟨Nat.le_of_ble_eq_true rfl, Nat.le_of_ble_eq_true rfl, Nat.zero_le _, Nat.zero_le _⟩ [5, 3] (by simp only [List.flatten_cons, List.flatten_nil, List.append_nil]) (by simp only [List.flatten_cons, List.flatten_nil, List.append_nil]) rfl rfl rfl rfl rfl hP hD hS hA hK 0 rfl rfl rfl rfl rfl (Nat.le_of_ble_eq_true rfl) dX6_ifDays_29 (fun H locs hP hD hS => ?_)
      refine lv_iconst (v := 0) hx hb dX6_ifDays_32 (by decide) ?_
      refine lv_istore_n (lv' := [(3, .int 0), (0, .ref (Z 0)), (1, .int a1), (2, .int a2)]) hx hb dX6_ifDays_33 rfl hl (by decide) rfl (fun ls hl => ?_)
      have key_34 : ∀ k : Nat, ∀ (x0_3 : Int32) (u0_5 : (Nat → Nat → Int32)) (w0_5 : (Nat → Int32)), (30 - (x0_3).toNatClampNeg) < k → pX6_ifDays_L34 rt sg pw rd u w h r v tu tw su sw g a1 a2 k x0_3 u0_5 w0_5 = (pX6_ifDays rt sg pw rd u w h r v tu tw su sw g a1 a2) → DC x0_3 → ((w0_5 12) < 4) → ∀ (H : Heap) (locs : List Loc), va_P D vwCl (List.flatten [wRt Z C TR SN HI Y P R rt, wPd cyC P sg pw, wRd R P rd, wC cyI C u w, wHM cyI cyO HI BB h r v, wC cyI TR u0_5 w0_5, wC cyI SN su sw, wWy cyI Y g]) H → va_D A0 (List.flatten [wRt Z C TR SN HI Y P R rt, wPd cyC P sg pw, wRd R P rd, wC cyI C u w, wHM cyI cyO HI BB h r v, wC cyI TR u0_5 w0_5, wC cyI SN su sw, wWy cyI Y g]) → va_S A0 s.heap H locs → ∀ (ls : Array Slot), lv_has ls 4 [(0, .ref (Z 0)), (1, .int a1), (2, .int a2), (3, .int x0_3)] → W p l e (headSpec (Ty yX6_ifDays cX6_ifDays 4 (some .int)) ({ frames := 5, cells := 0, slots := 0, locals := 105 } : Room)).room s m ([.ref (Z 0), .int a1, .int a2] : List Value).toArray below meth cd H locs 0 0 (MQ below (MQQ (some (.int (pX6_ifDays rt sg pw rd u w h r v tu tw su sw g a1 a2).1)) D (List.flatten [wRt Z C TR SN HI Y P R rt, wPd cyC P sg pw, wRd R P rd, wC cyI C u w, wHM cyI cyO HI BB h r v, wC cyI TR (pX6_ifDays rt sg pw rd u w h r v tu tw su sw g a1 a2).2.1 (pX6_ifDays rt sg pw rd u w h r v tu tw su sw g a1 a2).2.2, wC cyI SN su sw, wWy cyI Y g]) A0) ([.ref (Z 0), .int a1, .int a2] : List Value).toArray s 0 0 A0) (F0 m 34 ls []) := by
        intro k
        induction k with
        | zero =>
          intro x0_3 u0_5 w0_5 hm_34 hN_34 hct hqt H locs hP hD hS ls hl
          exact absurd hm_34 (Nat.not_lt_zero _)
        | succ k ih_34 =>
          intro x0_3 u0_5 w0_5 hm_34 hN_34 hct hqt H locs hP hD hS ls hl
          refine lv_iload_n hx hb dX6_ifDays_34 rfl (lv_at hl 3 rfl) ?_
          refine lv_iload_n hx hb dX6_ifDays_35 rfl (lv_at hl 1 rfl) ?_
          refine lv_icmp_ge (tgt := 52) hx hb dX6_ifDays_36 (by decide) (fun c_4 => ?_) (fun c_4 => ?_)
          · refine lv_iload_n hx hb dX6_ifDays_52 rfl (lv_at hl 2 rfl) ?_
            by_cases c_5 : a2 = 0
            · refine lv_tableIn (off := 27) (tgt := 80) hx hb dX6_ifDays_53 (by rw [c_5]; decide) (by rw [c_5]; decide) (by rw [c_5]; rfl) (by decide) ?_
              refine lv_aload_n hx hb dX6_ifDays_80 rfl (lv_at hl 0 rfl) ?_
              refine va_get (D := D) (ci := 5) (v := .ref (TR 0)) (C := RX6) (T := TX6) (N := 12) hx hb hts inT_X6 hown hK.1 hP 0 rfl rfl 1 (by decide) (hts _ wfl_RX6_16) (fun _ h9 => h9) rfl dX6_ifDays_81 ?_
              refine rVB (bl := [wRt Z C TR SN HI Y P R rt, wPd cyC P sg pw, wRd R P rd, wC cyI C u w, wHM cyI cyO HI BB h r v, wC cyI TR u0_5 w0_5, wC cyI SN su sw, wWy cyI Y g]) (WSb := [wC cyI TR u0_5 w0_5]) (As := []) (rest := []) hx hb hml hown hts hl.1 (kX0_cleanLines l D cyC cyI cyO TR u0_5 w0_5) bV_X0_cleanLines wml_RX6_131 ⟨rfl, rfl⟩ ⟨Nat.le_of_ble_eq_true rfl, Nat.le_of_ble_eq_true rfl, Nat.zero_le _, Nat.zero_le _⟩ [5] (by simp only [List.flatten_cons, List.flatten_nil, List.append_nil]) rfl hP hK 0 rfl rfl rfl rfl rfl (Nat.le_of_ble_eq_true rfl) dX6_ifDays_84 ?_
              refine rS (As := [.int (pX0_cleanLines u0_5 w0_5)]) (rest := []) hx hb hml hown hts hl.1 (kJ6_bitCount_0f7a4 l D cyC cyI cyO (pX0_cleanLines u0_5 w0_5)) bS_J6_bitCount_0f7a4  wml_RX6_89 ⟨rfl, rfl⟩ ⟨Nat.le_of_ble_eq_true rfl, Nat.le_of_ble_eq_true rfl, Nat.zero_le _, Nat.zero_le _⟩ [] rfl hP hK rfl rfl (Nat.le_of_ble_eq_true rfl) dX6_ifDays_87 ?_
              have e9 : (pX6_ifDays rt sg pw rd u w h r v tu tw su sw g a1 a2) = ((pJ6_bitCount_0f7a4 (pX0_cleanLines u0_5 w0_5)), u0_5, w0_5) := by rw [← hN_34, pX6_ifDays_L34_s] <;> simp only [← hz_3, if_pos c_4, if_pos c_5]
              have e9_0 : (pX6_ifDays rt sg pw rd u w h r v tu tw su sw g a1 a2).1 = (pJ6_bitCount_0f7a4 (pX0_cleanLines u0_5 w0_5)) := by rw [e9]
              have e9_1 : (pX6_ifDays rt sg pw rd u w h r v tu tw su sw g a1 a2).2.1 = u0_5 := by rw [e9]
              have e9_2 : (pX6_ifDays rt sg pw rd u w h r v tu tw su sw g a1 a2).2.2 = w0_5 := by rw [e9]
              exact W.iret (v := (pJ6_bitCount_0f7a4 (pX0_cleanLines u0_5 w0_5))) hx hb hr (fun t ht hW => ⟨⟨by rw [e9_0], by rw [e9_1, e9_2, ht]; exact hP⟩, hS.F ht⟩) hS.2.2 dX6_ifDays_90
            · by_cases c_6 : a2 = 1
              · refine lv_tableIn (off := 38) (tgt := 91) hx hb dX6_ifDays_53 (by rw [c_6]; decide) (by rw [c_6]; decide) (by rw [c_6]; rfl) (by decide) ?_
                refine lv_aload_n hx hb dX6_ifDays_91 rfl (lv_at hl 0 rfl) ?_
                refine va_get (D := D) (ci := 5) (v := .ref (TR 0)) (C := RX6) (T := TX6) (N := 12) hx hb hts inT_X6 hown hK.1 hP 0 rfl rfl 1 (by decide) (hts _ wfl_RX6_16) (fun _ h9 => h9) rfl dX6_ifDays_92 ?_
                refine lv_aload_n hx hb dX6_ifDays_95 rfl (lv_at hl 0 rfl) ?_
                refine va_get (D := D) (ci := 5) (v := .ref (TR 0)) (C := RX6) (T := TX6) (N := 12) hx hb hts inT_X6 hown hK.1 hP 0 rfl rfl 1 (by decide) (hts _ wfl_RX6_16) (fun _ h9 => h9) rfl dX6_ifDays_96 ?_
                refine va_get (D := D) (ci := 0) (v := .ref (TR 3)) (C := RX0) (T := TX0) (N := 19) hx hb hts inT_X0 hown hK.1 hP 51 rfl rfl 2 (by decide) (hts _ wfl_RX6_208) (fun _ h9 => h9) rfl dX6_ifDays_99 ?_
                refine rVB (bl := [wRt Z C TR SN HI Y P R rt, wPd cyC P sg pw, wRd R P rd, wC cyI C u w, wHM cyI cyO HI BB h r v, wC cyI TR u0_5 w0_5, wC cyI SN su sw, wWy cyI Y g]) (WSb := [wC cyI TR u0_5 w0_5]) (As := [.ref (TR 3)]) (rest := []) hx hb hml hown hts hl.1 (kX0_sumOverLines_3 l D cyC cyI cyO TR u0_5 w0_5) bV_X0_sumOverLines wml_RX6_263 ⟨rfl, rfl⟩ ⟨Nat.le_of_ble_eq_true rfl, Nat.le_of_ble_eq_true rfl, Nat.zero_le _, Nat.zero_le _⟩ [5] (by simp only [List.flatten_cons, List.flatten_nil, List.append_nil]) rfl hP hK 0 rfl rfl rfl rfl rfl (Nat.le_of_ble_eq_true rfl) dX6_ifDays_102 ?_
                have e9 : (pX6_ifDays rt sg pw rd u w h r v tu tw su sw g a1 a2) = ((pX0_sumOverLines_3 u0_5 w0_5), u0_5, w0_5) := by rw [← hN_34, pX6_ifDays_L34_s] <;> simp only [← hz_3, if_pos c_4, if_neg c_5, if_pos c_6]
                have e9_0 : (pX6_ifDays rt sg pw rd u w h r v tu tw su sw g a1 a2).1 = (pX0_sumOverLines_3 u0_5 w0_5) := by rw [e9]
                have e9_1 : (pX6_ifDays rt sg pw rd u w h r v tu tw su sw g a1 a2).2.1 = u0_5 := by rw [e9]
                have e9_2 : (pX6_ifDays rt sg pw rd u w h r v tu tw su sw g a1 a2).2.2 = w0_5 := by rw [e9]
                exact W.iret (v := (pX0_sumOverLines_3 u0_5 w0_5)) hx hb hr (fun t ht hW => ⟨⟨by rw [e9_0], by rw [e9_1, e9_2, ht]; exact hP⟩, hS.F ht⟩) hS.2.2 dX6_ifDays_105
              · by_cases c_7 : a2 = 2
                · refine lv_tableIn (off := 53) (tgt := 106) hx hb dX6_ifDays_53 (by rw [c_7]; decide) (by rw [c_7]; decide) (by rw [c_7]; rfl) (by decide) ?_
                  refine lv_aload_n hx hb dX6_ifDays_106 rfl (lv_at hl 0 rfl) ?_
                  refine va_get (D := D) (ci := 5) (v := .ref (TR 0)) (C := RX6) (T := TX6) (N := 12) hx hb hts inT_X6 hown hK.1 hP 0 rfl rfl 1 (by decide) (hts _ wfl_RX6_16) (fun _ h9 => h9) rfl dX6_ifDays_107 ?_
                  refine lv_aload_n hx hb dX6_ifDays_110 rfl (lv_at hl 0 rfl) ?_
                  refine va_get (D := D) (ci := 5) (v := .ref (TR 0)) (C := RX6) (T := TX6) (N := 12) hx hb hts inT_X6 hown hK.1 hP 0 rfl rfl 1 (by decide) (hts _ wfl_RX6_16) (fun _ h9 => h9) rfl dX6_ifDays_111 ?_
                  refine va_get (D := D) (ci := 0) (v := .ref (TR 4)) (C := RX0) (T := TX0) (N := 19) hx hb hts inT_X0 hown hK.1 hP 51 rfl rfl 3 (by decide) (hts _ wfl_RX6_211) (fun _ h9 => h9) rfl dX6_ifDays_114 ?_
                  refine rVB (bl := [wRt Z C TR SN HI Y P R rt, wPd cyC P sg pw, wRd R P rd, wC cyI C u w, wHM cyI cyO HI BB h r v, wC cyI TR u0_5 w0_5, wC cyI SN su sw, wWy cyI Y g]) (WSb := [wC cyI TR u0_5 w0_5]) (As := [.ref (TR 4)]) (rest := []) hx hb hml hown hts hl.1 (kX0_sumOverLines_4 l D cyC cyI cyO TR u0_5 w0_5) bV_X0_sumOverLines wml_RX6_263 ⟨rfl, rfl⟩ ⟨Nat.le_of_ble_eq_true rfl, Nat.le_of_ble_eq_true rfl, Nat.zero_le _, Nat.zero_le _⟩ [5] (by simp only [List.flatten_cons, List.flatten_nil, List.append_nil]) rfl hP hK 0 rfl rfl rfl rfl rfl (Nat.le_of_ble_eq_true rfl) dX6_ifDays_117 ?_
                  have e9 : (pX6_ifDays rt sg pw rd u w h r v tu tw su sw g a1 a2) = ((pX0_sumOverLines_4 u0_5 w0_5), u0_5, w0_5) := by rw [← hN_34, pX6_ifDays_L34_s] <;> simp only [← hz_3, if_pos c_4, if_neg c_5, if_neg c_6, if_pos c_7]
                  have e9_0 : (pX6_ifDays rt sg pw rd u w h r v tu tw su sw g a1 a2).1 = (pX0_sumOverLines_4 u0_5 w0_5) := by rw [e9]
                  have e9_1 : (pX6_ifDays rt sg pw rd u w h r v tu tw su sw g a1 a2).2.1 = u0_5 := by rw [e9]
                  have e9_2 : (pX6_ifDays rt sg pw rd u w h r v tu tw su sw g a1 a2).2.2 = w0_5 := by rw [e9]
                  exact W.iret (v := (pX0_sumOverLines_4 u0_5 w0_5)) hx hb hr (fun t ht hW => ⟨⟨by rw [e9_0], by rw [e9_1, e9_2, ht]; exact hP⟩, hS.F ht⟩) hS.2.2 dX6_ifDays_120
                · have nc_5 : (a2 : Int32).toInt ≠ 0 := fun h => c_5 (Int32.toInt_inj.mp (h.trans (by decide)))
                  have nc_6 : (a2 : Int32).toInt ≠ 1 := fun h => c_6 (Int32.toInt_inj.mp (h.trans (by decide)))
                  have nc_7 : (a2 : Int32).toInt ≠ 2 := fun h => c_7 (Int32.toInt_inj.mp (h.trans (by decide)))
                  refine lv_tableOut (tgt := 121) hx hb dX6_ifDays_53 (by omega) (by decide) ?_
                  refine lv_aload_n hx hb dX6_ifDays_121 rfl (lv_at hl 0 rfl) ?_
                  refine va_get (D := D) (ci := 5) (v := .ref (TR 0)) (C := RX6) (T := TX6) (N := 12) hx hb hts inT_X6 hown hK.1 hP 0 rfl rfl 1 (by decide) (hts _ wfl_RX6_16) (fun _ h9 => h9) rfl dX6_ifDays_122 ?_
                  refine va_get (D := D) (ci := 0) (v := .int (w0_5 11)) (C := RX0) (T := TX0) (N := 19) hx hb hts inT_X0 hown hK.1 hP 51 rfl rfl 11 (by decide) (hts _ wfl_RX6_74) (fun _ h9 => h9) rfl dX6_ifDays_125 ?_
                  have e9 : (pX6_ifDays rt sg pw rd u w h r v tu tw su sw g a1 a2) = ((w0_5 11), u0_5, w0_5) := by rw [← hN_34, pX6_ifDays_L34_s] <;> simp only [← hz_3, if_pos c_4, if_neg c_5, if_neg c_6, if_neg c_7]
                  have e9_0 : (pX6_ifDays rt sg pw rd u w h r v tu tw su sw g a1 a2).1 = (w0_5 11) := by rw [e9]
                  have e9_1 : (pX6_ifDays rt sg pw rd u w h r v tu tw su sw g a1 a2).2.1 = u0_5 := by rw [e9]
                  have e9_2 : (pX6_ifDays rt sg pw rd u w h r v tu tw su sw g a1 a2).2.2 = w0_5 := by rw [e9]
                  exact W.iret (v := (w0_5 11)) hx hb hr (fun t ht hW => ⟨⟨by rw [e9_0], by rw [e9_1, e9_2, ht]; exact hP⟩, hS.F ht⟩) hS.2.2 dX6_ifDays_128
          · refine lv_aload_n hx hb dX6_ifDays_39 rfl (lv_at hl 0 rfl) ?_
            refine va_get (D := D) (ci := 5) (v := .ref (TR 0)) (C := RX6) (T := TX6) (N := 12) hx hb hts inT_X6 hown hK.1 hP 0 rfl rfl 1 (by decide) (hts _ wfl_RX6_16) (fun _ h9 => h9) rfl dX6_ifDays_40 ?_
            obtain ⟨z_8, hz_8⟩ : ∃ q, q = (pX0_passDay u0_5 w0_5) := ⟨_, rfl⟩
            refine mVB (bl := [wRt Z C TR SN HI Y P R rt, wPd cyC P sg pw, wRd R P rd, wC cyI C u w, wHM cyI cyO HI BB h r v, wC cyI TR u0_5 w0_5, wC cyI SN su sw, wWy cyI Y g]) (bl' := [wRt Z C TR SN HI Y P R rt, wPd cyC P sg pw, wRd R P rd, wC cyI C u w, wHM cyI cyO HI BB h r v, wC cyI TR z_8.1 z_8.2, wC cyI SN su sw, wWy cyI Y g]) (WSb := [wC cyI TR u0_5 w0_5]) (WSb' := [wC cyI TR z_8.1 z_8.2]) (As := []) (rest := []) hx hb hml hown hts hl.1 (WS := (wC cyI TR u0_5 w0_5)) (WS' := (wC cyI TR z_8.1 z_8.2)) (ro := none) (by rw [hz_8]; exact kX0_passDay l D cyC cyI cyO TR u0_5 w0_5 hqt) bV_X0_passDay wml_RX6_128 ⟨rfl, rfl⟩ ⟨Nat.le_of_ble_eq_true rfl, Nat.le_of_ble_eq_true rfl, Nat.zero_le _, Nat.zero_le _⟩ [5] (by simp only [List.flatten_cons, List.flatten_nil, List.append_nil]) (by simp only [List.flatten_cons, List.flatten_nil, List.append_nil]) rfl rfl rfl rfl rfl hP hD hS hA hK 0 rfl rfl rfl rfl rfl (Nat.le_of_ble_eq_true rfl) dX6_ifDays_43 (fun H locs hP hD hS => ?_)
            refine lv_iinc (v := (x0_3 + (1 : Int32))) (lv' := [(3, .int (x0_3 + (1 : Int32))), (0, .ref (Z 0)), (1, .int a1), (2, .int a2)]) hx hb dX6_ifDays_46 hl (k := 3) rfl rfl (by decide) rfl (fun ls hl => ?_)
            refine lv_goto (tgt := 34) hx hb dX6_ifDays_49 (by decide) ?_
            exact ih_34  (x0_3 + (1 : Int32)) z_8.1 z_8.2 (by have h9 := (dstep0 hct c_4 (wi_30 c_1)); omega) (by rw [← hN_34, pX6_ifDays_L34_s] <;> simp only [← hz_3, ← hz_8, if_neg c_4]) (dstep0 hct c_4 (wi_30 c_1)).2.2 (by rw [hz_8, pd12]; exact hqt) _ _ hP hD hS ls (lv_sub hl [1, 2, 3, 0] rfl)
      exact key_34 31 0 z_3.1 z_3.2 (by omega) (by simp only [pX6_ifDays, ← hz_3, if_neg c_1, if_neg c_2]) DC_0 (by rw [hz_3]; exact hq) _ _ hP hD hS ls (lv_sub hl [1, 2, 3, 0] rfl)
    · refine lv_iconst (v := (-1)) hx hb dX6_ifDays_19 (by decide) ?_
      have e9 : (pX6_ifDays rt sg pw rd u w h r v tu tw su sw g a1 a2) = ((-1), tu, tw) := by simp only [pX6_ifDays, if_neg c_1, if_pos c_2]
      have e9_0 : (pX6_ifDays rt sg pw rd u w h r v tu tw su sw g a1 a2).1 = (-1) := by rw [e9]
      have e9_1 : (pX6_ifDays rt sg pw rd u w h r v tu tw su sw g a1 a2).2.1 = tu := by rw [e9]
      have e9_2 : (pX6_ifDays rt sg pw rd u w h r v tu tw su sw g a1 a2).2.2 = tw := by rw [e9]
      exact W.iret (v := (-1)) hx hb hr (fun t ht hW => ⟨⟨by rw [e9_0], by rw [e9_1, e9_2, ht]; exact hP⟩, hS.F ht⟩) hS.2.2 dX6_ifDays_20
theorem bV_X6_ifDays : BV RX6 yX6_ifDays cX6_ifDays 4 (some .int) 2 := ⟨wcd_X6_ifDays, wim_X6_ifDays, wse_X6_ifDays, win_RX6, by decide +kernel⟩
