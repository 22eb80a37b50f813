def dW (a3 : Int32) : Int32 := (pL_low a3 ((if (pL_low (a3 >>> ((15 : Int32) &&& 31)) 7) = 0 then 5 else 4) : Int32))
def dN (a3 : Int32) : Int32 := ((if (pL_low (a3 >>> ((14 : Int32) &&& 31)) 9) = 0 then 28 else (if 12 ≤ (pL_low (a3 >>> ((3 : Int32) &&& 31)) 24) then ((pL_low (a3 >>> ((3 : Int32) &&& 31)) 24) + (4 : Int32)) else ((((pL_low (a3 >>> ((3 : Int32) &&& 31)) 24) / (3 : Int32)) * (4 : Int32)) + ((pL_low (a3 >>> ((3 : Int32) &&& 31)) 24) - (pL_low (a3 >>> ((3 : Int32) &&& 31)) 24) / (3 : Int32) * (3 : Int32))))) : Int32)
def pL_deeds_0 (rt : (Nat → Int32)) (sg : (Nat → Nat → Int32)) (pw : (Nat → Int32)) (rd : (Nat → Int32)) (u : (Nat → Nat → Int32)) (w : (Nat → Int32)) (h : (Nat → (Nat → Nat → Int32) × (Nat → Int32))) (r : Nat) (v : (Nat → Int32)) (tu : (Nat → Nat → Int32)) (tw : (Nat → Int32)) (su : (Nat → Nat → Int32)) (sw : (Nat → Int32)) (g : (Nat → Nat → Int32)) (a3 : Int32) : (Nat → (Nat → Nat → Int32) × (Nat → Int32)) × Nat × (Nat → Int32) × (Nat → Nat → Int32) × (Nat → Int32) := ((pX6_hang rt sg pw rd u w h r v tu tw su sw g (dW a3) (dN a3)).2.1, (pX6_hang rt sg pw rd u w h r v tu tw su sw g (dW a3) (dN a3)).2.2.1, (pX6_hang rt sg pw rd u w h r v tu tw su sw g (dW a3) (dN a3)).2.2.2.1, (pX6_hang rt sg pw rd u w h r v tu tw su sw g (dW a3) (dN a3)).2.2.2.2.1, (pX6_hang rt sg pw rd u w h r v tu tw su sw g (dW a3) (dN a3)).2.2.2.2.2)
def HF_L_deeds_0 (rt : (Nat → Int32)) (sg : (Nat → Nat → Int32)) (pw : (Nat → Int32)) (rd : (Nat → Int32)) (u : (Nat → Nat → Int32)) (w : (Nat → Int32)) (h : (Nat → (Nat → Nat → Int32) × (Nat → Int32))) (r : Nat) (v : (Nat → Int32)) (tu : (Nat → Nat → Int32)) (tw : (Nat → Int32)) (su : (Nat → Nat → Int32)) (sw : (Nat → Int32)) (g : (Nat → Nat → Int32)) (a3 : Int32) : Prop := ( ¬ ((if (pL_low (a3 >>> ((15 : Int32) &&& 31)) 7) = 0 then 5 else 4) : Int32) = 0) ∧ ( (pX6_hang rt sg pw rd u w h r v tu tw su sw g (dW a3) (dN a3)).1 = ((if ((if (dW a3) = 4 then 1 else (if (dN a3) = 28 then 1 else 0)) : Int32) = 0 then (if ((if ((if (dW a3) = 4 then 1 else (if (dN a3) = 28 then 1 else 0)) : Int32) = 0 then (fY u w (dW a3) (dN a3)) else 0) : Int32) ≤ 0 then ((11 : Int32) + (fC u w 5)) else ((if ((if (dW a3) = 4 then 1 else (if (dN a3) = 28 then 1 else 0)) : Int32) = 0 then (fY u w (dW a3) (dN a3)) else 0) : Int32)) else (-1)) : Int32)) ∧ ( ((pX6_hang rt sg pw rd u w h r v tu tw su sw g (dW a3) (dN a3)).2.2.2.2.2 12) < 4) ∧ ( (fC (pX6_hang rt sg pw rd u w h r v tu tw su sw g (dW a3) (dN a3)).2.2.2.2.1 (pX6_hang rt sg pw rd u w h r v tu tw su sw g (dW a3) (dN a3)).2.2.2.2.2 13) = ((fC u w 13) + ((if ((if ((if (dW a3) = 4 then 1 else (if (dN a3) = 28 then 1 else 0)) : Int32) = 0 then (fY u w (dW a3) (dN a3)) else 0) : Int32) ≤ 0 then 0 else 1) : Int32))) ∧ ((((if (dW a3) = 4 then 1 else (if (dN a3) = 28 then 1 else 0)) : Int32) = 0) → (¬ 0 < ((if ((if (dW a3) = 4 then 1 else (if (dN a3) = 28 then 1 else 0)) : Int32) = 0 then (fY u w (dW a3) (dN a3)) else 0) : Int32)) → ((pX6_hang rt sg pw rd u w h r v tu tw su sw g (dW a3) (dN a3)).2.2.2.2.2 12) < 4) ∧ ((((if (dW a3) = 4 then 1 else (if (dN a3) = 28 then 1 else 0)) : Int32) = 0) → (¬ 0 < ((if ((if (dW a3) = 4 then 1 else (if (dN a3) = 28 then 1 else 0)) : Int32) = 0 then (fY u w (dW a3) (dN a3)) else 0) : Int32)) → (fG (pX6_hang rt sg pw rd u w h r v tu tw su sw g (dW a3) (dN a3)).2.2.2.2.1 (pX6_hang rt sg pw rd u w h r v tu tw su sw g (dW a3) (dN a3)).2.2.2.2.2 (dN a3) 3) = (dW a3)) ∧ ((((if (dW a3) = 4 then 1 else (if (dN a3) = 28 then 1 else 0)) : Int32) = 0) → (¬ 0 < ((if ((if (dW a3) = 4 then 1 else (if (dN a3) = 28 then 1 else 0)) : Int32) = 0 then (fY u w (dW a3) (dN a3)) else 0) : Int32)) → ((fG (pX6_hang rt sg pw rd u w h r v tu tw su sw g (dW a3) (dN a3)).2.2.2.2.1 (pX6_hang rt sg pw rd u w h r v tu tw su sw g (dW a3) (dN a3)).2.2.2.2.2 (dN a3) 4) + (fG (pX6_hang rt sg pw rd u w h r v tu tw su sw g (dW a3) (dN a3)).2.2.2.2.1 (pX6_hang rt sg pw rd u w h r v tu tw su sw g (dW a3) (dN a3)).2.2.2.2.2 (dN a3) 5)) = 0)
set_option maxHeartbeats 4000000 in
set_option maxRecDepth 100000 in
theorem kL_deeds_0 (l : Launch) (D : va_G) (cyC cyI cyO : ClassId) (Z : Nat → Nat) (C : Nat → Nat) (TR : Nat → Nat) (SN : Nat → Nat) (HI : Nat → Nat) (Y : Nat → Nat) (P : Nat → Nat) (R : Nat → Nat) (BB : Nat → Nat → Nat) (rt : (Nat → Int32)) (sg : (Nat → Nat → Int32)) (pw : (Nat → Int32)) (rd : (Nat → Int32)) (u : (Nat → Nat → Int32)) (w : (Nat → Int32)) (h : (Nat → (Nat → Nat → Int32) × (Nat → Int32))) (r : Nat) (v : (Nat → Int32)) (tu : (Nat → Nat → Int32)) (tw : (Nat → Int32)) (su : (Nat → Nat → Int32)) (sw : (Nat → Int32)) (g : (Nat → Nat → Int32)) (a3 : Int32) (hr4 : r < 4) (hq : (w 12) < 4) (hF : HF_L_deeds_0 rt sg pw rd u w h r v tu tw su sw g a3) : MU l yL_deeds (Ty yL_deeds cL_deeds 17 (some .boolean)) ({ frames := 6, cells := 0, slots := 0, locals := 137 } : Room) D cyC cyI cyO (List.flatten [wRt Z C TR SN HI Y P R rt, wPd cyC P sg pw, wRd R P rd, wC cyI C u w, wHM cyI cyO HI BB h r v, wC cyI TR tu tw, wC cyI SN su sw, wWy cyI Y g]) [.ref (Z 0), .int 0, .int a3] (some (.int 1)) (List.flatten [wRt Z C TR SN HI Y P R rt, wPd cyC P sg pw, wRd R P rd, wC cyI C (pL_deeds_0 rt sg pw rd u w h r v tu tw su sw g a3).2.2.2.1 (pL_deeds_0 rt sg pw rd u w h r v tu tw su sw g a3).2.2.2.2, wHM cyI cyO HI BB (pL_deeds_0 rt sg pw rd u w h r v tu tw su sw g a3).1 (pL_deeds_0 rt sg pw rd u w h r v tu tw su sw g a3).2.1 (pL_deeds_0 rt sg pw rd u w h r v tu tw su sw g a3).2.2.1, wC cyI TR tu tw, wC cyI SN su sw, wWy cyI Y g]) := by
  intro sz
  refine Met.ofW (cc := cL_deeds) (maxL := 17) (ret := (some .boolean)) (by decide) rfl ?_
  intro p e s m args below meth cd s₁ B hml hv
  obtain ⟨f18, f188, f194, f210, f227, f231, f249⟩ := hF
  obtain ⟨rfl, hsz, hP, hK, hD0⟩ := hv
  have hx := B.exec
  have hb := B.bytes
  have hr := B.returns
  have hts : ∀ w ∈ TB, w.before ([.ref (Z 0), .int 0, .int a3] : List Value).toArray s = true := fun w h => atoms_spec (ws := (Ty yL_deeds cL_deeds 17 (some .boolean))) B.pre w (List.mem_cons_of_mem _ h)
  have hown : s.vm.findClass RL = some m.cls := findClass_of_methodNamed B.named
  have hlocks := B.notSynchronized
  subst hsz
  have hD := hD0.self (sz := s.heap.size)
  have hA : ∀ q : Nat, s.heap.size ≤ q → (va_A (List.flatten [wRt Z C TR SN HI Y P R rt, wPd cyC P sg pw, wRd R P rd, wC cyI C u w, wHM cyI cyO HI BB h r v, wC cyI TR tu tw, wC cyI SN su sw, wWy cyI Y g]) s.heap.size) q := fun q h => Or.inr h
  generalize hAe : va_A (List.flatten [wRt Z C TR SN HI Y P R rt, wPd cyC P sg pw, wRd R P rd, wC cyI C u w, wHM cyI cyO HI BB h r v, wC cyI TR tu tw, wC cyI SN su sw, wWy cyI Y g]) s.heap.size = A0 at hD hA ⊢
  have hS : va_S A0 s.heap s.heap [] := va_S.rf
  have hl := lv_entry ([.ref (Z 0), .int 0, .int a3]) (n := 17) (Nat.le_of_ble_eq_true rfl)
  rw [lg_entry_eq]
  generalize (lg_sl ([.ref (Z 0), .int 0, .int a3]) ++ List.replicate (17 - (lg_sl ([.ref (Z 0), .int 0, .int a3])).length) Slot.unset).toArray = ls at hl ⊢
  have hl : lv_has ls 17 [(0, .ref (Z 0)), (1, .int 0), (2, .int a3)] := hl
  refine lv_iload_n hx hb dL_deeds_0 rfl (lv_at hl 2 rfl) ?_
  refine lv_iload_n hx hb dL_deeds_1 rfl (lv_at hl 2 rfl) ?_
  refine lv_bipush (v := 15) hx hb dL_deeds_2 (by decide) ?_
  refine lv_ishr hx hb dL_deeds_4 ?_
  refine lv_bipush (v := 7) hx hb dL_deeds_5 (by decide) ?_
  refine rS (As := [.int (a3 >>> ((15 : Int32) &&& 31)), .int 7]) (rest := [.int a3]) hx hb hml hown hts hl.1 (kL_low l D cyC cyI cyO (a3 >>> ((15 : Int32) &&& 31)) 7 (by decide)) bS_L_low  wml_RL_42 ⟨rfl, rfl⟩ ⟨Nat.le_of_ble_eq_true rfl, Nat.le_of_ble_eq_true rfl, Nat.zero_le _, Nat.zero_le _⟩ [] rfl hP hK rfl rfl (Nat.le_of_ble_eq_true rfl) dL_deeds_7 ?_
  obtain ⟨z_3, hz_3⟩ : ∃ q, q = ((if (pL_low (a3 >>> ((15 : Int32) &&& 31)) 7) = 0 then 5 else 4) : Int32) := ⟨_, rfl⟩
  have key_J_2 : W p l e (headSpec (Ty yL_deeds cL_deeds 17 (some .boolean)) ({ frames := 6, cells := 0, slots := 0, locals := 137 } : Room)).room s m ([.ref (Z 0), .int 0, .int a3] : List Value).toArray below meth cd s.heap [] 0 0 (MQ below (MQQ (some (.int 1)) D (List.flatten [wRt Z C TR SN HI Y P R rt, wPd cyC P sg pw, wRd R P rd, wC cyI C (pL_deeds_0 rt sg pw rd u w h r v tu tw su sw g a3).2.2.2.1 (pL_deeds_0 rt sg pw rd u w h r v tu tw su sw g a3).2.2.2.2, wHM cyI cyO HI BB (pL_deeds_0 rt sg pw rd u w h r v tu tw su sw g a3).1 (pL_deeds_0 rt sg pw rd u w h r v tu tw su sw g a3).2.1 (pL_deeds_0 rt sg pw rd u w h r v tu tw su sw g a3).2.2.1, wC cyI TR tu tw, wC cyI SN su sw, wWy cyI Y g]) A0) ([.ref (Z 0), .int 0, .int a3] : List Value).toArray s 0 0 A0) (F0 m 18 ls [.int z_3, .int a3]) := by
    refine rS (As := [.int a3, .int z_3]) (rest := []) hx hb hml hown hts hl.1 (kL_low l D cyC cyI cyO a3 z_3 (by subst hz_3; exact f18)) bS_L_low  wml_RL_42 ⟨rfl, rfl⟩ ⟨Nat.le_of_ble_eq_true rfl, Nat.le_of_ble_eq_true rfl, Nat.zero_le _, Nat.zero_le _⟩ [] rfl hP hK rfl rfl (Nat.le_of_ble_eq_true rfl) dL_deeds_18 ?_
    refine W.eq (congrArg (fun q => F0 m _ ls (.int q :: [])) (show (pL_low a3 z_3) = (dW a3) from (by subst hz_3; rfl))) ?_
    refine lv_istore_n (lv' := [(3, .int (dW a3)), (0, .ref (Z 0)), (1, .int 0), (2, .int a3)]) hx hb dL_deeds_21 rfl hl (by decide) rfl (fun ls hl => ?_)
    refine lv_iload_n hx hb dL_deeds_22 rfl (lv_at hl 3 rfl) ?_
    refine lv_iconst (v := 3) hx hb dL_deeds_23 (by decide) ?_
    refine lv_ishr hx hb dL_deeds_24 ?_
    refine lv_bipush (v := 24) hx hb dL_deeds_25 (by decide) ?_
    refine rS (As := [.int (a3 >>> ((3 : Int32) &&& 31)), .int 24]) (rest := []) hx hb hml hown hts hl.1 (kL_low l D cyC cyI cyO (a3 >>> ((3 : Int32) &&& 31)) 24 (by decide)) bS_L_low  wml_RL_42 ⟨rfl, rfl⟩ ⟨Nat.le_of_ble_eq_true rfl, Nat.le_of_ble_eq_true rfl, Nat.zero_le _, Nat.zero_le _⟩ [] rfl hP hK rfl rfl (Nat.le_of_ble_eq_true rfl) dL_deeds_27 ?_
    refine lv_istore (lv' := [(4, .int (pL_low (a3 >>> ((3 : Int32) &&& 31)) 24)), (3, .int (dW a3)), (0, .ref (Z 0)), (1, .int 0), (2, .int a3)]) hx hb dL_deeds_30 hl (by decide) rfl (fun ls hl => ?_)
    refine lv_iload_n hx hb dL_deeds_32 rfl (lv_at hl 4 rfl) ?_
    refine lv_bipush (v := 14) hx hb dL_deeds_33 (by decide) ?_
    refine lv_ishr hx hb dL_deeds_35 ?_
    refine lv_bipush (v := 9) hx hb dL_deeds_36 (by decide) ?_
    refine rS (As := [.int (a3 >>> ((14 : Int32) &&& 31)), .int 9]) (rest := []) hx hb hml hown hts hl.1 (kL_low l D cyC cyI cyO (a3 >>> ((14 : Int32) &&& 31)) 9 (by decide)) bS_L_low  wml_RL_42 ⟨rfl, rfl⟩ ⟨Nat.le_of_ble_eq_true rfl, Nat.le_of_ble_eq_true rfl, Nat.zero_le _, Nat.zero_le _⟩ [] rfl hP hK rfl rfl (Nat.le_of_ble_eq_true rfl) dL_deeds_38 ?_
    obtain ⟨z_7, hz_7⟩ : ∃ q, q = ((if (pL_low (a3 >>> ((14 : Int32) &&& 31)) 9) = 0 then 28 else (if 12 ≤ (pL_low (a3 >>> ((3 : Int32) &&& 31)) 24) then ((pL_low (a3 >>> ((3 : Int32) &&& 31)) 24) + (4 : Int32)) else ((((pL_low (a3 >>> ((3 : Int32) &&& 31)) 24) / (3 : Int32)) * (4 : Int32)) + ((pL_low (a3 >>> ((3 : Int32) &&& 31)) 24) - (pL_low (a3 >>> ((3 : Int32) &&& 31)) 24) / (3 : Int32) * (3 : Int32))))) : Int32) := ⟨_, rfl⟩
    have key_J_5 : W p l e (headSpec (Ty yL_deeds cL_deeds 17 (some .boolean)) ({ frames := 6, cells := 0, slots := 0, locals := 137 } : Room)).room s m ([.ref (Z 0), .int 0, .int a3] : List Value).toArray below meth cd s.heap [] 0 0 (MQ below (MQQ (some (.int 1)) D (List.flatten [wRt Z C TR SN HI Y P R rt, wPd cyC P sg pw, wRd R P rd, wC cyI C (pL_deeds_0 rt sg pw rd u w h r v tu tw su sw g a3).2.2.2.1 (pL_deeds_0 rt sg pw rd u w h r v tu tw su sw g a3).2.2.2.2, wHM cyI cyO HI BB (pL_deeds_0 rt sg pw rd u w h r v tu tw su sw g a3).1 (pL_deeds_0 rt sg pw rd u w h r v tu tw su sw g a3).2.1 (pL_deeds_0 rt sg pw rd u w h r v tu tw su sw g a3).2.2.1, wC cyI TR tu tw, wC cyI SN su sw, wWy cyI Y g]) A0) ([.ref (Z 0), .int 0, .int a3] : List Value).toArray s 0 0 A0) (F0 m 74 ls [.int z_7]) := by
      refine W.eq (congrArg (fun q => F0 m _ ls (.int q :: [])) (show z_7 = (dN a3) from (by subst hz_7; rfl))) ?_
      refine lv_istore (lv' := [(4, .int (dN a3)), (3, .int (dW a3)), (0, .ref (Z 0)), (1, .int 0), (2, .int a3)]) hx hb dL_deeds_74 hl (by decide) rfl (fun ls hl => ?_)
      refine lv_iload_n hx hb dL_deeds_76 rfl (lv_at hl 1 rfl) ?_
      refine lv_iconst (v := 4) hx hb dL_deeds_77 (by decide) ?_
      obtain ⟨z_11, hz_11⟩ : ∃ q, q = ((if (dW a3) = 4 then 1 else (if (dN a3) = 28 then 1 else 0)) : Int32) := ⟨_, rfl⟩
      have key_J_9 : W p l e (headSpec (Ty yL_deeds cL_deeds 17 (some .boolean)) ({ frames := 6, cells := 0, slots := 0, locals := 137 } : Room)).room s m ([.ref (Z 0), .int 0, .int a3] : List Value).toArray below meth cd s.heap [] 0 0 (MQ below (MQQ (some (.int 1)) D (List.flatten [wRt Z C TR SN HI Y P R rt, wPd cyC P sg pw, wRd R P rd, wC cyI C (pL_deeds_0 rt sg pw rd u w h r v tu tw su sw g a3).2.2.2.1 (pL_deeds_0 rt sg pw rd u w h r v tu tw su sw g a3).2.2.2.2, wHM cyI cyO HI BB (pL_deeds_0 rt sg pw rd u w h r v tu tw su sw g a3).1 (pL_deeds_0 rt sg pw rd u w h r v tu tw su sw g a3).2.1 (pL_deeds_0 rt sg pw rd u w h r v tu tw su sw g a3).2.2.1, wC cyI TR tu tw, wC cyI SN su sw, wWy cyI Y g]) A0) ([.ref (Z 0), .int 0, .int a3] : List Value).toArray s 0 0 A0) (F0 m 93 ls [.int z_11]) := by
        refine lv_istore (lv' := [(5, .int z_11), (4, .int (dN a3)), (3, .int (dW a3)), (0, .ref (Z 0)), (1, .int 0), (2, .int a3)]) hx hb dL_deeds_93 hl (by decide) rfl (fun ls hl => ?_)
        refine lv_aload_n hx hb dL_deeds_95 rfl (lv_at hl 3 rfl) ?_
        refine lv_bipush (v := 13) hx hb dL_deeds_96 (by decide) ?_
        refine rVB (bl := [wRt Z C TR SN HI Y P R rt, wPd cyC P sg pw, wRd R P rd, wC cyI C u w, wHM cyI cyO HI BB h r v, wC cyI TR tu tw, wC cyI SN su sw, wWy cyI Y g]) (WSb := [wRt Z C TR SN HI Y P R rt, wPd cyC P sg pw, wRd R P rd, wC cyI C u w, wHM cyI cyO HI BB h r v, wC cyI TR tu tw, wC cyI SN su sw, wWy cyI Y g]) (As := [.int 13]) (rest := []) hx hb hml hown hts hl.1 (k_fC l D cyC cyI cyO Z C TR SN HI Y P R BB rt sg pw rd u w h r v tu tw su sw g 13 hq (vp_lit (by decide))) bV_X6_count wml_RL_13 ⟨rfl, rfl⟩ ⟨Nat.le_of_ble_eq_true rfl, Nat.le_of_ble_eq_true rfl, Nat.zero_le _, Nat.zero_le _⟩ [0, 1, 2, 3, 4, 5, 6, 7] rfl rfl hP hK 0 rfl rfl rfl rfl rfl (Nat.le_of_ble_eq_true rfl) dL_deeds_98 ?_
        refine lv_istore (lv' := [(6, .int (fC u w 13)), (5, .int z_11), (4, .int (dN a3)), (3, .int (dW a3)), (0, .ref (Z 0)), (1, .int 0), (2, .int a3)]) hx hb dL_deeds_101 hl (by decide) rfl (fun ls hl => ?_)
        refine lv_aload_n hx hb dL_deeds_103 rfl (lv_at hl 4 rfl) ?_
        refine lv_iconst (v := 5) hx hb dL_deeds_104 (by decide) ?_
        refine rVB (bl := [wRt Z C TR SN HI Y P R rt, wPd cyC P sg pw, wRd R P rd, wC cyI C u w, wHM cyI cyO HI BB h r v, wC cyI TR tu tw, wC cyI SN su sw, wWy cyI Y g]) (WSb := [wRt Z C TR SN HI Y P R rt, wPd cyC P sg pw, wRd R P rd, wC cyI C u w, wHM cyI cyO HI BB h r v, wC cyI TR tu tw, wC cyI SN su sw, wWy cyI Y g]) (As := [.int 5]) (rest := []) hx hb hml hown hts hl.1 (k_fC l D cyC cyI cyO Z C TR SN HI Y P R BB rt sg pw rd u w h r v tu tw su sw g 5 hq (vp_lit (by decide))) bV_X6_count wml_RL_13 ⟨rfl, rfl⟩ ⟨Nat.le_of_ble_eq_true rfl, Nat.le_of_ble_eq_true rfl, Nat.zero_le _, Nat.zero_le _⟩ [0, 1, 2, 3, 4, 5, 6, 7] rfl rfl hP hK 0 rfl rfl rfl rfl rfl (Nat.le_of_ble_eq_true rfl) dL_deeds_105 ?_
        refine lv_istore (lv' := [(7, .int (fC u w 5)), (6, .int (fC u w 13)), (5, .int z_11), (4, .int (dN a3)), (3, .int (dW a3)), (0, .ref (Z 0)), (1, .int 0), (2, .int a3)]) hx hb dL_deeds_108 hl (by decide) rfl (fun ls hl => ?_)
        refine lv_iload hx hb dL_deeds_110 (lv_at hl 3 rfl) ?_
        refine lv_bipush (v := 28) hx hb dL_deeds_112 (by decide) ?_
        obtain ⟨z_14, hz_14⟩ : ∃ q, q = ((if (dN a3) = 28 then (-4) else (fG u w (dN a3) 3)) : Int32) := ⟨_, rfl⟩
        have key_J_13 : W p l e (headSpec (Ty yL_deeds cL_deeds 17 (some .boolean)) ({ frames := 6, cells := 0, slots := 0, locals := 137 } : Room)).room s m ([.ref (Z 0), .int 0, .int a3] : List Value).toArray below meth cd s.heap [] 0 0 (MQ below (MQQ (some (.int 1)) D (List.flatten [wRt Z C TR SN HI Y P R rt, wPd cyC P sg pw, wRd R P rd, wC cyI C (pL_deeds_0 rt sg pw rd u w h r v tu tw su sw g a3).2.2.2.1 (pL_deeds_0 rt sg pw rd u w h r v tu tw su sw g a3).2.2.2.2, wHM cyI cyO HI BB (pL_deeds_0 rt sg pw rd u w h r v tu tw su sw g a3).1 (pL_deeds_0 rt sg pw rd u w h r v tu tw su sw g a3).2.1 (pL_deeds_0 rt sg pw rd u w h r v tu tw su sw g a3).2.2.1, wC cyI TR tu tw, wC cyI SN su sw, wWy cyI Y g]) A0) ([.ref (Z 0), .int 0, .int a3] : List Value).toArray s 0 0 A0) (F0 m 129 ls [.int z_14]) := by
          refine lv_istore (lv' := [(8, .int z_14), (7, .int (fC u w 5)), (6, .int (fC u w 13)), (5, .int z_11), (4, .int (dN a3)), (3, .int (dW a3)), (0, .ref (Z 0)), (1, .int 0), (2, .int a3)]) hx hb dL_deeds_129 hl (by decide) rfl (fun ls hl => ?_)
          refine lv_iload_n hx hb dL_deeds_131 rfl (lv_at hl 7 rfl) ?_
          refine lv_if_ne (tgt := 258) hx hb dL_deeds_132 (by decide) (fun c_15 => absurd (by decide) c_15) (fun c_15 => ?_)
          refine lv_iload hx hb dL_deeds_135 (lv_at hl 3 rfl) ?_
          obtain ⟨z_18, hz_18⟩ : ∃ q, q = ((if z_11 = 0 then (fY u w (dW a3) (dN a3)) else 0) : Int32) := ⟨_, rfl⟩
          have key_J_17 : W p l e (headSpec (Ty yL_deeds cL_deeds 17 (some .boolean)) ({ frames := 6, cells := 0, slots := 0, locals := 137 } : Room)).room s m ([.ref (Z 0), .int 0, .int a3] : List Value).toArray below meth cd s.heap [] 0 0 (MQ below (MQQ (some (.int 1)) D (List.flatten [wRt Z C TR SN HI Y P R rt, wPd cyC P sg pw, wRd R P rd, wC cyI C (pL_deeds_0 rt sg pw rd u w h r v tu tw su sw g a3).2.2.2.1 (pL_deeds_0 rt sg pw rd u w h r v tu tw su sw g a3).2.2.2.2, wHM cyI cyO HI BB (pL_deeds_0 rt sg pw rd u w h r v tu tw su sw g a3).1 (pL_deeds_0 rt sg pw rd u w h r v tu tw su sw g a3).2.1 (pL_deeds_0 rt sg pw rd u w h r v tu tw su sw g a3).2.2.1, wC cyI TR tu tw, wC cyI SN su sw, wWy cyI Y g]) A0) ([.ref (Z 0), .int 0, .int a3] : List Value).toArray s 0 0 A0) (F0 m 151 ls [.int z_18]) := by
            refine lv_istore (lv' := [(9, .int z_18), (8, .int z_14), (7, .int (fC u w 5)), (6, .int (fC u w 13)), (5, .int z_11), (4, .int (dN a3)), (3, .int (dW a3)), (0, .ref (Z 0)), (1, .int 0), (2, .int a3)]) hx hb dL_deeds_151 hl (by decide) rfl (fun ls hl => ?_)
            refine lv_aload_n hx hb dL_deeds_153 rfl (lv_at hl 7 rfl) ?_
            refine lv_iload_n hx hb dL_deeds_154 rfl (lv_at hl 6 rfl) ?_
            refine lv_iload hx hb dL_deeds_155 (lv_at hl 5 rfl) ?_
            obtain ⟨z_19, hz_19⟩ : ∃ q, q = (pX6_hang rt sg pw rd u w h r v tu tw su sw g (dW a3) (dN a3)) := ⟨_, rfl⟩
            refine mVB (bl := [wRt Z C TR SN HI Y P R rt, wPd cyC P sg pw, wRd R P rd, wC cyI C u w, wHM cyI cyO HI BB h r v, wC cyI TR tu tw, wC cyI SN su sw, wWy cyI Y g]) (bl' := [wRt Z C TR SN HI Y P R rt, wPd cyC P sg pw, wRd R P rd, wC cyI C z_19.2.2.2.2.1 z_19.2.2.2.2.2, wHM cyI cyO HI BB z_19.2.1 z_19.2.2.1 z_19.2.2.2.1, wC cyI TR tu tw, wC cyI SN su sw, wWy cyI Y g]) (WSb := [wRt Z C TR SN HI Y P R rt, wPd cyC P sg pw, wRd R P rd, wC cyI C u w, wHM cyI cyO HI BB h r v, wC cyI TR tu tw, wC cyI SN su sw, wWy cyI Y g]) (WSb' := [wRt Z C TR SN HI Y P R rt, wPd cyC P sg pw, wRd R P rd, wC cyI C z_19.2.2.2.2.1 z_19.2.2.2.2.2, wHM cyI cyO HI BB z_19.2.1 z_19.2.2.1 z_19.2.2.2.1, wC cyI TR tu tw, wC cyI SN su sw, wWy cyI Y g]) (As := [.int (dW a3), .int (dN a3)]) (rest := []) hx hb hml hown hts hl.1 (WS := (List.flatten [wRt Z C TR SN HI Y P R rt, wPd cyC P sg pw, wRd R P rd, wC cyI C u w, wHM cyI cyO HI BB h r v, wC cyI TR tu tw, wC cyI SN su sw, wWy cyI Y g])) (WS' := (List.flatten [wRt Z C TR SN HI Y P R rt, wPd cyC P sg pw, wRd R P rd, wC cyI C z_19.2.2.2.2.1 z_19.2.2.2.2.2, wHM cyI cyO HI BB z_19.2.1 z_19.2.2.1 z_19.2.2.2.1, wC cyI TR tu tw, wC cyI SN su sw, wWy cyI Y g])) (ro := (some (.int z_19.1))) (by rw [hz_19]; exact kX6_hang l D cyC cyI cyO Z C TR SN HI Y P R BB rt sg pw rd u w h r v tu tw su sw g (dW a3) (dN a3) hr4 hq) bV_X6_hang wml_RL_88 ⟨rfl, rfl⟩ ⟨Nat.le_of_ble_eq_true rfl, Nat.le_of_ble_eq_true rfl, Nat.zero_le _, Nat.zero_le _⟩ [0, 1, 2, 3, 4, 5, 6, 7] rfl rfl rfl rfl rfl rfl rfl hP hD hS hA hK 0 rfl rfl rfl rfl rfl (Nat.le_of_ble_eq_true rfl) dL_deeds_157 (fun H locs hP hD hS => ?_)
            refine lv_istore (lv' := [(10, .int z_19.1), (9, .int z_18), (8, .int z_14), (7, .int (fC u w 5)), (6, .int (fC u w 13)), (5, .int z_11), (4, .int (dN a3)), (3, .int (dW a3)), (0, .ref (Z 0)), (1, .int 0), (2, .int a3)]) hx hb dL_deeds_160 hl (by decide) rfl (fun ls hl => ?_)
            refine lv_iload hx hb dL_deeds_162 (lv_at hl 0 rfl) ?_
            refine lv_iload hx hb dL_deeds_164 (lv_at hl 5 rfl) ?_
            obtain ⟨z_23, hz_23⟩ : ∃ q, q = ((if z_11 = 0 then (if z_18 ≤ 0 then ((11 : Int32) + (fC u w 5)) else z_18) else (-1)) : Int32) := ⟨_, rfl⟩
            have key_J_21 : W p l e (headSpec (Ty yL_deeds cL_deeds 17 (some .boolean)) ({ frames := 6, cells := 0, slots := 0, locals := 137 } : Room)).room s m ([.ref (Z 0), .int 0, .int a3] : List Value).toArray below meth cd H locs 0 0 (MQ below (MQQ (some (.int 1)) D (List.flatten [wRt Z C TR SN HI Y P R rt, wPd cyC P sg pw, wRd R P rd, wC cyI C (pL_deeds_0 rt sg pw rd u w h r v tu tw su sw g a3).2.2.2.1 (pL_deeds_0 rt sg pw rd u w h r v tu tw su sw g a3).2.2.2.2, wHM cyI cyO HI BB (pL_deeds_0 rt sg pw rd u w h r v tu tw su sw g a3).1 (pL_deeds_0 rt sg pw rd u w h r v tu tw su sw g a3).2.1 (pL_deeds_0 rt sg pw rd u w h r v tu tw su sw g a3).2.2.1, wC cyI TR tu tw, wC cyI SN su sw, wWy cyI Y g]) A0) ([.ref (Z 0), .int 0, .int a3] : List Value).toArray s 0 0 A0) (F0 m 188 ls [.int z_23, .int z_19.1]) := by
              refine lv_icmp_ne (tgt := 256) hx hb dL_deeds_188 (by decide) (fun c_24 => absurd (by subst hz_23 hz_19 hz_18 hz_11; exact f188) c_24) (fun c_24 => ?_)
              refine lv_aload_n hx hb dL_deeds_191 rfl (lv_at hl 8 rfl) ?_
              refine lv_bipush (v := 13) hx hb dL_deeds_192 (by decide) ?_
              refine rVB (bl := [wRt Z C TR SN HI Y P R rt, wPd cyC P sg pw, wRd R P rd, wC cyI C z_19.2.2.2.2.1 z_19.2.2.2.2.2, wHM cyI cyO HI BB z_19.2.1 z_19.2.2.1 z_19.2.2.2.1, wC cyI TR tu tw, wC cyI SN su sw, wWy cyI Y g]) (WSb := [wRt Z C TR SN HI Y P R rt, wPd cyC P sg pw, wRd R P rd, wC cyI C z_19.2.2.2.2.1 z_19.2.2.2.2.2, wHM cyI cyO HI BB z_19.2.1 z_19.2.2.1 z_19.2.2.2.1, wC cyI TR tu tw, wC cyI SN su sw, wWy cyI Y g]) (As := [.int 13]) (rest := []) hx hb hml hown hts hl.1 (k_fC l D cyC cyI cyO Z C TR SN HI Y P R BB rt sg pw rd z_19.2.2.2.2.1 z_19.2.2.2.2.2 z_19.2.1 z_19.2.2.1 z_19.2.2.2.1 tu tw su sw g 13 (by subst hz_19; exact f194) (vp_lit (by decide))) bV_X6_count wml_RL_13 ⟨rfl, rfl⟩ ⟨Nat.le_of_ble_eq_true rfl, Nat.le_of_ble_eq_true rfl, Nat.zero_le _, Nat.zero_le _⟩ [0, 1, 2, 3, 4, 5, 6, 7] rfl rfl hP hK 0 rfl rfl rfl rfl rfl (Nat.le_of_ble_eq_true rfl) dL_deeds_194 ?_
              refine lv_iload hx hb dL_deeds_197 (lv_at hl 4 rfl) ?_
              refine lv_iload hx hb dL_deeds_199 (lv_at hl 1 rfl) ?_
              obtain ⟨z_27, hz_27⟩ : ∃ q, q = ((if z_18 ≤ 0 then 0 else 1) : Int32) := ⟨_, rfl⟩
              have key_J_26 : W p l e (headSpec (Ty yL_deeds cL_deeds 17 (some .boolean)) ({ frames := 6, cells := 0, slots := 0, locals := 137 } : Room)).room s m ([.ref (Z 0), .int 0, .int a3] : List Value).toArray below meth cd H locs 0 0 (MQ below (MQQ (some (.int 1)) D (List.flatten [wRt Z C TR SN HI Y P R rt, wPd cyC P sg pw, wRd R P rd, wC cyI C (pL_deeds_0 rt sg pw rd u w h r v tu tw su sw g a3).2.2.2.1 (pL_deeds_0 rt sg pw rd u w h r v tu tw su sw g a3).2.2.2.2, wHM cyI cyO HI BB (pL_deeds_0 rt sg pw rd u w h r v tu tw su sw g a3).1 (pL_deeds_0 rt sg pw rd u w h r v tu tw su sw g a3).2.1 (pL_deeds_0 rt sg pw rd u w h r v tu tw su sw g a3).2.2.1, wC cyI TR tu tw, wC cyI SN su sw, wWy cyI Y g]) A0) ([.ref (Z 0), .int 0, .int a3] : List Value).toArray s 0 0 A0) (F0 m 209 ls [.int z_27, .int (fC u w 13), .int (fC z_19.2.2.2.2.1 z_19.2.2.2.2.2 13)]) := by
                refine lv_iadd hx hb dL_deeds_209 ?_
                refine lv_icmp_ne (tgt := 256) hx hb dL_deeds_210 (by decide) (fun c_28 => absurd (by subst hz_27 hz_19 hz_18 hz_11; exact f210) c_28) (fun c_28 => ?_)
                refine lv_iload hx hb dL_deeds_213 (lv_at hl 5 rfl) ?_
                have key_J_30 : W p l e (headSpec (Ty yL_deeds cL_deeds 17 (some .boolean)) ({ frames := 6, cells := 0, slots := 0, locals := 137 } : Room)).room s m ([.ref (Z 0), .int 0, .int a3] : List Value).toArray below meth cd H locs 0 0 (MQ below (MQQ (some (.int 1)) D (List.flatten [wRt Z C TR SN HI Y P R rt, wPd cyC P sg pw, wRd R P rd, wC cyI C (pL_deeds_0 rt sg pw rd u w h r v tu tw su sw g a3).2.2.2.1 (pL_deeds_0 rt sg pw rd u w h r v tu tw su sw g a3).2.2.2.2, wHM cyI cyO HI BB (pL_deeds_0 rt sg pw rd u w h r v tu tw su sw g a3).1 (pL_deeds_0 rt sg pw rd u w h r v tu tw su sw g a3).2.1 (pL_deeds_0 rt sg pw rd u w h r v tu tw su sw g a3).2.2.1, wC cyI TR tu tw, wC cyI SN su sw, wWy cyI Y g]) A0) ([.ref (Z 0), .int 0, .int a3] : List Value).toArray s 0 0 A0) (F0 m 252 ls []) := by
                  refine lv_iconst (v := 1) hx hb dL_deeds_252 (by decide) ?_
                  refine lv_goto (tgt := 257) hx hb dL_deeds_253 (by decide) ?_
                  have e9 : (pL_deeds_0 rt sg pw rd u w h r v tu tw su sw g a3) = (z_19.2.1, z_19.2.2.1, z_19.2.2.2.1, z_19.2.2.2.2.1, z_19.2.2.2.2.2) := by simp only [pL_deeds_0, ← hz_19]
                  have e9_0 : (pL_deeds_0 rt sg pw rd u w h r v tu tw su sw g a3).1 = z_19.2.1 := by rw [e9]
                  have e9_1 : (pL_deeds_0 rt sg pw rd u w h r v tu tw su sw g a3).2.1 = z_19.2.2.1 := by rw [e9]
                  have e9_2 : (pL_deeds_0 rt sg pw rd u w h r v tu tw su sw g a3).2.2.1 = z_19.2.2.2.1 := by rw [e9]
                  have e9_3 : (pL_deeds_0 rt sg pw rd u w h r v tu tw su sw g a3).2.2.2.1 = z_19.2.2.2.2.1 := by rw [e9]
                  have e9_4 : (pL_deeds_0 rt sg pw rd u w h r v tu tw su sw g a3).2.2.2.2 = z_19.2.2.2.2.2 := by rw [e9]
                  exact W.zret (ty := .boolean) (v := 1) hx hb hr (by rfl) (fun t ht hW => ⟨⟨rfl, by rw [e9_0, e9_1, e9_2, e9_3, e9_4, ht]; exact hP⟩, hS.F ht⟩) hS.2.2 dL_deeds_257
                refine lv_if_ne (tgt := 252) hx hb dL_deeds_215 (by decide) (fun c_29 => ?_) (fun c_29 => ?_)
                · exact key_J_30
                · refine lv_iload hx hb dL_deeds_218 (lv_at hl 1 rfl) ?_
                  refine lv_if_gt (tgt := 252) hx hb dL_deeds_220 (by decide) (fun c_31 => ?_) (fun c_31 => ?_)
                  · exact key_J_30
                  · refine lv_aload_n hx hb dL_deeds_223 rfl (lv_at hl 8 rfl) ?_
                    refine lv_iload hx hb dL_deeds_224 (lv_at hl 6 rfl) ?_
                    refine lv_iconst (v := 3) hx hb dL_deeds_226 (by decide) ?_
                    refine rVB (bl := [wRt Z C TR SN HI Y P R rt, wPd cyC P sg pw, wRd R P rd, wC cyI C z_19.2.2.2.2.1 z_19.2.2.2.2.2, wHM cyI cyO HI BB z_19.2.1 z_19.2.2.1 z_19.2.2.2.1, wC cyI TR tu tw, wC cyI SN su sw, wWy cyI Y g]) (WSb := [wRt Z C TR SN HI Y P R rt, wPd cyC P sg pw, wRd R P rd, wC cyI C z_19.2.2.2.2.1 z_19.2.2.2.2.2, wHM cyI cyO HI BB z_19.2.1 z_19.2.2.1 z_19.2.2.2.1, wC cyI TR tu tw, wC cyI SN su sw, wWy cyI Y g]) (As := [.int (dN a3), .int 3]) (rest := []) hx hb hml hown hts hl.1 (k_fG l D cyC cyI cyO Z C TR SN HI Y P R BB rt sg pw rd z_19.2.2.2.2.1 z_19.2.2.2.2.2 z_19.2.1 z_19.2.2.1 z_19.2.2.2.1 tu tw su sw g (dN a3) 3 (by subst hz_19 hz_18 hz_11; exact (f227 c_29 c_31))) bV_X6_gangway wml_RL_29 ⟨rfl, rfl⟩ ⟨Nat.le_of_ble_eq_true rfl, Nat.le_of_ble_eq_true rfl, Nat.zero_le _, Nat.zero_le _⟩ [0, 1, 2, 3, 4, 5, 6, 7] rfl rfl hP hK 0 rfl rfl rfl rfl rfl (Nat.le_of_ble_eq_true rfl) dL_deeds_227 ?_
                    refine lv_iload_n hx hb dL_deeds_230 rfl (lv_at hl 7 rfl) ?_
                    refine lv_icmp_ne (tgt := 256) hx hb dL_deeds_231 (by decide) (fun c_32 => absurd (by subst hz_19 hz_18 hz_11; exact (f231 c_29 c_31)) c_32) (fun c_32 => ?_)
                    refine lv_aload_n hx hb dL_deeds_234 rfl (lv_at hl 8 rfl) ?_
                    refine lv_iload hx hb dL_deeds_235 (lv_at hl 6 rfl) ?_
                    refine lv_iconst (v := 4) hx hb dL_deeds_237 (by decide) ?_
                    refine rVB (bl := [wRt Z C TR SN HI Y P R rt, wPd cyC P sg pw, wRd R P rd, wC cyI C z_19.2.2.2.2.1 z_19.2.2.2.2.2, wHM cyI cyO HI BB z_19.2.1 z_19.2.2.1 z_19.2.2.2.1, wC cyI TR tu tw, wC cyI SN su sw, wWy cyI Y g]) (WSb := [wRt Z C TR SN HI Y P R rt, wPd cyC P sg pw, wRd R P rd, wC cyI C z_19.2.2.2.2.1 z_19.2.2.2.2.2, wHM cyI cyO HI BB z_19.2.1 z_19.2.2.1 z_19.2.2.2.1, wC cyI TR tu tw, wC cyI SN su sw, wWy cyI Y g]) (As := [.int (dN a3), .int 4]) (rest := []) hx hb hml hown hts hl.1 (k_fG l D cyC cyI cyO Z C TR SN HI Y P R BB rt sg pw rd z_19.2.2.2.2.1 z_19.2.2.2.2.2 z_19.2.1 z_19.2.2.1 z_19.2.2.2.1 tu tw su sw g (dN a3) 4 (by subst hz_19 hz_18 hz_11; exact (f227 c_29 c_31))) bV_X6_gangway wml_RL_29 ⟨rfl, rfl⟩ ⟨Nat.le_of_ble_eq_true rfl, Nat.le_of_ble_eq_true rfl, Nat.zero_le _, Nat.zero_le _⟩ [0, 1, 2, 3, 4, 5, 6, 7] rfl rfl hP hK 0 rfl rfl rfl rfl rfl (Nat.le_of_ble_eq_true rfl) dL_deeds_238 ?_
                    refine lv_aload_n hx hb dL_deeds_241 rfl (lv_at hl 8 rfl) ?_
                    refine lv_iload hx hb dL_deeds_242 (lv_at hl 6 rfl) ?_
                    refine lv_iconst (v := 5) hx hb dL_deeds_244 (by decide) ?_
                    refine rVB (bl := [wRt Z C TR SN HI Y P R rt, wPd cyC P sg pw, wRd R P rd, wC cyI C z_19.2.2.2.2.1 z_19.2.2.2.2.2, wHM cyI cyO HI BB z_19.2.1 z_19.2.2.1 z_19.2.2.2.1, wC cyI TR tu tw, wC cyI SN su sw, wWy cyI Y g]) (WSb := [wRt Z C TR SN HI Y P R rt, wPd cyC P sg pw, wRd R P rd, wC cyI C z_19.2.2.2.2.1 z_19.2.2.2.2.2, wHM cyI cyO HI BB z_19.2.1 z_19.2.2.1 z_19.2.2.2.1, wC cyI TR tu tw, wC cyI SN su sw, wWy cyI Y g]) (As := [.int (dN a3), .int 5]) (rest := [.int (fG z_19.2.2.2.2.1 z_19.2.2.2.2.2 (dN a3) 4)]) hx hb hml hown hts hl.1 (k_fG l D cyC cyI cyO Z C TR SN HI Y P R BB rt sg pw rd z_19.2.2.2.2.1 z_19.2.2.2.2.2 z_19.2.1 z_19.2.2.1 z_19.2.2.2.1 tu tw su sw g (dN a3) 5 (by subst hz_19 hz_18 hz_11; exact (f227 c_29 c_31))) bV_X6_gangway wml_RL_29 ⟨rfl, rfl⟩ ⟨Nat.le_of_ble_eq_true rfl, Nat.le_of_ble_eq_true rfl, Nat.zero_le _, Nat.zero_le _⟩ [0, 1, 2, 3, 4, 5, 6, 7] rfl rfl hP hK 0 rfl rfl rfl rfl rfl (Nat.le_of_ble_eq_true rfl) dL_deeds_245 ?_
                    refine lv_iadd hx hb dL_deeds_248 ?_
                    refine lv_if_ne (tgt := 256) hx hb dL_deeds_249 (by decide) (fun c_33 => absurd (by subst hz_19 hz_18 hz_11; exact (f249 c_29 c_31)) c_33) (fun c_33 => ?_)
                    exact key_J_30
              refine lv_if_le (tgt := 208) hx hb dL_deeds_201 (by decide) (fun c_25 => ?_) (fun c_25 => ?_)
              · refine lv_iconst (v := 0) hx hb dL_deeds_208 (by decide) ?_
                exact W.eq (congrArg (fun q => F0 m _ ls (.int q :: [.int (fC u w 13), .int (fC z_19.2.2.2.2.1 z_19.2.2.2.2.2 13)])) (show (0 : Int32) = z_27 from (by rw [hz_27]; simp only [if_pos c_25]))) key_J_26
              · refine lv_iconst (v := 1) hx hb dL_deeds_204 (by decide) ?_
                refine lv_goto (tgt := 209) hx hb dL_deeds_205 (by decide) ?_
                exact W.eq (congrArg (fun q => F0 m _ ls (.int q :: [.int (fC u w 13), .int (fC z_19.2.2.2.2.1 z_19.2.2.2.2.2 13)])) (show (1 : Int32) = z_27 from (by rw [hz_27]; simp only [if_neg c_25]))) key_J_26
            refine lv_if_eq (tgt := 173) hx hb dL_deeds_166 (by decide) (fun c_20 => ?_) (fun c_20 => ?_)
            · refine lv_iload hx hb dL_deeds_173 (lv_at hl 1 rfl) ?_
              refine lv_if_le (tgt := 183) hx hb dL_deeds_175 (by decide) (fun c_22 => ?_) (fun c_22 => ?_)
              · refine lv_bipush (v := 11) hx hb dL_deeds_183 (by decide) ?_
                refine lv_iload hx hb dL_deeds_185 (lv_at hl 3 rfl) ?_
                refine lv_iadd hx hb dL_deeds_187 ?_
                exact W.eq (congrArg (fun q => F0 m _ ls (.int q :: [.int z_19.1])) (show (((11 : Int32) + (fC u w 5)) : Int32) = z_23 from (by rw [hz_23]; simp only [if_pos c_20, if_pos c_22]))) key_J_21
              · refine lv_iload hx hb dL_deeds_178 (lv_at hl 1 rfl) ?_
                refine lv_goto (tgt := 188) hx hb dL_deeds_180 (by decide) ?_
                exact W.eq (congrArg (fun q => F0 m _ ls (.int q :: [.int z_19.1])) (show (z_18 : Int32) = z_23 from (by rw [hz_23]; simp only [if_pos c_20, if_neg c_22]))) key_J_21
            · refine lv_iconst (v := (-1)) hx hb dL_deeds_169 (by decide) ?_
              refine lv_goto (tgt := 188) hx hb dL_deeds_170 (by decide) ?_
              exact W.eq (congrArg (fun q => F0 m _ ls (.int q :: [.int z_19.1])) (show ((-1) : Int32) = z_23 from (by rw [hz_23]; simp only [if_neg c_20]))) key_J_21
          refine lv_if_eq (tgt := 144) hx hb dL_deeds_137 (by decide) (fun c_16 => ?_) (fun c_16 => ?_)
          · refine lv_aload_n hx hb dL_deeds_144 rfl (lv_at hl 6 rfl) ?_
            refine lv_iload_n hx hb dL_deeds_145 rfl (lv_at hl 5 rfl) ?_
            refine lv_iload hx hb dL_deeds_146 (lv_at hl 4 rfl) ?_
            refine rVB (bl := [wRt Z C TR SN HI Y P R rt, wPd cyC P sg pw, wRd R P rd, wC cyI C u w, wHM cyI cyO HI BB h r v, wC cyI TR tu tw, wC cyI SN su sw, wWy cyI Y g]) (WSb := [wRt Z C TR SN HI Y P R rt, wPd cyC P sg pw, wRd R P rd, wC cyI C u w, wHM cyI cyO HI BB h r v, wC cyI TR tu tw, wC cyI SN su sw, wWy cyI Y g]) (As := [.int (dW a3), .int (dN a3)]) (rest := []) hx hb hml hown hts hl.1 (k_fY l D cyC cyI cyO Z C TR SN HI Y P R BB rt sg pw rd u w h r v tu tw su sw g (dW a3) (dN a3) hq) bV_X6_whyNotHang wml_RL_45 ⟨rfl, rfl⟩ ⟨Nat.le_of_ble_eq_true rfl, Nat.le_of_ble_eq_true rfl, Nat.zero_le _, Nat.zero_le _⟩ [0, 1, 2, 3, 4, 5, 6, 7] rfl rfl hP hK 0 rfl rfl rfl rfl rfl (Nat.le_of_ble_eq_true rfl) dL_deeds_148 ?_
            exact W.eq (congrArg (fun q => F0 m _ ls (.int q :: [])) (show ((fY u w (dW a3) (dN a3)) : Int32) = z_18 from (by rw [hz_18]; simp only [if_pos c_16]))) key_J_17
          · refine lv_iconst (v := 0) hx hb dL_deeds_140 (by decide) ?_
            refine lv_goto (tgt := 151) hx hb dL_deeds_141 (by decide) ?_
            exact W.eq (congrArg (fun q => F0 m _ ls (.int q :: [])) (show (0 : Int32) = z_18 from (by rw [hz_18]; simp only [if_neg c_16]))) key_J_17
        refine lv_icmp_ne (tgt := 122) hx hb dL_deeds_114 (by decide) (fun c_12 => ?_) (fun c_12 => ?_)
        · refine lv_aload_n hx hb dL_deeds_122 rfl (lv_at hl 5 rfl) ?_
          refine lv_iload hx hb dL_deeds_123 (lv_at hl 3 rfl) ?_
          refine lv_iconst (v := 3) hx hb dL_deeds_125 (by decide) ?_
          refine rVB (bl := [wRt Z C TR SN HI Y P R rt, wPd cyC P sg pw, wRd R P rd, wC cyI C u w, wHM cyI cyO HI BB h r v, wC cyI TR tu tw, wC cyI SN su sw, wWy cyI Y g]) (WSb := [wRt Z C TR SN HI Y P R rt, wPd cyC P sg pw, wRd R P rd, wC cyI C u w, wHM cyI cyO HI BB h r v, wC cyI TR tu tw, wC cyI SN su sw, wWy cyI Y g]) (As := [.int (dN a3), .int 3]) (rest := []) hx hb hml hown hts hl.1 (k_fG l D cyC cyI cyO Z C TR SN HI Y P R BB rt sg pw rd u w h r v tu tw su sw g (dN a3) 3 hq) bV_X6_gangway wml_RL_29 ⟨rfl, rfl⟩ ⟨Nat.le_of_ble_eq_true rfl, Nat.le_of_ble_eq_true rfl, Nat.zero_le _, Nat.zero_le _⟩ [0, 1, 2, 3, 4, 5, 6, 7] rfl rfl hP hK 0 rfl rfl rfl rfl rfl (Nat.le_of_ble_eq_true rfl) dL_deeds_126 ?_
          exact W.eq (congrArg (fun q => F0 m _ ls (.int q :: [])) (show ((fG u w (dN a3) 3) : Int32) = z_14 from (by rw [hz_14]; simp only [if_neg c_12]))) key_J_13
        · refine lv_bipush (v := (-4)) hx hb dL_deeds_117 (by decide) ?_
          refine lv_goto (tgt := 129) hx hb dL_deeds_119 (by decide) ?_
          exact W.eq (congrArg (fun q => F0 m _ ls (.int q :: [])) (show ((-4) : Int32) = z_14 from (by rw [hz_14]; simp only [if_pos c_12]))) key_J_13
      refine lv_icmp_eq (tgt := 88) hx hb dL_deeds_78 (by decide) (fun c_8 => ?_) (fun c_8 => ?_)
      · refine lv_iconst (v := 1) hx hb dL_deeds_88 (by decide) ?_
        refine lv_goto (tgt := 93) hx hb dL_deeds_89 (by decide) ?_
        exact W.eq (congrArg (fun q => F0 m _ ls (.int q :: [])) (show (1 : Int32) = z_11 from (by rw [hz_11]; simp only [if_pos c_8]))) key_J_9
      · refine lv_iload hx hb dL_deeds_81 (lv_at hl 0 rfl) ?_
        refine lv_bipush (v := 28) hx hb dL_deeds_83 (by decide) ?_
        refine lv_icmp_ne (tgt := 92) hx hb dL_deeds_85 (by decide) (fun c_10 => ?_) (fun c_10 => ?_)
        · refine lv_iconst (v := 0) hx hb dL_deeds_92 (by decide) ?_
          exact W.eq (congrArg (fun q => F0 m _ ls (.int q :: [])) (show (0 : Int32) = z_11 from (by rw [hz_11]; simp only [if_neg c_8, if_neg c_10]))) key_J_9
        · refine lv_iconst (v := 1) hx hb dL_deeds_88 (by decide) ?_
          refine lv_goto (tgt := 93) hx hb dL_deeds_89 (by decide) ?_
          exact W.eq (congrArg (fun q => F0 m _ ls (.int q :: [])) (show (1 : Int32) = z_11 from (by rw [hz_11]; simp only [if_neg c_8, if_pos c_10]))) key_J_9
    refine lv_if_ne (tgt := 49) hx hb dL_deeds_41 (by decide) (fun c_4 => ?_) (fun c_4 => ?_)
    · refine lv_iload hx hb dL_deeds_49 (lv_at hl 0 rfl) ?_
      refine lv_bipush (v := 12) hx hb dL_deeds_51 (by decide) ?_
      refine lv_icmp_ge (tgt := 70) hx hb dL_deeds_53 (by decide) (fun c_6 => ?_) (fun c_6 => ?_)
      · refine lv_iload hx hb dL_deeds_70 (lv_at hl 0 rfl) ?_
        refine lv_iconst (v := 4) hx hb dL_deeds_72 (by decide) ?_
        refine lv_iadd hx hb dL_deeds_73 ?_
        exact W.eq (congrArg (fun q => F0 m _ ls (.int q :: [])) (show (((pL_low (a3 >>> ((3 : Int32) &&& 31)) 24) + (4 : Int32)) : Int32) = z_7 from (by rw [hz_7]; simp only [if_neg c_4, if_pos c_6]))) key_J_5
      · refine lv_iload hx hb dL_deeds_56 (lv_at hl 0 rfl) ?_
        refine lv_iconst (v := 3) hx hb dL_deeds_58 (by decide) ?_
        refine lv_idiv hx hb dL_deeds_59 (by decide) ?_
        refine lv_iconst (v := 4) hx hb dL_deeds_60 (by decide) ?_
        refine lv_imul hx hb dL_deeds_61 ?_
        refine lv_iload hx hb dL_deeds_62 (lv_at hl 0 rfl) ?_
        refine lv_iconst (v := 3) hx hb dL_deeds_64 (by decide) ?_
        refine lv_irem hx hb dL_deeds_65 (by decide) ?_
        refine lv_iadd hx hb dL_deeds_66 ?_
        refine lv_goto (tgt := 74) hx hb dL_deeds_67 (by decide) ?_
        exact W.eq (congrArg (fun q => F0 m _ ls (.int q :: [])) (show (((((pL_low (a3 >>> ((3 : Int32) &&& 31)) 24) / (3 : Int32)) * (4 : Int32)) + ((pL_low (a3 >>> ((3 : Int32) &&& 31)) 24) - (pL_low (a3 >>> ((3 : Int32) &&& 31)) 24) / (3 : Int32) * (3 : Int32))) : Int32) = z_7 from (by rw [hz_7]; simp only [if_neg c_4, if_neg c_6]))) key_J_5
    · refine lv_bipush (v := 28) hx hb dL_deeds_44 (by decide) ?_
      refine lv_goto (tgt := 74) hx hb dL_deeds_46 (by decide) ?_
      exact W.eq (congrArg (fun q => F0 m _ ls (.int q :: [])) (show (28 : Int32) = z_7 from (by rw [hz_7]; simp only [if_pos c_4]))) key_J_5
  refine lv_if_ne (tgt := 17) hx hb dL_deeds_10 (by decide) (fun c_1 => ?_) (fun c_1 => ?_)
  · refine lv_iconst (v := 4) hx hb dL_deeds_17 (by decide) ?_
    exact W.eq (congrArg (fun q => F0 m _ ls (.int q :: [.int a3])) (show (4 : Int32) = z_3 from (by rw [hz_3]; simp only [if_neg c_1]))) key_J_2
  · refine lv_iconst (v := 5) hx hb dL_deeds_13 (by decide) ?_
    refine lv_goto (tgt := 18) hx hb dL_deeds_14 (by decide) ?_
    exact W.eq (congrArg (fun q => F0 m _ ls (.int q :: [.int a3])) (show (5 : Int32) = z_3 from (by rw [hz_3]; simp only [if_pos c_1]))) key_J_2
theorem bS_L_deeds : BS yL_deeds cL_deeds 17 (some .boolean) 3 := ⟨wcd_L_deeds, wst_L_deeds, win_RL, by decide +kernel⟩
def pL_deeds_1 (rt : (Nat → Int32)) (sg : (Nat → Nat → Int32)) (pw : (Nat → Int32)) (rd : (Nat → Int32)) (u : (Nat → Nat → Int32)) (w : (Nat → Int32)) (h : (Nat → (Nat → Nat → Int32) × (Nat → Int32))) (r : Nat) (v : (Nat → Int32)) (tu : (Nat → Nat → Int32)) (tw : (Nat → Int32)) (su : (Nat → Nat → Int32)) (sw : (Nat → Int32)) (g : (Nat → Nat → Int32)) (a3 : Int32) : (Nat → (Nat → Nat → Int32) × (Nat → Int32)) × Nat × (Nat → Int32) × (Nat → Nat → Int32) × (Nat → Int32) := ((pX6_take rt sg pw rd u w h r v tu tw su sw g (dW a3) (dN a3)).2.1, (pX6_take rt sg pw rd u w h r v tu tw su sw g (dW a3) (dN a3)).2.2.1, (pX6_take rt sg pw rd u w h r v tu tw su sw g (dW a3) (dN a3)).2.2.2.1, (pX6_take rt sg pw rd u w h r v tu tw su sw g (dW a3) (dN a3)).2.2.2.2.1, (pX6_take rt sg pw rd u w h r v tu tw su sw g (dW a3) (dN a3)).2.2.2.2.2)
def HF_L_deeds_1 (rt : (Nat → Int32)) (sg : (Nat → Nat → Int32)) (pw : (Nat → Int32)) (rd : (Nat → Int32)) (u : (Nat → Nat → Int32)) (w : (Nat → Int32)) (h : (Nat → (Nat → Nat → Int32) × (Nat → Int32))) (r : Nat) (v : (Nat → Int32)) (tu : (Nat → Nat → Int32)) (tw : (Nat → Int32)) (su : (Nat → Nat → Int32)) (sw : (Nat → Int32)) (g : (Nat → Nat → Int32)) (a3 : Int32) : Prop := ( ¬ ((if (pL_low (a3 >>> ((15 : Int32) &&& 31)) 7) = 0 then 5 else 4) : Int32) = 0) ∧ ( (pX6_take rt sg pw rd u w h r v tu tw su sw g (dW a3) (dN a3)).1 = ((if ((if (dW a3) = 4 then 1 else (if (dN a3) = 28 then 1 else 0)) : Int32) = 0 then (if ((if ((if (dW a3) = 4 then 1 else (if (dN a3) = 28 then 1 else 0)) : Int32) = 0 then (if ((if (dN a3) = 28 then (-4) else (fG u w (dN a3) 3)) : Int32) = (dW a3) then 1 else 0) else 0) : Int32) = 0 then (if ((if (dN a3) = 28 then (-4) else (fG u w (dN a3) 3)) : Int32) = (-4) then 6 else 7) else ((10 : Int32) + ((if ((if ((if (dW a3) = 4 then 1 else (if (dN a3) = 28 then 1 else 0)) : Int32) = 0 then (if ((if (dN a3) = 28 then (-4) else (fG u w (dN a3) 3)) : Int32) = (dW a3) then 1 else 0) else 0) : Int32) = 0 then 0 else ((fG u w (dN a3) 4) + (fG u w (dN a3) 5))) : Int32))) else (-1)) : Int32)) ∧ ( ((pX6_take rt sg pw rd u w h r v tu tw su sw g (dW a3) (dN a3)).2.2.2.2.2 12) < 4) ∧ ( (fC (pX6_take rt sg pw rd u w h r v tu tw su sw g (dW a3) (dN a3)).2.2.2.2.1 (pX6_take rt sg pw rd u w h r v tu tw su sw g (dW a3) (dN a3)).2.2.2.2.2 13) = ((fC u w 13) + ((if ((if (dW a3) = 4 then 1 else (if (dN a3) = 28 then 1 else 0)) : Int32) = 0 then (if ((if ((if (dW a3) = 4 then 1 else (if (dN a3) = 28 then 1 else 0)) : Int32) = 0 then (if ((if (dN a3) = 28 then (-4) else (fG u w (dN a3) 3)) : Int32) = (dW a3) then 1 else 0) else 0) : Int32) = 0 then 1 else 0) else 0) : Int32))) ∧ ( (fC (pX6_take rt sg pw rd u w h r v tu tw su sw g (dW a3) (dN a3)).2.2.2.2.1 (pX6_take rt sg pw rd u w h r v tu tw su sw g (dW a3) (dN a3)).2.2.2.2.2 5) = ((fC u w 5) - ((if ((if ((if (dW a3) = 4 then 1 else (if (dN a3) = 28 then 1 else 0)) : Int32) = 0 then (if ((if (dN a3) = 28 then (-4) else (fG u w (dN a3) 3)) : Int32) = (dW a3) then 1 else 0) else 0) : Int32) = 0 then 0 else 1) : Int32))) ∧ ((¬ ((if ((if (dW a3) = 4 then 1 else (if (dN a3) = 28 then 1 else 0)) : Int32) = 0 then (if ((if (dN a3) = 28 then (-4) else (fG u w (dN a3) 3)) : Int32) = (dW a3) then 1 else 0) else 0) : Int32) = 0) → ((pX6_take rt sg pw rd u w h r v tu tw su sw g (dW a3) (dN a3)).2.2.2.2.2 12) < 4) ∧ ((¬ ((if ((if (dW a3) = 4 then 1 else (if (dN a3) = 28 then 1 else 0)) : Int32) = 0 then (if ((if (dN a3) = 28 then (-4) else (fG u w (dN a3) 3)) : Int32) = (dW a3) then 1 else 0) else 0) : Int32) = 0) → (fG (pX6_take rt sg pw rd u w h r v tu tw su sw g (dW a3) (dN a3)).2.2.2.2.1 (pX6_take rt sg pw rd u w h r v tu tw su sw g (dW a3) (dN a3)).2.2.2.2.2 (dN a3) 3) = (-4))
set_option maxHeartbeats 4000000 in
set_option maxRecDepth 100000 in
theorem kL_deeds_1 (l : Launch) (D : va_G) (cyC cyI cyO : ClassId) (Z : Nat → Nat) (C : Nat → Nat) (TR : Nat → Nat) (SN : Nat → Nat) (HI : Nat → Nat) (Y : Nat → Nat) (P : Nat → Nat) (R : Nat → Nat) (BB : Nat → Nat → Nat) (rt : (Nat → Int32)) (sg : (Nat → Nat → Int32)) (pw : (Nat → Int32)) (rd : (Nat → Int32)) (u : (Nat → Nat → Int32)) (w : (Nat → Int32)) (h : (Nat → (Nat → Nat → Int32) × (Nat → Int32))) (r : Nat) (v : (Nat → Int32)) (tu : (Nat → Nat → Int32)) (tw : (Nat → Int32)) (su : (Nat → Nat → Int32)) (sw : (Nat → Int32)) (g : (Nat → Nat → Int32)) (a3 : Int32) (hr4 : r < 4) (hq : (w 12) < 4) (hF : HF_L_deeds_1 rt sg pw rd u w h r v tu tw su sw g a3) : MU l yL_deeds (Ty yL_deeds cL_deeds 17 (some .boolean)) ({ frames := 6, cells := 0, slots := 0, locals := 135 } : Room) D cyC cyI cyO (List.flatten [wRt Z C TR SN HI Y P R rt, wPd cyC P sg pw, wRd R P rd, wC cyI C u w, wHM cyI cyO HI BB h r v, wC cyI TR tu tw, wC cyI SN su sw, wWy cyI Y g]) [.ref (Z 0), .int 1, .int a3] (some (.int 1)) (List.flatten [wRt Z C TR SN HI Y P R rt, wPd cyC P sg pw, wRd R P rd, wC cyI C (pL_deeds_1 rt sg pw rd u w h r v tu tw su sw g a3).2.2.2.1 (pL_deeds_1 rt sg pw rd u w h r v tu tw su sw g a3).2.2.2.2, wHM cyI cyO HI BB (pL_deeds_1 rt sg pw rd u w h r v tu tw su sw g a3).1 (pL_deeds_1 rt sg pw rd u w h r v tu tw su sw g a3).2.1 (pL_deeds_1 rt sg pw rd u w h r v tu tw su sw g a3).2.2.1, wC cyI TR tu tw, wC cyI SN su sw, wWy cyI Y g]) := by
  intro sz
  refine Met.ofW (cc := cL_deeds) (maxL := 17) (ret := (some .boolean)) (by decide) rfl ?_
  intro p e s m args below meth cd s₁ B hml hv
  obtain ⟨f18, f354, f360, f381, f402, f414, f419⟩ := hF
  obtain ⟨rfl, hsz, hP, hK, hD0⟩ := hv
  have hx := B.exec
  have hb := B.bytes
  have hr := B.returns
  have hts : ∀ w ∈ TB, w.before ([.ref (Z 0), .int 1, .int a3] : List Value).toArray s = true := fun w h => atoms_spec (ws := (Ty yL_deeds cL_deeds 17 (some .boolean))) B.pre w (List.mem_cons_of_mem _ h)
  have hown : s.vm.findClass RL = some m.cls := findClass_of_methodNamed B.named
  have hlocks := B.notSynchronized
  subst hsz
  have hD := hD0.self (sz := s.heap.size)
  have hA : ∀ q : Nat, s.heap.size ≤ q → (va_A (List.flatten [wRt Z C TR SN HI Y P R rt, wPd cyC P sg pw, wRd R P rd, wC cyI C u w, wHM cyI cyO HI BB h r v, wC cyI TR tu tw, wC cyI SN su sw, wWy cyI Y g]) s.heap.size) q := fun q h => Or.inr h
  generalize hAe : va_A (List.flatten [wRt Z C TR SN HI Y P R rt, wPd cyC P sg pw, wRd R P rd, wC cyI C u w, wHM cyI cyO HI BB h r v, wC cyI TR tu tw, wC cyI SN su sw, wWy cyI Y g]) s.heap.size = A0 at hD hA ⊢
  have hS : va_S A0 s.heap s.heap [] := va_S.rf
  have hl := lv_entry ([.ref (Z 0), .int 1, .int a3]) (n := 17) (Nat.le_of_ble_eq_true rfl)
  rw [lg_entry_eq]
  generalize (lg_sl ([.ref (Z 0), .int 1, .int a3]) ++ List.replicate (17 - (lg_sl ([.ref (Z 0), .int 1, .int a3])).length) Slot.unset).toArray = ls at hl ⊢
  have hl : lv_has ls 17 [(0, .ref (Z 0)), (1, .int 1), (2, .int a3)] := hl
  refine lv_iload_n hx hb dL_deeds_0 rfl (lv_at hl 2 rfl) ?_
  refine lv_iload_n hx hb dL_deeds_1 rfl (lv_at hl 2 rfl) ?_
  refine lv_bipush (v := 15) hx hb dL_deeds_2 (by decide) ?_
  refine lv_ishr hx hb dL_deeds_4 ?_
  refine lv_bipush (v := 7) hx hb dL_deeds_5 (by decide) ?_
  refine rS (As := [.int (a3 >>> ((15 : Int32) &&& 31)), .int 7]) (rest := [.int a3]) hx hb hml hown hts hl.1 (kL_low l D cyC cyI cyO (a3 >>> ((15 : Int32) &&& 31)) 7 (by decide)) bS_L_low  wml_RL_42 ⟨rfl, rfl⟩ ⟨Nat.le_of_ble_eq_true rfl, Nat.le_of_ble_eq_true rfl, Nat.zero_le _, Nat.zero_le _⟩ [] rfl hP hK rfl rfl (Nat.le_of_ble_eq_true rfl) dL_deeds_7 ?_
  obtain ⟨z_3, hz_3⟩ : ∃ q, q = ((if (pL_low (a3 >>> ((15 : Int32) &&& 31)) 7) = 0 then 5 else 4) : Int32) := ⟨_, rfl⟩
  have key_J_2 : W p l e (headSpec (Ty yL_deeds cL_deeds 17 (some .boolean)) ({ frames := 6, cells := 0, slots := 0, locals := 135 } : Room)).room s m ([.ref (Z 0), .int 1, .int a3] : List Value).toArray below meth cd s.heap [] 0 0 (MQ below (MQQ (some (.int 1)) D (List.flatten [wRt Z C TR SN HI Y P R rt, wPd cyC P sg pw, wRd R P rd, wC cyI C (pL_deeds_1 rt sg pw rd u w h r v tu tw su sw g a3).2.2.2.1 (pL_deeds_1 rt sg pw rd u w h r v tu tw su sw g a3).2.2.2.2, wHM cyI cyO HI BB (pL_deeds_1 rt sg pw rd u w h r v tu tw su sw g a3).1 (pL_deeds_1 rt sg pw rd u w h r v tu tw su sw g a3).2.1 (pL_deeds_1 rt sg pw rd u w h r v tu tw su sw g a3).2.2.1, wC cyI TR tu tw, wC cyI SN su sw, wWy cyI Y g]) A0) ([.ref (Z 0), .int 1, .int a3] : List Value).toArray s 0 0 A0) (F0 m 18 ls [.int z_3, .int a3]) := by
    refine rS (As := [.int a3, .int z_3]) (rest := []) hx hb hml hown hts hl.1 (kL_low l D cyC cyI cyO a3 z_3 (by subst hz_3; exact f18)) bS_L_low  wml_RL_42 ⟨rfl, rfl⟩ ⟨Nat.le_of_ble_eq_true rfl, Nat.le_of_ble_eq_true rfl, Nat.zero_le _, Nat.zero_le _⟩ [] rfl hP hK rfl rfl (Nat.le_of_ble_eq_true rfl) dL_deeds_18 ?_
    refine W.eq (congrArg (fun q => F0 m _ ls (.int q :: [])) (show (pL_low a3 z_3) = (dW a3) from (by subst hz_3; rfl))) ?_
    refine lv_istore_n (lv' := [(3, .int (dW a3)), (0, .ref (Z 0)), (1, .int 1), (2, .int a3)]) hx hb dL_deeds_21 rfl hl (by decide) rfl (fun ls hl => ?_)
    refine lv_iload_n hx hb dL_deeds_22 rfl (lv_at hl 3 rfl) ?_
    refine lv_iconst (v := 3) hx hb dL_deeds_23 (by decide) ?_
    refine lv_ishr hx hb dL_deeds_24 ?_
    refine lv_bipush (v := 24) hx hb dL_deeds_25 (by decide) ?_
    refine rS (As := [.int (a3 >>> ((3 : Int32) &&& 31)), .int 24]) (rest := []) hx hb hml hown hts hl.1 (kL_low l D cyC cyI cyO (a3 >>> ((3 : Int32) &&& 31)) 24 (by decide)) bS_L_low  wml_RL_42 ⟨rfl, rfl⟩ ⟨Nat.le_of_ble_eq_true rfl, Nat.le_of_ble_eq_true rfl, Nat.zero_le _, Nat.zero_le _⟩ [] rfl hP hK rfl rfl (Nat.le_of_ble_eq_true rfl) dL_deeds_27 ?_
    refine lv_istore (lv' := [(4, .int (pL_low (a3 >>> ((3 : Int32) &&& 31)) 24)), (3, .int (dW a3)), (0, .ref (Z 0)), (1, .int 1), (2, .int a3)]) hx hb dL_deeds_30 hl (by decide) rfl (fun ls hl => ?_)
    refine lv_iload_n hx hb dL_deeds_32 rfl (lv_at hl 4 rfl) ?_
    refine lv_bipush (v := 14) hx hb dL_deeds_33 (by decide) ?_
    refine lv_ishr hx hb dL_deeds_35 ?_
    refine lv_bipush (v := 9) hx hb dL_deeds_36 (by decide) ?_
    refine rS (As := [.int (a3 >>> ((14 : Int32) &&& 31)), .int 9]) (rest := []) hx hb hml hown hts hl.1 (kL_low l D cyC cyI cyO (a3 >>> ((14 : Int32) &&& 31)) 9 (by decide)) bS_L_low  wml_RL_42 ⟨rfl, rfl⟩ ⟨Nat.le_of_ble_eq_true rfl, Nat.le_of_ble_eq_true rfl, Nat.zero_le _, Nat.zero_le _⟩ [] rfl hP hK rfl rfl (Nat.le_of_ble_eq_true rfl) dL_deeds_38 ?_
    obtain ⟨z_7, hz_7⟩ : ∃ q, q = ((if (pL_low (a3 >>> ((14 : Int32) &&& 31)) 9) = 0 then 28 else (if 12 ≤ (pL_low (a3 >>> ((3 : Int32) &&& 31)) 24) then ((pL_low (a3 >>> ((3 : Int32) &&& 31)) 24) + (4 : Int32)) else ((((pL_low (a3 >>> ((3 : Int32) &&& 31)) 24) / (3 : Int32)) * (4 : Int32)) + ((pL_low (a3 >>> ((3 : Int32) &&& 31)) 24) - (pL_low (a3 >>> ((3 : Int32) &&& 31)) 24) / (3 : Int32) * (3 : Int32))))) : Int32) := ⟨_, rfl⟩
    have key_J_5 : W p l e (headSpec (Ty yL_deeds cL_deeds 17 (some .boolean)) ({ frames := 6, cells := 0, slots := 0, locals := 135 } : Room)).room s m ([.ref (Z 0), .int 1, .int a3] : List Value).toArray below meth cd s.heap [] 0 0 (MQ below (MQQ (some (.int 1)) D (List.flatten [wRt Z C TR SN HI Y P R rt, wPd cyC P sg pw, wRd R P rd, wC cyI C (pL_deeds_1 rt sg pw rd u w h r v tu tw su sw g a3).2.2.2.1 (pL_deeds_1 rt sg pw rd u w h r v tu tw su sw g a3).2.2.2.2, wHM cyI cyO HI BB (pL_deeds_1 rt sg pw rd u w h r v tu tw su sw g a3).1 (pL_deeds_1 rt sg pw rd u w h r v tu tw su sw g a3).2.1 (pL_deeds_1 rt sg pw rd u w h r v tu tw su sw g a3).2.2.1, wC cyI TR tu tw, wC cyI SN su sw, wWy cyI Y g]) A0) ([.ref (Z 0), .int 1, .int a3] : List Value).toArray s 0 0 A0) (F0 m 74 ls [.int z_7]) := by
      refine W.eq (congrArg (fun q => F0 m _ ls (.int q :: [])) (show z_7 = (dN a3) from (by subst hz_7; rfl))) ?_
      refine lv_istore (lv' := [(4, .int (dN a3)), (3, .int (dW a3)), (0, .ref (Z 0)), (1, .int 1), (2, .int a3)]) hx hb dL_deeds_74 hl (by decide) rfl (fun ls hl => ?_)
      refine lv_iload_n hx hb dL_deeds_76 rfl (lv_at hl 1 rfl) ?_
      refine lv_iconst (v := 4) hx hb dL_deeds_77 (by decide) ?_
      obtain ⟨z_11, hz_11⟩ : ∃ q, q = ((if (dW a3) = 4 then 1 else (if (dN a3) = 28 then 1 else 0)) : Int32) := ⟨_, rfl⟩
      have key_J_9 : W p l e (headSpec (Ty yL_deeds cL_deeds 17 (some .boolean)) ({ frames := 6, cells := 0, slots := 0, locals := 135 } : Room)).room s m ([.ref (Z 0), .int 1, .int a3] : List Value).toArray below meth cd s.heap [] 0 0 (MQ below (MQQ (some (.int 1)) D (List.flatten [wRt Z C TR SN HI Y P R rt, wPd cyC P sg pw, wRd R P rd, wC cyI C (pL_deeds_1 rt sg pw rd u w h r v tu tw su sw g a3).2.2.2.1 (pL_deeds_1 rt sg pw rd u w h r v tu tw su sw g a3).2.2.2.2, wHM cyI cyO HI BB (pL_deeds_1 rt sg pw rd u w h r v tu tw su sw g a3).1 (pL_deeds_1 rt sg pw rd u w h r v tu tw su sw g a3).2.1 (pL_deeds_1 rt sg pw rd u w h r v tu tw su sw g a3).2.2.1, wC cyI TR tu tw, wC cyI SN su sw, wWy cyI Y g]) A0) ([.ref (Z 0), .int 1, .int a3] : List Value).toArray s 0 0 A0) (F0 m 93 ls [.int z_11]) := by
        refine lv_istore (lv' := [(5, .int z_11), (4, .int (dN a3)), (3, .int (dW a3)), (0, .ref (Z 0)), (1, .int 1), (2, .int a3)]) hx hb dL_deeds_93 hl (by decide) rfl (fun ls hl => ?_)
        refine lv_aload_n hx hb dL_deeds_95 rfl (lv_at hl 3 rfl) ?_
        refine lv_bipush (v := 13) hx hb dL_deeds_96 (by decide) ?_
        refine rVB (bl := [wRt Z C TR SN HI Y P R rt, wPd cyC P sg pw, wRd R P rd, wC cyI C u w, wHM cyI cyO HI BB h r v, wC cyI TR tu tw, wC cyI SN su sw, wWy cyI Y g]) (WSb := [wRt Z C TR SN HI Y P R rt, wPd cyC P sg pw, wRd R P rd, wC cyI C u w, wHM cyI cyO HI BB h r v, wC cyI TR tu tw, wC cyI SN su sw, wWy cyI Y g]) (As := [.int 13]) (rest := []) hx hb hml hown hts hl.1 (k_fC l D cyC cyI cyO Z C TR SN HI Y P R BB rt sg pw rd u w h r v tu tw su sw g 13 hq (vp_lit (by decide))) bV_X6_count wml_RL_13 ⟨rfl, rfl⟩ ⟨Nat.le_of_ble_eq_true rfl, Nat.le_of_ble_eq_true rfl, Nat.zero_le _, Nat.zero_le _⟩ [0, 1, 2, 3, 4, 5, 6, 7] rfl rfl hP hK 0 rfl rfl rfl rfl rfl (Nat.le_of_ble_eq_true rfl) dL_deeds_98 ?_
        refine lv_istore (lv' := [(6, .int (fC u w 13)), (5, .int z_11), (4, .int (dN a3)), (3, .int (dW a3)), (0, .ref (Z 0)), (1, .int 1), (2, .int a3)]) hx hb dL_deeds_101 hl (by decide) rfl (fun ls hl => ?_)
        refine lv_aload_n hx hb dL_deeds_103 rfl (lv_at hl 4 rfl) ?_
        refine lv_iconst (v := 5) hx hb dL_deeds_104 (by decide) ?_
        refine rVB (bl := [wRt Z C TR SN HI Y P R rt, wPd cyC P sg pw, wRd R P rd, wC cyI C u w, wHM cyI cyO HI BB h r v, wC cyI TR tu tw, wC cyI SN su sw, wWy cyI Y g]) (WSb := [wRt Z C TR SN HI Y P R rt, wPd cyC P sg pw, wRd R P rd, wC cyI C u w, wHM cyI cyO HI BB h r v, wC cyI TR tu tw, wC cyI SN su sw, wWy cyI Y g]) (As := [.int 5]) (rest := []) hx hb hml hown hts hl.1 (k_fC l D cyC cyI cyO Z C TR SN HI Y P R BB rt sg pw rd u w h r v tu tw su sw g 5 hq (vp_lit (by decide))) bV_X6_count wml_RL_13 ⟨rfl, rfl⟩ ⟨Nat.le_of_ble_eq_true rfl, Nat.le_of_ble_eq_true rfl, Nat.zero_le _, Nat.zero_le _⟩ [0, 1, 2, 3, 4, 5, 6, 7] rfl rfl hP hK 0 rfl rfl rfl rfl rfl (Nat.le_of_ble_eq_true rfl) dL_deeds_105 ?_
        refine lv_istore (lv' := [(7, .int (fC u w 5)), (6, .int (fC u w 13)), (5, .int z_11), (4, .int (dN a3)), (3, .int (dW a3)), (0, .ref (Z 0)), (1, .int 1), (2, .int a3)]) hx hb dL_deeds_108 hl (by decide) rfl (fun ls hl => ?_)
        refine lv_iload hx hb dL_deeds_110 (lv_at hl 3 rfl) ?_
        refine lv_bipush (v := 28) hx hb dL_deeds_112 (by decide) ?_
        obtain ⟨z_14, hz_14⟩ : ∃ q, q = ((if (dN a3) = 28 then (-4) else (fG u w (dN a3) 3)) : Int32) := ⟨_, rfl⟩
        have key_J_13 : W p l e (headSpec (Ty yL_deeds cL_deeds 17 (some .boolean)) ({ frames := 6, cells := 0, slots := 0, locals := 135 } : Room)).room s m ([.ref (Z 0), .int 1, .int a3] : List Value).toArray below meth cd s.heap [] 0 0 (MQ below (MQQ (some (.int 1)) D (List.flatten [wRt Z C TR SN HI Y P R rt, wPd cyC P sg pw, wRd R P rd, wC cyI C (pL_deeds_1 rt sg pw rd u w h r v tu tw su sw g a3).2.2.2.1 (pL_deeds_1 rt sg pw rd u w h r v tu tw su sw g a3).2.2.2.2, wHM cyI cyO HI BB (pL_deeds_1 rt sg pw rd u w h r v tu tw su sw g a3).1 (pL_deeds_1 rt sg pw rd u w h r v tu tw su sw g a3).2.1 (pL_deeds_1 rt sg pw rd u w h r v tu tw su sw g a3).2.2.1, wC cyI TR tu tw, wC cyI SN su sw, wWy cyI Y g]) A0) ([.ref (Z 0), .int 1, .int a3] : List Value).toArray s 0 0 A0) (F0 m 129 ls [.int z_14]) := by
          refine lv_istore (lv' := [(8, .int z_14), (7, .int (fC u w 5)), (6, .int (fC u w 13)), (5, .int z_11), (4, .int (dN a3)), (3, .int (dW a3)), (0, .ref (Z 0)), (1, .int 1), (2, .int a3)]) hx hb dL_deeds_129 hl (by decide) rfl (fun ls hl => ?_)
          refine lv_iload_n hx hb dL_deeds_131 rfl (lv_at hl 7 rfl) ?_
          refine lv_if_ne (tgt := 258) hx hb dL_deeds_132 (by decide) (fun c_15 => ?_) (fun c_15 => absurd c_15 (by decide))
          refine lv_iload_n hx hb dL_deeds_258 rfl (lv_at hl 7 rfl) ?_
          refine lv_iconst (v := 1) hx hb dL_deeds_259 (by decide) ?_
          refine lv_icmp_ne (tgt := 428) hx hb dL_deeds_260 (by decide) (fun c_16 => absurd (by decide) c_16) (fun c_16 => ?_)
          refine lv_iload hx hb dL_deeds_263 (lv_at hl 3 rfl) ?_
          obtain ⟨z_20, hz_20⟩ : ∃ q, q = ((if z_11 = 0 then (if z_14 = (dW a3) then 1 else 0) else 0) : Int32) := ⟨_, rfl⟩
          have key_J_18 : W p l e (headSpec (Ty yL_deeds cL_deeds 17 (some .boolean)) ({ frames := 6, cells := 0, slots := 0, locals := 135 } : Room)).room s m ([.ref (Z 0), .int 1, .int a3] : List Value).toArray below meth cd s.heap [] 0 0 (MQ below (MQQ (some (.int 1)) D (List.flatten [wRt Z C TR SN HI Y P R rt, wPd cyC P sg pw, wRd R P rd, wC cyI C (pL_deeds_1 rt sg pw rd u w h r v tu tw su sw g a3).2.2.2.1 (pL_deeds_1 rt sg pw rd u w h r v tu tw su sw g a3).2.2.2.2, wHM cyI cyO HI BB (pL_deeds_1 rt sg pw rd u w h r v tu tw su sw g a3).1 (pL_deeds_1 rt sg pw rd u w h r v tu tw su sw g a3).2.1 (pL_deeds_1 rt sg pw rd u w h r v tu tw su sw g a3).2.2.1, wC cyI TR tu tw, wC cyI SN su sw, wWy cyI Y g]) A0) ([.ref (Z 0), .int 1, .int a3] : List Value).toArray s 0 0 A0) (F0 m 279 ls [.int z_20]) := by
            refine lv_istore (lv' := [(9, .int z_20), (8, .int z_14), (7, .int (fC u w 5)), (6, .int (fC u w 13)), (5, .int z_11), (4, .int (dN a3)), (3, .int (dW a3)), (0, .ref (Z 0)), (1, .int 1), (2, .int a3)]) hx hb dL_deeds_279 hl (by decide) rfl (fun ls hl => ?_)
            refine lv_iload hx hb dL_deeds_281 (lv_at hl 0 rfl) ?_
            obtain ⟨z_23, hz_23⟩ : ∃ q, q = ((if z_20 = 0 then 0 else ((fG u w (dN a3) 4) + (fG u w (dN a3) 5))) : Int32) := ⟨_, rfl⟩
            have key_J_22 : W p l e (headSpec (Ty yL_deeds cL_deeds 17 (some .boolean)) ({ frames := 6, cells := 0, slots := 0, locals := 135 } : Room)).room s m ([.ref (Z 0), .int 1, .int a3] : List Value).toArray below meth cd s.heap [] 0 0 (MQ below (MQQ (some (.int 1)) D (List.flatten [wRt Z C TR SN HI Y P R rt, wPd cyC P sg pw, wRd R P rd, wC cyI C (pL_deeds_1 rt sg pw rd u w h r v tu tw su sw g a3).2.2.2.1 (pL_deeds_1 rt sg pw rd u w h r v tu tw su sw g a3).2.2.2.2, wHM cyI cyO HI BB (pL_deeds_1 rt sg pw rd u w h r v tu tw su sw g a3).1 (pL_deeds_1 rt sg pw rd u w h r v tu tw su sw g a3).2.1 (pL_deeds_1 rt sg pw rd u w h r v tu tw su sw g a3).2.2.1, wC cyI TR tu tw, wC cyI SN su sw, wWy cyI Y g]) A0) ([.ref (Z 0), .int 1, .int a3] : List Value).toArray s 0 0 A0) (F0 m 305 ls [.int z_23]) := by
              refine lv_istore (lv' := [(10, .int z_23), (9, .int z_20), (8, .int z_14), (7, .int (fC u w 5)), (6, .int (fC u w 13)), (5, .int z_11), (4, .int (dN a3)), (3, .int (dW a3)), (0, .ref (Z 0)), (1, .int 1), (2, .int a3)]) hx hb dL_deeds_305 hl (by decide) rfl (fun ls hl => ?_)
              refine lv_aload_n hx hb dL_deeds_307 rfl (lv_at hl 8 rfl) ?_
              refine lv_iload_n hx hb dL_deeds_308 rfl (lv_at hl 7 rfl) ?_
              refine lv_iload hx hb dL_deeds_309 (lv_at hl 6 rfl) ?_
              obtain ⟨z_24, hz_24⟩ : ∃ q, q = (pX6_take rt sg pw rd u w h r v tu tw su sw g (dW a3) (dN a3)) := ⟨_, rfl⟩
              refine mVB (bl := [wRt Z C TR SN HI Y P R rt, wPd cyC P sg pw, wRd R P rd, wC cyI C u w, wHM cyI cyO HI BB h r v, wC cyI TR tu tw, wC cyI SN su sw, wWy cyI Y g]) (bl' := [wRt Z C TR SN HI Y P R rt, wPd cyC P sg pw, wRd R P rd, wC cyI C z_24.2.2.2.2.1 z_24.2.2.2.2.2, wHM cyI cyO HI BB z_24.2.1 z_24.2.2.1 z_24.2.2.2.1, wC cyI TR tu tw, wC cyI SN su sw, wWy cyI Y g]) (WSb := [wRt Z C TR SN HI Y P R rt, wPd cyC P sg pw, wRd R P rd, wC cyI C u w, wHM cyI cyO HI BB h r v, wC cyI TR tu tw, wC cyI SN su sw, wWy cyI Y g]) (WSb' := [wRt Z C TR SN HI Y P R rt, wPd cyC P sg pw, wRd R P rd, wC cyI C z_24.2.2.2.2.1 z_24.2.2.2.2.2, wHM cyI cyO HI BB z_24.2.1 z_24.2.2.1 z_24.2.2.2.1, wC cyI TR tu tw, wC cyI SN su sw, wWy cyI Y g]) (As := [.int (dW a3), .int (dN a3)]) (rest := []) hx hb hml hown hts hl.1 (WS := (List.flatten [wRt Z C TR SN HI Y P R rt, wPd cyC P sg pw, wRd R P rd, wC cyI C u w, wHM cyI cyO HI BB h r v, wC cyI TR tu tw, wC cyI SN su sw, wWy cyI Y g])) (WS' := (List.flatten [wRt Z C TR SN HI Y P R rt, wPd cyC P sg pw, wRd R P rd, wC cyI C z_24.2.2.2.2.1 z_24.2.2.2.2.2, wHM cyI cyO HI BB z_24.2.1 z_24.2.2.1 z_24.2.2.2.1, wC cyI TR tu tw, wC cyI SN su sw, wWy cyI Y g])) (ro := (some (.int z_24.1))) (by rw [hz_24]; exact kX6_take l D cyC cyI cyO Z C TR SN HI Y P R BB rt sg pw rd u w h r v tu tw su sw g (dW a3) (dN a3) hr4) bV_X6_take wml_RL_91 ⟨rfl, rfl⟩ ⟨Nat.le_of_ble_eq_true rfl, Nat.le_of_ble_eq_true rfl, Nat.zero_le _, Nat.zero_le _⟩ [0, 1, 2, 3, 4, 5, 6, 7] rfl rfl rfl rfl rfl rfl rfl hP hD hS hA hK 0 rfl rfl rfl rfl rfl (Nat.le_of_ble_eq_true rfl) dL_deeds_311 (fun H locs hP hD hS => ?_)
              refine lv_istore (lv' := [(11, .int z_24.1), (10, .int z_23), (9, .int z_20), (8, .int z_14), (7, .int (fC u w 5)), (6, .int (fC u w 13)), (5, .int z_11), (4, .int (dN a3)), (3, .int (dW a3)), (0, .ref (Z 0)), (1, .int 1), (2, .int a3)]) hx hb dL_deeds_314 hl (by decide) rfl (fun ls hl => ?_)
              refine lv_iload hx hb dL_deeds_316 (lv_at hl 0 rfl) ?_
              refine lv_iload hx hb dL_deeds_318 (lv_at hl 6 rfl) ?_
              obtain ⟨z_29, hz_29⟩ : ∃ q, q = ((if z_11 = 0 then (if z_20 = 0 then (if z_14 = (-4) then 6 else 7) else ((10 : Int32) + z_23)) else (-1)) : Int32) := ⟨_, rfl⟩
              have key_J_26 : W p l e (headSpec (Ty yL_deeds cL_deeds 17 (some .boolean)) ({ frames := 6, cells := 0, slots := 0, locals := 135 } : Room)).room s m ([.ref (Z 0), .int 1, .int a3] : List Value).toArray below meth cd H locs 0 0 (MQ below (MQQ (some (.int 1)) D (List.flatten [wRt Z C TR SN HI Y P R rt, wPd cyC P sg pw, wRd R P rd, wC cyI C (pL_deeds_1 rt sg pw rd u w h r v tu tw su sw g a3).2.2.2.1 (pL_deeds_1 rt sg pw rd u w h r v tu tw su sw g a3).2.2.2.2, wHM cyI cyO HI BB (pL_deeds_1 rt sg pw rd u w h r v tu tw su sw g a3).1 (pL_deeds_1 rt sg pw rd u w h r v tu tw su sw g a3).2.1 (pL_deeds_1 rt sg pw rd u w h r v tu tw su sw g a3).2.2.1, wC cyI TR tu tw, wC cyI SN su sw, wWy cyI Y g]) A0) ([.ref (Z 0), .int 1, .int a3] : List Value).toArray s 0 0 A0) (F0 m 354 ls [.int z_29, .int z_24.1]) := by
                refine lv_icmp_ne (tgt := 426) hx hb dL_deeds_354 (by decide) (fun c_30 => absurd (by subst hz_29 hz_24 hz_23 hz_20 hz_14 hz_11; exact f354) c_30) (fun c_30 => ?_)
                refine lv_aload_n hx hb dL_deeds_357 rfl (lv_at hl 9 rfl) ?_
                refine lv_bipush (v := 13) hx hb dL_deeds_358 (by decide) ?_
                refine rVB (bl := [wRt Z C TR SN HI Y P R rt, wPd cyC P sg pw, wRd R P rd, wC cyI C z_24.2.2.2.2.1 z_24.2.2.2.2.2, wHM cyI cyO HI BB z_24.2.1 z_24.2.2.1 z_24.2.2.2.1, wC cyI TR tu tw, wC cyI SN su sw, wWy cyI Y g]) (WSb := [wRt Z C TR SN HI Y P R rt, wPd cyC P sg pw, wRd R P rd, wC cyI C z_24.2.2.2.2.1 z_24.2.2.2.2.2, wHM cyI cyO HI BB z_24.2.1 z_24.2.2.1 z_24.2.2.2.1, wC cyI TR tu tw, wC cyI SN su sw, wWy cyI Y g]) (As := [.int 13]) (rest := []) hx hb hml hown hts hl.1 (k_fC l D cyC cyI cyO Z C TR SN HI Y P R BB rt sg pw rd z_24.2.2.2.2.1 z_24.2.2.2.2.2 z_24.2.1 z_24.2.2.1 z_24.2.2.2.1 tu tw su sw g 13 (by subst hz_24; exact f360) (vp_lit (by decide))) bV_X6_count wml_RL_13 ⟨rfl, rfl⟩ ⟨Nat.le_of_ble_eq_true rfl, Nat.le_of_ble_eq_true rfl, Nat.zero_le _, Nat.zero_le _⟩ [0, 1, 2, 3, 4, 5, 6, 7] rfl rfl hP hK 0 rfl rfl rfl rfl rfl (Nat.le_of_ble_eq_true rfl) dL_deeds_360 ?_
                refine lv_iload hx hb dL_deeds_363 (lv_at hl 5 rfl) ?_
                refine lv_iload hx hb dL_deeds_365 (lv_at hl 6 rfl) ?_
                obtain ⟨z_34, hz_34⟩ : ∃ q, q = ((if z_11 = 0 then (if z_20 = 0 then 1 else 0) else 0) : Int32) := ⟨_, rfl⟩
                have key_J_32 : W p l e (headSpec (Ty yL_deeds cL_deeds 17 (some .boolean)) ({ frames := 6, cells := 0, slots := 0, locals := 135 } : Room)).room s m ([.ref (Z 0), .int 1, .int a3] : List Value).toArray below meth cd H locs 0 0 (MQ below (MQQ (some (.int 1)) D (List.flatten [wRt Z C TR SN HI Y P R rt, wPd cyC P sg pw, wRd R P rd, wC cyI C (pL_deeds_1 rt sg pw rd u w h r v tu tw su sw g a3).2.2.2.1 (pL_deeds_1 rt sg pw rd u w h r v tu tw su sw g a3).2.2.2.2, wHM cyI cyO HI BB (pL_deeds_1 rt sg pw rd u w h r v tu tw su sw g a3).1 (pL_deeds_1 rt sg pw rd u w h r v tu tw su sw g a3).2.1 (pL_deeds_1 rt sg pw rd u w h r v tu tw su sw g a3).2.2.1, wC cyI TR tu tw, wC cyI SN su sw, wWy cyI Y g]) A0) ([.ref (Z 0), .int 1, .int a3] : List Value).toArray s 0 0 A0) (F0 m 380 ls [.int z_34, .int (fC u w 13), .int (fC z_24.2.2.2.2.1 z_24.2.2.2.2.2 13)]) := by
                  refine lv_iadd hx hb dL_deeds_380 ?_
                  refine lv_icmp_ne (tgt := 426) hx hb dL_deeds_381 (by decide) (fun c_35 => absurd (by subst hz_34 hz_24 hz_20 hz_14 hz_11; exact f381) c_35) (fun c_35 => ?_)
                  refine lv_aload_n hx hb dL_deeds_384 rfl (lv_at hl 9 rfl) ?_
                  refine lv_iconst (v := 5) hx hb dL_deeds_385 (by decide) ?_
                  refine rVB (bl := [wRt Z C TR SN HI Y P R rt, wPd cyC P sg pw, wRd R P rd, wC cyI C z_24.2.2.2.2.1 z_24.2.2.2.2.2, wHM cyI cyO HI BB z_24.2.1 z_24.2.2.1 z_24.2.2.2.1, wC cyI TR tu tw, wC cyI SN su sw, wWy cyI Y g]) (WSb := [wRt Z C TR SN HI Y P R rt, wPd cyC P sg pw, wRd R P rd, wC cyI C z_24.2.2.2.2.1 z_24.2.2.2.2.2, wHM cyI cyO HI BB z_24.2.1 z_24.2.2.1 z_24.2.2.2.1, wC cyI TR tu tw, wC cyI SN su sw, wWy cyI Y g]) (As := [.int 5]) (rest := []) hx hb hml hown hts hl.1 (k_fC l D cyC cyI cyO Z C TR SN HI Y P R BB rt sg pw rd z_24.2.2.2.2.1 z_24.2.2.2.2.2 z_24.2.1 z_24.2.2.1 z_24.2.2.2.1 tu tw su sw g 5 (by subst hz_24; exact f360) (vp_lit (by decide))) bV_X6_count wml_RL_13 ⟨rfl, rfl⟩ ⟨Nat.le_of_ble_eq_true rfl, Nat.le_of_ble_eq_true rfl, Nat.zero_le _, Nat.zero_le _⟩ [0, 1, 2, 3, 4, 5, 6, 7] rfl rfl hP hK 0 rfl rfl rfl rfl rfl (Nat.le_of_ble_eq_true rfl) dL_deeds_386 ?_
                  refine lv_iload hx hb dL_deeds_389 (lv_at hl 4 rfl) ?_
                  refine lv_iload hx hb dL_deeds_391 (lv_at hl 2 rfl) ?_
                  obtain ⟨z_38, hz_38⟩ : ∃ q, q = ((if z_20 = 0 then 0 else 1) : Int32) := ⟨_, rfl⟩
                  have key_J_37 : W p l e (headSpec (Ty yL_deeds cL_deeds 17 (some .boolean)) ({ frames := 6, cells := 0, slots := 0, locals := 135 } : Room)).room s m ([.ref (Z 0), .int 1, .int a3] : List Value).toArray below meth cd H locs 0 0 (MQ below (MQQ (some (.int 1)) D (List.flatten [wRt Z C TR SN HI Y P R rt, wPd cyC P sg pw, wRd R P rd, wC cyI C (pL_deeds_1 rt sg pw rd u w h r v tu tw su sw g a3).2.2.2.1 (pL_deeds_1 rt sg pw rd u w h r v tu tw su sw g a3).2.2.2.2, wHM cyI cyO HI BB (pL_deeds_1 rt sg pw rd u w h r v tu tw su sw g a3).1 (pL_deeds_1 rt sg pw rd u w h r v tu tw su sw g a3).2.1 (pL_deeds_1 rt sg pw rd u w h r v tu tw su sw g a3).2.2.1, wC cyI TR tu tw, wC cyI SN su sw, wWy cyI Y g]) A0) ([.ref (Z 0), .int 1, .int a3] : List Value).toArray s 0 0 A0) (F0 m 401 ls [.int z_38, .int (fC u w 5), .int (fC z_24.2.2.2.2.1 z_24.2.2.2.2.2 5)]) := by
                    refine lv_isub hx hb dL_deeds_401 ?_
                    refine lv_icmp_ne (tgt := 426) hx hb dL_deeds_402 (by decide) (fun c_39 => absurd (by subst hz_38 hz_24 hz_20 hz_14 hz_11; exact f402) c_39) (fun c_39 => ?_)
                    refine lv_iload hx hb dL_deeds_405 (lv_at hl 2 rfl) ?_
                    have key_J_41 : W p l e (headSpec (Ty yL_deeds cL_deeds 17 (some .boolean)) ({ frames := 6, cells := 0, slots := 0, locals := 135 } : Room)).room s m ([.ref (Z 0), .int 1, .int a3] : List Value).toArray below meth cd H locs 0 0 (MQ below (MQQ (some (.int 1)) D (List.flatten [wRt Z C TR SN HI Y P R rt, wPd cyC P sg pw, wRd R P rd, wC cyI C (pL_deeds_1 rt sg pw rd u w h r v tu tw su sw g a3).2.2.2.1 (pL_deeds_1 rt sg pw rd u w h r v tu tw su sw g a3).2.2.2.2, wHM cyI cyO HI BB (pL_deeds_1 rt sg pw rd u w h r v tu tw su sw g a3).1 (pL_deeds_1 rt sg pw rd u w h r v tu tw su sw g a3).2.1 (pL_deeds_1 rt sg pw rd u w h r v tu tw su sw g a3).2.2.1, wC cyI TR tu tw, wC cyI SN su sw, wWy cyI Y g]) A0) ([.ref (Z 0), .int 1, .int a3] : List Value).toArray s 0 0 A0) (F0 m 422 ls []) := by
                      refine lv_iconst (v := 1) hx hb dL_deeds_422 (by decide) ?_
                      refine lv_goto (tgt := 427) hx hb dL_deeds_423 (by decide) ?_
                      have e9 : (pL_deeds_1 rt sg pw rd u w h r v tu tw su sw g a3) = (z_24.2.1, z_24.2.2.1, z_24.2.2.2.1, z_24.2.2.2.2.1, z_24.2.2.2.2.2) := by simp only [pL_deeds_1, ← hz_24]
                      have e9_0 : (pL_deeds_1 rt sg pw rd u w h r v tu tw su sw g a3).1 = z_24.2.1 := by rw [e9]
                      have e9_1 : (pL_deeds_1 rt sg pw rd u w h r v tu tw su sw g a3).2.1 = z_24.2.2.1 := by rw [e9]
                      have e9_2 : (pL_deeds_1 rt sg pw rd u w h r v tu tw su sw g a3).2.2.1 = z_24.2.2.2.1 := by rw [e9]
                      have e9_3 : (pL_deeds_1 rt sg pw rd u w h r v tu tw su sw g a3).2.2.2.1 = z_24.2.2.2.2.1 := by rw [e9]
                      have e9_4 : (pL_deeds_1 rt sg pw rd u w h r v tu tw su sw g a3).2.2.2.2 = z_24.2.2.2.2.2 := by rw [e9]
                      exact W.zret (ty := .boolean) (v := 1) hx hb hr (by rfl) (fun t ht hW => ⟨⟨rfl, by rw [e9_0, e9_1, e9_2, e9_3, e9_4, ht]; exact hP⟩, hS.F ht⟩) hS.2.2 dL_deeds_427
                    refine lv_if_eq (tgt := 422) hx hb dL_deeds_407 (by decide) (fun c_40 => ?_) (fun c_40 => ?_)
                    · exact key_J_41
                    · refine lv_aload_n hx hb dL_deeds_410 rfl (lv_at hl 9 rfl) ?_
                      refine lv_iload hx hb dL_deeds_411 (lv_at hl 7 rfl) ?_
                      refine lv_iconst (v := 3) hx hb dL_deeds_413 (by decide) ?_
                      refine rVB (bl := [wRt Z C TR SN HI Y P R rt, wPd cyC P sg pw, wRd R P rd, wC cyI C z_24.2.2.2.2.1 z_24.2.2.2.2.2, wHM cyI cyO HI BB z_24.2.1 z_24.2.2.1 z_24.2.2.2.1, wC cyI TR tu tw, wC cyI SN su sw, wWy cyI Y g]) (WSb := [wRt Z C TR SN HI Y P R rt, wPd cyC P sg pw, wRd R P rd, wC cyI C z_24.2.2.2.2.1 z_24.2.2.2.2.2, wHM cyI cyO HI BB z_24.2.1 z_24.2.2.1 z_24.2.2.2.1, wC cyI TR tu tw, wC cyI SN su sw, wWy cyI Y g]) (As := [.int (dN a3), .int 3]) (rest := []) hx hb hml hown hts hl.1 (k_fG l D cyC cyI cyO Z C TR SN HI Y P R BB rt sg pw rd z_24.2.2.2.2.1 z_24.2.2.2.2.2 z_24.2.1 z_24.2.2.1 z_24.2.2.2.1 tu tw su sw g (dN a3) 3 (by subst hz_24 hz_20 hz_14 hz_11; exact (f414 c_40))) bV_X6_gangway wml_RL_29 ⟨rfl, rfl⟩ ⟨Nat.le_of_ble_eq_true rfl, Nat.le_of_ble_eq_true rfl, Nat.zero_le _, Nat.zero_le _⟩ [0, 1, 2, 3, 4, 5, 6, 7] rfl rfl hP hK 0 rfl rfl rfl rfl rfl (Nat.le_of_ble_eq_true rfl) dL_deeds_414 ?_
                      refine lv_bipush (v := (-4)) hx hb dL_deeds_417 (by decide) ?_
                      refine lv_icmp_ne (tgt := 426) hx hb dL_deeds_419 (by decide) (fun c_42 => absurd (by subst hz_24 hz_20 hz_14 hz_11; exact (f419 c_40)) c_42) (fun c_42 => ?_)
                      exact key_J_41
                  refine lv_if_eq (tgt := 400) hx hb dL_deeds_393 (by decide) (fun c_36 => ?_) (fun c_36 => ?_)
                  · refine lv_iconst (v := 0) hx hb dL_deeds_400 (by decide) ?_
                    exact W.eq (congrArg (fun q => F0 m _ ls (.int q :: [.int (fC u w 5), .int (fC z_24.2.2.2.2.1 z_24.2.2.2.2.2 5)])) (show (0 : Int32) = z_38 from (by rw [hz_38]; simp only [if_pos c_36]))) key_J_37
                  · refine lv_iconst (v := 1) hx hb dL_deeds_396 (by decide) ?_
                    refine lv_goto (tgt := 401) hx hb dL_deeds_397 (by decide) ?_
                    exact W.eq (congrArg (fun q => F0 m _ ls (.int q :: [.int (fC u w 5), .int (fC z_24.2.2.2.2.1 z_24.2.2.2.2.2 5)])) (show (1 : Int32) = z_38 from (by rw [hz_38]; simp only [if_neg c_36]))) key_J_37
                refine lv_if_ne (tgt := 375) hx hb dL_deeds_367 (by decide) (fun c_31 => ?_) (fun c_31 => ?_)
                · refine lv_iconst (v := 0) hx hb dL_deeds_375 (by decide) ?_
                  refine lv_goto (tgt := 380) hx hb dL_deeds_376 (by decide) ?_
                  exact W.eq (congrArg (fun q => F0 m _ ls (.int q :: [.int (fC u w 13), .int (fC z_24.2.2.2.2.1 z_24.2.2.2.2.2 13)])) (show (0 : Int32) = z_34 from (by rw [hz_34]; simp only [if_neg c_31]))) key_J_32
                · refine lv_iload hx hb dL_deeds_370 (lv_at hl 2 rfl) ?_
                  refine lv_if_eq (tgt := 379) hx hb dL_deeds_372 (by decide) (fun c_33 => ?_) (fun c_33 => ?_)
                  · refine lv_iconst (v := 1) hx hb dL_deeds_379 (by decide) ?_
                    exact W.eq (congrArg (fun q => F0 m _ ls (.int q :: [.int (fC u w 13), .int (fC z_24.2.2.2.2.1 z_24.2.2.2.2.2 13)])) (show (1 : Int32) = z_34 from (by rw [hz_34]; simp only [if_pos c_31, if_pos c_33]))) key_J_32
                  · refine lv_iconst (v := 0) hx hb dL_deeds_375 (by decide) ?_
                    refine lv_goto (tgt := 380) hx hb dL_deeds_376 (by decide) ?_
                    exact W.eq (congrArg (fun q => F0 m _ ls (.int q :: [.int (fC u w 13), .int (fC z_24.2.2.2.2.1 z_24.2.2.2.2.2 13)])) (show (0 : Int32) = z_34 from (by rw [hz_34]; simp only [if_pos c_31, if_neg c_33]))) key_J_32
              refine lv_if_eq (tgt := 327) hx hb dL_deeds_320 (by decide) (fun c_25 => ?_) (fun c_25 => ?_)
              · refine lv_iload hx hb dL_deeds_327 (lv_at hl 2 rfl) ?_
                refine lv_if_eq (tgt := 340) hx hb dL_deeds_329 (by decide) (fun c_27 => ?_) (fun c_27 => ?_)
                · refine lv_iload hx hb dL_deeds_340 (lv_at hl 3 rfl) ?_
                  refine lv_bipush (v := (-4)) hx hb dL_deeds_342 (by decide) ?_
                  refine lv_icmp_ne (tgt := 352) hx hb dL_deeds_344 (by decide) (fun c_28 => ?_) (fun c_28 => ?_)
                  · refine lv_bipush (v := 7) hx hb dL_deeds_352 (by decide) ?_
                    exact W.eq (congrArg (fun q => F0 m _ ls (.int q :: [.int z_24.1])) (show (7 : Int32) = z_29 from (by rw [hz_29]; simp only [if_pos c_25, if_pos c_27, if_neg c_28]))) key_J_26
                  · refine lv_bipush (v := 6) hx hb dL_deeds_347 (by decide) ?_
                    refine lv_goto (tgt := 354) hx hb dL_deeds_349 (by decide) ?_
                    exact W.eq (congrArg (fun q => F0 m _ ls (.int q :: [.int z_24.1])) (show (6 : Int32) = z_29 from (by rw [hz_29]; simp only [if_pos c_25, if_pos c_27, if_pos c_28]))) key_J_26
                · refine lv_bipush (v := 10) hx hb dL_deeds_332 (by decide) ?_
                  refine lv_iload hx hb dL_deeds_334 (lv_at hl 1 rfl) ?_
                  refine lv_iadd hx hb dL_deeds_336 ?_
                  refine lv_goto (tgt := 354) hx hb dL_deeds_337 (by decide) ?_
                  exact W.eq (congrArg (fun q => F0 m _ ls (.int q :: [.int z_24.1])) (show (((10 : Int32) + z_23) : Int32) = z_29 from (by rw [hz_29]; simp only [if_pos c_25, if_neg c_27]))) key_J_26
              · refine lv_iconst (v := (-1)) hx hb dL_deeds_323 (by decide) ?_
                refine lv_goto (tgt := 354) hx hb dL_deeds_324 (by decide) ?_
                exact W.eq (congrArg (fun q => F0 m _ ls (.int q :: [.int z_24.1])) (show ((-1) : Int32) = z_29 from (by rw [hz_29]; simp only [if_neg c_25]))) key_J_26
            refine lv_if_eq (tgt := 304) hx hb dL_deeds_283 (by decide) (fun c_21 => ?_) (fun c_21 => ?_)
            · refine lv_iconst (v := 0) hx hb dL_deeds_304 (by decide) ?_
              exact W.eq (congrArg (fun q => F0 m _ ls (.int q :: [])) (show (0 : Int32) = z_23 from (by rw [hz_23]; simp only [if_pos c_21]))) key_J_22
            · refine lv_aload_n hx hb dL_deeds_286 rfl (lv_at hl 7 rfl) ?_
              refine lv_iload hx hb dL_deeds_287 (lv_at hl 5 rfl) ?_
              refine lv_iconst (v := 4) hx hb dL_deeds_289 (by decide) ?_
              refine rVB (bl := [wRt Z C TR SN HI Y P R rt, wPd cyC P sg pw, wRd R P rd, wC cyI C u w, wHM cyI cyO HI BB h r v, wC cyI TR tu tw, wC cyI SN su sw, wWy cyI Y g]) (WSb := [wRt Z C TR SN HI Y P R rt, wPd cyC P sg pw, wRd R P rd, wC cyI C u w, wHM cyI cyO HI BB h r v, wC cyI TR tu tw, wC cyI SN su sw, wWy cyI Y g]) (As := [.int (dN a3), .int 4]) (rest := []) hx hb hml hown hts hl.1 (k_fG l D cyC cyI cyO Z C TR SN HI Y P R BB rt sg pw rd u w h r v tu tw su sw g (dN a3) 4 hq) bV_X6_gangway wml_RL_29 ⟨rfl, rfl⟩ ⟨Nat.le_of_ble_eq_true rfl, Nat.le_of_ble_eq_true rfl, Nat.zero_le _, Nat.zero_le _⟩ [0, 1, 2, 3, 4, 5, 6, 7] rfl rfl hP hK 0 rfl rfl rfl rfl rfl (Nat.le_of_ble_eq_true rfl) dL_deeds_290 ?_
              refine lv_aload_n hx hb dL_deeds_293 rfl (lv_at hl 7 rfl) ?_
              refine lv_iload hx hb dL_deeds_294 (lv_at hl 5 rfl) ?_
              refine lv_iconst (v := 5) hx hb dL_deeds_296 (by decide) ?_
              refine rVB (bl := [wRt Z C TR SN HI Y P R rt, wPd cyC P sg pw, wRd R P rd, wC cyI C u w, wHM cyI cyO HI BB h r v, wC cyI TR tu tw, wC cyI SN su sw, wWy cyI Y g]) (WSb := [wRt Z C TR SN HI Y P R rt, wPd cyC P sg pw, wRd R P rd, wC cyI C u w, wHM cyI cyO HI BB h r v, wC cyI TR tu tw, wC cyI SN su sw, wWy cyI Y g]) (As := [.int (dN a3), .int 5]) (rest := [.int (fG u w (dN a3) 4)]) hx hb hml hown hts hl.1 (k_fG l D cyC cyI cyO Z C TR SN HI Y P R BB rt sg pw rd u w h r v tu tw su sw g (dN a3) 5 hq) bV_X6_gangway wml_RL_29 ⟨rfl, rfl⟩ ⟨Nat.le_of_ble_eq_true rfl, Nat.le_of_ble_eq_true rfl, Nat.zero_le _, Nat.zero_le _⟩ [0, 1, 2, 3, 4, 5, 6, 7] rfl rfl hP hK 0 rfl rfl rfl rfl rfl (Nat.le_of_ble_eq_true rfl) dL_deeds_297 ?_
              refine lv_iadd hx hb dL_deeds_300 ?_
              refine lv_goto (tgt := 305) hx hb dL_deeds_301 (by decide) ?_
              exact W.eq (congrArg (fun q => F0 m _ ls (.int q :: [])) (show (((fG u w (dN a3) 4) + (fG u w (dN a3) 5)) : Int32) = z_23 from (by rw [hz_23]; simp only [if_neg c_21]))) key_J_22
          refine lv_if_ne (tgt := 278) hx hb dL_deeds_265 (by decide) (fun c_17 => ?_) (fun c_17 => ?_)
          · refine lv_iconst (v := 0) hx hb dL_deeds_278 (by decide) ?_
            exact W.eq (congrArg (fun q => F0 m _ ls (.int q :: [])) (show (0 : Int32) = z_20 from (by rw [hz_20]; simp only [if_neg c_17]))) key_J_18
          · refine lv_iload hx hb dL_deeds_268 (lv_at hl 0 rfl) ?_
            refine lv_iload_n hx hb dL_deeds_270 rfl (lv_at hl 5 rfl) ?_
            refine lv_icmp_ne (tgt := 278) hx hb dL_deeds_271 (by decide) (fun c_19 => ?_) (fun c_19 => ?_)
            · refine lv_iconst (v := 0) hx hb dL_deeds_278 (by decide) ?_
              exact W.eq (congrArg (fun q => F0 m _ ls (.int q :: [])) (show (0 : Int32) = z_20 from (by rw [hz_20]; simp only [if_pos c_17, if_neg c_19]))) key_J_18
            · refine lv_iconst (v := 1) hx hb dL_deeds_274 (by decide) ?_
              refine lv_goto (tgt := 279) hx hb dL_deeds_275 (by decide) ?_
              exact W.eq (congrArg (fun q => F0 m _ ls (.int q :: [])) (show (1 : Int32) = z_20 from (by rw [hz_20]; simp only [if_pos c_17, if_pos c_19]))) key_J_18
        refine lv_icmp_ne (tgt := 122) hx hb dL_deeds_114 (by decide) (fun c_12 => ?_) (fun c_12 => ?_)
        · refine lv_aload_n hx hb dL_deeds_122 rfl (lv_at hl 5 rfl) ?_
          refine lv_iload hx hb dL_deeds_123 (lv_at hl 3 rfl) ?_
          refine lv_iconst (v := 3) hx hb dL_deeds_125 (by decide) ?_
          refine rVB (bl := [wRt Z C TR SN HI Y P R rt, wPd cyC P sg pw, wRd R P rd, wC cyI C u w, wHM cyI cyO HI BB h r v, wC cyI TR tu tw, wC cyI SN su sw, wWy cyI Y g]) (WSb := [wRt Z C TR SN HI Y P R rt, wPd cyC P sg pw, wRd R P rd, wC cyI C u w, wHM cyI cyO HI BB h r v, wC cyI TR tu tw, wC cyI SN su sw, wWy cyI Y g]) (As := [.int (dN a3), .int 3]) (rest := []) hx hb hml hown hts hl.1 (k_fG l D cyC cyI cyO Z C TR SN HI Y P R BB rt sg pw rd u w h r v tu tw su sw g (dN a3) 3 hq) bV_X6_gangway wml_RL_29 ⟨rfl, rfl⟩ ⟨Nat.le_of_ble_eq_true rfl, Nat.le_of_ble_eq_true rfl, Nat.zero_le _, Nat.zero_le _⟩ [0, 1, 2, 3, 4, 5, 6, 7] rfl rfl hP hK 0 rfl rfl rfl rfl rfl (Nat.le_of_ble_eq_true rfl) dL_deeds_126 ?_
          exact W.eq (congrArg (fun q => F0 m _ ls (.int q :: [])) (show ((fG u w (dN a3) 3) : Int32) = z_14 from (by rw [hz_14]; simp only [if_neg c_12]))) key_J_13
        · refine lv_bipush (v := (-4)) hx hb dL_deeds_117 (by decide) ?_
          refine lv_goto (tgt := 129) hx hb dL_deeds_119 (by decide) ?_
          exact W.eq (congrArg (fun q => F0 m _ ls (.int q :: [])) (show ((-4) : Int32) = z_14 from (by rw [hz_14]; simp only [if_pos c_12]))) key_J_13
      refine lv_icmp_eq (tgt := 88) hx hb dL_deeds_78 (by decide) (fun c_8 => ?_) (fun c_8 => ?_)
      · refine lv_iconst (v := 1) hx hb dL_deeds_88 (by decide) ?_
        refine lv_goto (tgt := 93) hx hb dL_deeds_89 (by decide) ?_
        exact W.eq (congrArg (fun q => F0 m _ ls (.int q :: [])) (show (1 : Int32) = z_11 from (by rw [hz_11]; simp only [if_pos c_8]))) key_J_9
      · refine lv_iload hx hb dL_deeds_81 (lv_at hl 0 rfl) ?_
        refine lv_bipush (v := 28) hx hb dL_deeds_83 (by decide) ?_
        refine lv_icmp_ne (tgt := 92) hx hb dL_deeds_85 (by decide) (fun c_10 => ?_) (fun c_10 => ?_)
        · refine lv_iconst (v := 0) hx hb dL_deeds_92 (by decide) ?_
          exact W.eq (congrArg (fun q => F0 m _ ls (.int q :: [])) (show (0 : Int32) = z_11 from (by rw [hz_11]; simp only [if_neg c_8, if_neg c_10]))) key_J_9
        · refine lv_iconst (v := 1) hx hb dL_deeds_88 (by decide) ?_
          refine lv_goto (tgt := 93) hx hb dL_deeds_89 (by decide) ?_
          exact W.eq (congrArg (fun q => F0 m _ ls (.int q :: [])) (show (1 : Int32) = z_11 from (by rw [hz_11]; simp only [if_neg c_8, if_pos c_10]))) key_J_9
    refine lv_if_ne (tgt := 49) hx hb dL_deeds_41 (by decide) (fun c_4 => ?_) (fun c_4 => ?_)
    · refine lv_iload hx hb dL_deeds_49 (lv_at hl 0 rfl) ?_
      refine lv_bipush (v := 12) hx hb dL_deeds_51 (by decide) ?_
      refine lv_icmp_ge (tgt := 70) hx hb dL_deeds_53 (by decide) (fun c_6 => ?_) (fun c_6 => ?_)
      · refine lv_iload hx hb dL_deeds_70 (lv_at hl 0 rfl) ?_
        refine lv_iconst (v := 4) hx hb dL_deeds_72 (by decide) ?_
        refine lv_iadd hx hb dL_deeds_73 ?_
        exact W.eq (congrArg (fun q => F0 m _ ls (.int q :: [])) (show (((pL_low (a3 >>> ((3 : Int32) &&& 31)) 24) + (4 : Int32)) : Int32) = z_7 from (by rw [hz_7]; simp only [if_neg c_4, if_pos c_6]))) key_J_5
      · refine lv_iload hx hb dL_deeds_56 (lv_at hl 0 rfl) ?_
        refine lv_iconst (v := 3) hx hb dL_deeds_58 (by decide) ?_
        refine lv_idiv hx hb dL_deeds_59 (by decide) ?_
        refine lv_iconst (v := 4) hx hb dL_deeds_60 (by decide) ?_
        refine lv_imul hx hb dL_deeds_61 ?_
        refine lv_iload hx hb dL_deeds_62 (lv_at hl 0 rfl) ?_
        refine lv_iconst (v := 3) hx hb dL_deeds_64 (by decide) ?_
        refine lv_irem hx hb dL_deeds_65 (by decide) ?_
        refine lv_iadd hx hb dL_deeds_66 ?_
        refine lv_goto (tgt := 74) hx hb dL_deeds_67 (by decide) ?_
        exact W.eq (congrArg (fun q => F0 m _ ls (.int q :: [])) (show (((((pL_low (a3 >>> ((3 : Int32) &&& 31)) 24) / (3 : Int32)) * (4 : Int32)) + ((pL_low (a3 >>> ((3 : Int32) &&& 31)) 24) - (pL_low (a3 >>> ((3 : Int32) &&& 31)) 24) / (3 : Int32) * (3 : Int32))) : Int32) = z_7 from (by rw [hz_7]; simp only [if_neg c_4, if_neg c_6]))) key_J_5
    · refine lv_bipush (v := 28) hx hb dL_deeds_44 (by decide) ?_
      refine lv_goto (tgt := 74) hx hb dL_deeds_46 (by decide) ?_
      exact W.eq (congrArg (fun q => F0 m _ ls (.int q :: [])) (show (28 : Int32) = z_7 from (by rw [hz_7]; simp only [if_pos c_4]))) key_J_5
  refine lv_if_ne (tgt := 17) hx hb dL_deeds_10 (by decide) (fun c_1 => ?_) (fun c_1 => ?_)
  · refine lv_iconst (v := 4) hx hb dL_deeds_17 (by decide) ?_
    exact W.eq (congrArg (fun q => F0 m _ ls (.int q :: [.int a3])) (show (4 : Int32) = z_3 from (by rw [hz_3]; simp only [if_neg c_1]))) key_J_2
  · refine lv_iconst (v := 5) hx hb dL_deeds_13 (by decide) ?_
    refine lv_goto (tgt := 18) hx hb dL_deeds_14 (by decide) ?_
    exact W.eq (congrArg (fun q => F0 m _ ls (.int q :: [.int a3])) (show (5 : Int32) = z_3 from (by rw [hz_3]; simp only [if_pos c_1]))) key_J_2
def pL_deeds_2 (rt : (Nat → Int32)) (sg : (Nat → Nat → Int32)) (pw : (Nat → Int32)) (rd : (Nat → Int32)) (u : (Nat → Nat → Int32)) (w : (Nat → Int32)) (h : (Nat → (Nat → Nat → Int32) × (Nat → Int32))) (r : Nat) (v : (Nat → Int32)) (tu : (Nat → Nat → Int32)) (tw : (Nat → Int32)) (su : (Nat → Nat → Int32)) (sw : (Nat → Int32)) (g : (Nat → Nat → Int32)) (a3 : Int32) : (Nat → (Nat → Nat → Int32) × (Nat → Int32)) × Nat × (Nat → Int32) × (Nat → Nat → Int32) × (Nat → Int32) := ((pX6_walk rt sg pw rd u w h r v tu tw su sw g (dW a3) (dN a3)).2.1, (pX6_walk rt sg pw rd u w h r v tu tw su sw g (dW a3) (dN a3)).2.2.1, (pX6_walk rt sg pw rd u w h r v tu tw su sw g (dW a3) (dN a3)).2.2.2.1, (pX6_walk rt sg pw rd u w h r v tu tw su sw g (dW a3) (dN a3)).2.2.2.2.1, (pX6_walk rt sg pw rd u w h r v tu tw su sw g (dW a3) (dN a3)).2.2.2.2.2)
def HF_L_deeds_2 (rt : (Nat → Int32)) (sg : (Nat → Nat → Int32)) (pw : (Nat → Int32)) (rd : (Nat → Int32)) (u : (Nat → Nat → Int32)) (w : (Nat → Int32)) (h : (Nat → (Nat → Nat → Int32) × (Nat → Int32))) (r : Nat) (v : (Nat → Int32)) (tu : (Nat → Nat → Int32)) (tw : (Nat → Int32)) (su : (Nat → Nat → Int32)) (sw : (Nat → Int32)) (g : (Nat → Nat → Int32)) (a3 : Int32) : Prop := ( ¬ ((if (pL_low (a3 >>> ((15 : Int32) &&& 31)) 7) = 0 then 5 else 4) : Int32) = 0) ∧ ( (pX6_walk rt sg pw rd u w h r v tu tw su sw g (dW a3) (dN a3)).1 = ((if ((if (dW a3) = 4 then 1 else (if (dN a3) = 28 then 1 else 0)) : Int32) = 0 then (if ((if ((if (dW a3) = 4 then 1 else (if (dN a3) = 28 then 1 else 0)) : Int32) = 0 then (if ((if (dW a3) = 4 then 0 else (fO u w (dW a3) 3)) : Int32) = ((if (dN a3) = 28 then 0 else (fG u w (dN a3) 1)) : Int32) then 0 else (if ((if (dW a3) = 4 then 0 else (fO u w (dW a3) 3)) : Int32) = ((if (dN a3) = 28 then 0 else (fG u w (dN a3) 2)) : Int32) then 0 else 1)) else 0) : Int32) = 0 then (if ((if ((if (dW a3) = 4 then 1 else (if (dN a3) = 28 then 1 else 0)) : Int32) = 0 then (if ((if ((if (dW a3) = 4 then 1 else (if (dN a3) = 28 then 1 else 0)) : Int32) = 0 then (if ((if (dW a3) = 4 then 0 else (fO u w (dW a3) 3)) : Int32) = ((if (dN a3) = 28 then 0 else (fG u w (dN a3) 1)) : Int32) then 0 else (if ((if (dW a3) = 4 then 0 else (fO u w (dW a3) 3)) : Int32) = ((if (dN a3) = 28 then 0 else (fG u w (dN a3) 2)) : Int32) then 0 else 1)) else 0) : Int32) = 0 then (if (fG u w (dN a3) 0) = 0 then 1 else (if (fO u w (dW a3) 0) ≤ (fG u w (dN a3) 0) then (if ((if (dN a3) = 28 then (-4) else (fG u w (dN a3) 3)) : Int32) = (-4) then (if (((fO u w (dW a3) 1) >>> (((((if (dN a3) = 28 then 0 else (fG u w (dN a3) 1)) : Int32) + ((if (dN a3) = 28 then 0 else (fG u w (dN a3) 2)) : Int32)) - ((if (dW a3) = 4 then 0 else (fO u w (dW a3) 3)) : Int32)) &&& 31)) &&& (1 : Int32)) = 1 then 0 else 3) else (if ((if (dN a3) = 28 then (-4) else (fG u w (dN a3) 3)) : Int32) = (dW a3) then (if (((fO u w (dW a3) 1) >>> (((((if (dN a3) = 28 then 0 else (fG u w (dN a3) 1)) : Int32) + ((if (dN a3) = 28 then 0 else (fG u w (dN a3) 2)) : Int32)) - ((if (dW a3) = 4 then 0 else (fO u w (dW a3) 3)) : Int32)) &&& 31)) &&& (1 : Int32)) = 1 then 0 else 3) else 9)) else 8)) else 0) else 0) : Int32) ≤ 0 then ((10 : Int32) + ((((if (dN a3) = 28 then 0 else (fG u w (dN a3) 1)) : Int32) + ((if (dN a3) = 28 then 0 else (fG u w (dN a3) 2)) : Int32)) - ((if (dW a3) = 4 then 0 else (fO u w (dW a3) 3)) : Int32))) else ((if ((if (dW a3) = 4 then 1 else (if (dN a3) = 28 then 1 else 0)) : Int32) = 0 then (if ((if ((if (dW a3) = 4 then 1 else (if (dN a3) = 28 then 1 else 0)) : Int32) = 0 then (if ((if (dW a3) = 4 then 0 else (fO u w (dW a3) 3)) : Int32) = ((if (dN a3) = 28 then 0 else (fG u w (dN a3) 1)) : Int32) then 0 else (if ((if (dW a3) = 4 then 0 else (fO u w (dW a3) 3)) : Int32) = ((if (dN a3) = 28 then 0 else (fG u w (dN a3) 2)) : Int32) then 0 else 1)) else 0) : Int32) = 0 then (if (fG u w (dN a3) 0) = 0 then 1 else (if (fO u w (dW a3) 0) ≤ (fG u w (dN a3) 0) then (if ((if (dN a3) = 28 then (-4) else (fG u w (dN a3) 3)) : Int32) = (-4) then (if (((fO u w (dW a3) 1) >>> (((((if (dN a3) = 28 then 0 else (fG u w (dN a3) 1)) : Int32) + ((if (dN a3) = 28 then 0 else (fG u w (dN a3) 2)) : Int32)) - ((if (dW a3) = 4 then 0 else (fO u w (dW a3) 3)) : Int32)) &&& 31)) &&& (1 : Int32)) = 1 then 0 else 3) else (if ((if (dN a3) = 28 then (-4) else (fG u w (dN a3) 3)) : Int32) = (dW a3) then (if (((fO u w (dW a3) 1) >>> (((((if (dN a3) = 28 then 0 else (fG u w (dN a3) 1)) : Int32) + ((if (dN a3) = 28 then 0 else (fG u w (dN a3) 2)) : Int32)) - ((if (dW a3) = 4 then 0 else (fO u w (dW a3) 3)) : Int32)) &&& 31)) &&& (1 : Int32)) = 1 then 0 else 3) else 9)) else 8)) else 0) else 0) : Int32)) else (-2)) else (-1)) : Int32)) ∧ ( ((pX6_walk rt sg pw rd u w h r v tu tw su sw g (dW a3) (dN a3)).2.2.2.2.2 12) < 4) ∧ ( (fC (pX6_walk rt sg pw rd u w h r v tu tw su sw g (dW a3) (dN a3)).2.2.2.2.1 (pX6_walk rt sg pw rd u w h r v tu tw su sw g (dW a3) (dN a3)).2.2.2.2.2 13) = ((fC u w 13) + ((if ((if ((if (dW a3) = 4 then 1 else (if (dN a3) = 28 then 1 else 0)) : Int32) = 0 then (if ((if ((if (dW a3) = 4 then 1 else (if (dN a3) = 28 then 1 else 0)) : Int32) = 0 then (if ((if (dW a3) = 4 then 0 else (fO u w (dW a3) 3)) : Int32) = ((if (dN a3) = 28 then 0 else (fG u w (dN a3) 1)) : Int32) then 0 else (if ((if (dW a3) = 4 then 0 else (fO u w (dW a3) 3)) : Int32) = ((if (dN a3) = 28 then 0 else (fG u w (dN a3) 2)) : Int32) then 0 else 1)) else 0) : Int32) = 0 then (if (fG u w (dN a3) 0) = 0 then 1 else (if (fO u w (dW a3) 0) ≤ (fG u w (dN a3) 0) then (if ((if (dN a3) = 28 then (-4) else (fG u w (dN a3) 3)) : Int32) = (-4) then (if (((fO u w (dW a3) 1) >>> (((((if (dN a3) = 28 then 0 else (fG u w (dN a3) 1)) : Int32) + ((if (dN a3) = 28 then 0 else (fG u w (dN a3) 2)) : Int32)) - ((if (dW a3) = 4 then 0 else (fO u w (dW a3) 3)) : Int32)) &&& 31)) &&& (1 : Int32)) = 1 then 0 else 3) else (if ((if (dN a3) = 28 then (-4) else (fG u w (dN a3) 3)) : Int32) = (dW a3) then (if (((fO u w (dW a3) 1) >>> (((((if (dN a3) = 28 then 0 else (fG u w (dN a3) 1)) : Int32) + ((if (dN a3) = 28 then 0 else (fG u w (dN a3) 2)) : Int32)) - ((if (dW a3) = 4 then 0 else (fO u w (dW a3) 3)) : Int32)) &&& 31)) &&& (1 : Int32)) = 1 then 0 else 3) else 9)) else 8)) else 0) else 0) : Int32) ≤ 0 then 0 else 1) : Int32))) ∧ ((¬ (dW a3) = 4) → ((pX6_walk rt sg pw rd u w h r v tu tw su sw g (dW a3) (dN a3)).2.2.2.2.2 12) < 4) ∧ ((¬ (dW a3) = 4) → (fO (pX6_walk rt sg pw rd u w h r v tu tw su sw g (dW a3) (dN a3)).2.2.2.2.1 (pX6_walk rt sg pw rd u w h r v tu tw su sw g (dW a3) (dN a3)).2.2.2.2.2 (dW a3) 3) = ((if (pX6_walk rt sg pw rd u w h r v tu tw su sw g (dW a3) (dN a3)).1 < 10 then ((if (dW a3) = 4 then 0 else (fO u w (dW a3) 3)) : Int32) else ((((if (dN a3) = 28 then 0 else (fG u w (dN a3) 1)) : Int32) + ((if (dN a3) = 28 then 0 else (fG u w (dN a3) 2)) : Int32)) - ((if (dW a3) = 4 then 0 else (fO u w (dW a3) 3)) : Int32))) : Int32)) ∧ ((¬ (dW a3) = 4) → (fO (pX6_walk rt sg pw rd u w h r v tu tw su sw g (dW a3) (dN a3)).2.2.2.2.1 (pX6_walk rt sg pw rd u w h r v tu tw su sw g (dW a3) (dN a3)).2.2.2.2.2 (dW a3) 7) = (((if (dW a3) = 4 then 0 else (fO u w (dW a3) 7)) : Int32) + ((if (pX6_walk rt sg pw rd u w h r v tu tw su sw g (dW a3) (dN a3)).1 < 10 then 0 else 1) : Int32)))
set_option maxHeartbeats 4000000 in
set_option maxRecDepth 100000 in
theorem kL_deeds_2 (l : Launch) (D : va_G) (cyC cyI cyO : ClassId) (Z : Nat → Nat) (C : Nat → Nat) (TR : Nat → Nat) (SN : Nat → Nat) (HI : Nat → Nat) (Y : Nat → Nat) (P : Nat → Nat) (R : Nat → Nat) (BB : Nat → Nat → Nat) (rt : (Nat → Int32)) (sg : (Nat → Nat → Int32)) (pw : (Nat → Int32)) (rd : (Nat → Int32)) (u : (Nat → Nat → Int32)) (w : (Nat → Int32)) (h : (Nat → (Nat → Nat → Int32) × (Nat → Int32))) (r : Nat) (v : (Nat → Int32)) (tu : (Nat → Nat → Int32)) (tw : (Nat → Int32)) (su : (Nat → Nat → Int32)) (sw : (Nat → Int32)) (g : (Nat → Nat → Int32)) (a3 : Int32) (hr4 : r < 4) (hq : (w 12) < 4) (hF : HF_L_deeds_2 rt sg pw rd u w h r v tu tw su sw g a3) : MU l yL_deeds (Ty yL_deeds cL_deeds 17 (some .boolean)) ({ frames := 6, cells := 0, slots := 0, locals := 137 } : Room) D cyC cyI cyO (List.flatten [wRt Z C TR SN HI Y P R rt, wPd cyC P sg pw, wRd R P rd, wC cyI C u w, wHM cyI cyO HI BB h r v, wC cyI TR tu tw, wC cyI SN su sw, wWy cyI Y g]) [.ref (Z 0), .int 2, .int a3] (some (.int 1)) (List.flatten [wRt Z C TR SN HI Y P R rt, wPd cyC P sg pw, wRd R P rd, wC cyI C (pL_deeds_2 rt sg pw rd u w h r v tu tw su sw g a3).2.2.2.1 (pL_deeds_2 rt sg pw rd u w h r v tu tw su sw g a3).2.2.2.2, wHM cyI cyO HI BB (pL_deeds_2 rt sg pw rd u w h r v tu tw su sw g a3).1 (pL_deeds_2 rt sg pw rd u w h r v tu tw su sw g a3).2.1 (pL_deeds_2 rt sg pw rd u w h r v tu tw su sw g a3).2.2.1, wC cyI TR tu tw, wC cyI SN su sw, wWy cyI Y g]) := by
  intro sz
  refine Met.ofW (cc := cL_deeds) (maxL := 17) (ret := (some .boolean)) (by decide) rfl ?_
  intro p e s m args below meth cd s₁ B hml hv
  obtain ⟨f18, f673, f679, f695, f706, f723, f748⟩ := hF
  obtain ⟨rfl, hsz, hP, hK, hD0⟩ := hv
  have hx := B.exec
  have hb := B.bytes
  have hr := B.returns
  have hts : ∀ w ∈ TB, w.before ([.ref (Z 0), .int 2, .int a3] : List Value).toArray s = true := fun w h => atoms_spec (ws := (Ty yL_deeds cL_deeds 17 (some .boolean))) B.pre w (List.mem_cons_of_mem _ h)
  have hown : s.vm.findClass RL = some m.cls := findClass_of_methodNamed B.named
  have hlocks := B.notSynchronized
  subst hsz
  have hD := hD0.self (sz := s.heap.size)
  have hA : ∀ q : Nat, s.heap.size ≤ q → (va_A (List.flatten [wRt Z C TR SN HI Y P R rt, wPd cyC P sg pw, wRd R P rd, wC cyI C u w, wHM cyI cyO HI BB h r v, wC cyI TR tu tw, wC cyI SN su sw, wWy cyI Y g]) s.heap.size) q := fun q h => Or.inr h
  generalize hAe : va_A (List.flatten [wRt Z C TR SN HI Y P R rt, wPd cyC P sg pw, wRd R P rd, wC cyI C u w, wHM cyI cyO HI BB h r v, wC cyI TR tu tw, wC cyI SN su sw, wWy cyI Y g]) s.heap.size = A0 at hD hA ⊢
  have hS : va_S A0 s.heap s.heap [] := va_S.rf
  have hl := lv_entry ([.ref (Z 0), .int 2, .int a3]) (n := 17) (Nat.le_of_ble_eq_true rfl)
  rw [lg_entry_eq]
  generalize (lg_sl ([.ref (Z 0), .int 2, .int a3]) ++ List.replicate (17 - (lg_sl ([.ref (Z 0), .int 2, .int a3])).length) Slot.unset).toArray = ls at hl ⊢
  have hl : lv_has ls 17 [(0, .ref (Z 0)), (1, .int 2), (2, .int a3)] := hl
  refine lv_iload_n hx hb dL_deeds_0 rfl (lv_at hl 2 rfl) ?_
  refine lv_iload_n hx hb dL_deeds_1 rfl (lv_at hl 2 rfl) ?_
  refine lv_bipush (v := 15) hx hb dL_deeds_2 (by decide) ?_
  refine lv_ishr hx hb dL_deeds_4 ?_
  refine lv_bipush (v := 7) hx hb dL_deeds_5 (by decide) ?_
  refine rS (As := [.int (a3 >>> ((15 : Int32) &&& 31)), .int 7]) (rest := [.int a3]) hx hb hml hown hts hl.1 (kL_low l D cyC cyI cyO (a3 >>> ((15 : Int32) &&& 31)) 7 (by decide)) bS_L_low  wml_RL_42 ⟨rfl, rfl⟩ ⟨Nat.le_of_ble_eq_true rfl, Nat.le_of_ble_eq_true rfl, Nat.zero_le _, Nat.zero_le _⟩ [] rfl hP hK rfl rfl (Nat.le_of_ble_eq_true rfl) dL_deeds_7 ?_
  obtain ⟨z_3, hz_3⟩ : ∃ q, q = ((if (pL_low (a3 >>> ((15 : Int32) &&& 31)) 7) = 0 then 5 else 4) : Int32) := ⟨_, rfl⟩
  have key_J_2 : W p l e (headSpec (Ty yL_deeds cL_deeds 17 (some .boolean)) ({ frames := 6, cells := 0, slots := 0, locals := 137 } : Room)).room s m ([.ref (Z 0), .int 2, .int a3] : List Value).toArray below meth cd s.heap [] 0 0 (MQ below (MQQ (some (.int 1)) D (List.flatten [wRt Z C TR SN HI Y P R rt, wPd cyC P sg pw, wRd R P rd, wC cyI C (pL_deeds_2 rt sg pw rd u w h r v tu tw su sw g a3).2.2.2.1 (pL_deeds_2 rt sg pw rd u w h r v tu tw su sw g a3).2.2.2.2, wHM cyI cyO HI BB (pL_deeds_2 rt sg pw rd u w h r v tu tw su sw g a3).1 (pL_deeds_2 rt sg pw rd u w h r v tu tw su sw g a3).2.1 (pL_deeds_2 rt sg pw rd u w h r v tu tw su sw g a3).2.2.1, wC cyI TR tu tw, wC cyI SN su sw, wWy cyI Y g]) A0) ([.ref (Z 0), .int 2, .int a3] : List Value).toArray s 0 0 A0) (F0 m 18 ls [.int z_3, .int a3]) := by
    refine rS (As := [.int a3, .int z_3]) (rest := []) hx hb hml hown hts hl.1 (kL_low l D cyC cyI cyO a3 z_3 (by subst hz_3; exact f18)) bS_L_low  wml_RL_42 ⟨rfl, rfl⟩ ⟨Nat.le_of_ble_eq_true rfl, Nat.le_of_ble_eq_true rfl, Nat.zero_le _, Nat.zero_le _⟩ [] rfl hP hK rfl rfl (Nat.le_of_ble_eq_true rfl) dL_deeds_18 ?_
    refine W.eq (congrArg (fun q => F0 m _ ls (.int q :: [])) (show (pL_low a3 z_3) = (dW a3) from (by subst hz_3; rfl))) ?_
    refine lv_istore_n (lv' := [(3, .int (dW a3)), (0, .ref (Z 0)), (1, .int 2), (2, .int a3)]) hx hb dL_deeds_21 rfl hl (by decide) rfl (fun ls hl => ?_)
    refine lv_iload_n hx hb dL_deeds_22 rfl (lv_at hl 3 rfl) ?_
    refine lv_iconst (v := 3) hx hb dL_deeds_23 (by decide) ?_
    refine lv_ishr hx hb dL_deeds_24 ?_
    refine lv_bipush (v := 24) hx hb dL_deeds_25 (by decide) ?_
    refine rS (As := [.int (a3 >>> ((3 : Int32) &&& 31)), .int 24]) (rest := []) hx hb hml hown hts hl.1 (kL_low l D cyC cyI cyO (a3 >>> ((3 : Int32) &&& 31)) 24 (by decide)) bS_L_low  wml_RL_42 ⟨rfl, rfl⟩ ⟨Nat.le_of_ble_eq_true rfl, Nat.le_of_ble_eq_true rfl, Nat.zero_le _, Nat.zero_le _⟩ [] rfl hP hK rfl rfl (Nat.le_of_ble_eq_true rfl) dL_deeds_27 ?_
    refine lv_istore (lv' := [(4, .int (pL_low (a3 >>> ((3 : Int32) &&& 31)) 24)), (3, .int (dW a3)), (0, .ref (Z 0)), (1, .int 2), (2, .int a3)]) hx hb dL_deeds_30 hl (by decide) rfl (fun ls hl => ?_)
    refine lv_iload_n hx hb dL_deeds_32 rfl (lv_at hl 4 rfl) ?_
    refine lv_bipush (v := 14) hx hb dL_deeds_33 (by decide) ?_
    refine lv_ishr hx hb dL_deeds_35 ?_
    refine lv_bipush (v := 9) hx hb dL_deeds_36 (by decide) ?_
    refine rS (As := [.int (a3 >>> ((14 : Int32) &&& 31)), .int 9]) (rest := []) hx hb hml hown hts hl.1 (kL_low l D cyC cyI cyO (a3 >>> ((14 : Int32) &&& 31)) 9 (by decide)) bS_L_low  wml_RL_42 ⟨rfl, rfl⟩ ⟨Nat.le_of_ble_eq_true rfl, Nat.le_of_ble_eq_true rfl, Nat.zero_le _, Nat.zero_le _⟩ [] rfl hP hK rfl rfl (Nat.le_of_ble_eq_true rfl) dL_deeds_38 ?_
    obtain ⟨z_7, hz_7⟩ : ∃ q, q = ((if (pL_low (a3 >>> ((14 : Int32) &&& 31)) 9) = 0 then 28 else (if 12 ≤ (pL_low (a3 >>> ((3 : Int32) &&& 31)) 24) then ((pL_low (a3 >>> ((3 : Int32) &&& 31)) 24) + (4 : Int32)) else ((((pL_low (a3 >>> ((3 : Int32) &&& 31)) 24) / (3 : Int32)) * (4 : Int32)) + ((pL_low (a3 >>> ((3 : Int32) &&& 31)) 24) - (pL_low (a3 >>> ((3 : Int32) &&& 31)) 24) / (3 : Int32) * (3 : Int32))))) : Int32) := ⟨_, rfl⟩
    have key_J_5 : W p l e (headSpec (Ty yL_deeds cL_deeds 17 (some .boolean)) ({ frames := 6, cells := 0, slots := 0, locals := 137 } : Room)).room s m ([.ref (Z 0), .int 2, .int a3] : List Value).toArray below meth cd s.heap [] 0 0 (MQ below (MQQ (some (.int 1)) D (List.flatten [wRt Z C TR SN HI Y P R rt, wPd cyC P sg pw, wRd R P rd, wC cyI C (pL_deeds_2 rt sg pw rd u w h r v tu tw su sw g a3).2.2.2.1 (pL_deeds_2 rt sg pw rd u w h r v tu tw su sw g a3).2.2.2.2, wHM cyI cyO HI BB (pL_deeds_2 rt sg pw rd u w h r v tu tw su sw g a3).1 (pL_deeds_2 rt sg pw rd u w h r v tu tw su sw g a3).2.1 (pL_deeds_2 rt sg pw rd u w h r v tu tw su sw g a3).2.2.1, wC cyI TR tu tw, wC cyI SN su sw, wWy cyI Y g]) A0) ([.ref (Z 0), .int 2, .int a3] : List Value).toArray s 0 0 A0) (F0 m 74 ls [.int z_7]) := by
      refine W.eq (congrArg (fun q => F0 m _ ls (.int q :: [])) (show z_7 = (dN a3) from (by subst hz_7; rfl))) ?_
      refine lv_istore (lv' := [(4, .int (dN a3)), (3, .int (dW a3)), (0, .ref (Z 0)), (1, .int 2), (2, .int a3)]) hx hb dL_deeds_74 hl (by decide) rfl (fun ls hl => ?_)
      refine lv_iload_n hx hb dL_deeds_76 rfl (lv_at hl 1 rfl) ?_
      refine lv_iconst (v := 4) hx hb dL_deeds_77 (by decide) ?_
      obtain ⟨z_11, hz_11⟩ : ∃ q, q = ((if (dW a3) = 4 then 1 else (if (dN a3) = 28 then 1 else 0)) : Int32) := ⟨_, rfl⟩
      have key_J_9 : W p l e (headSpec (Ty yL_deeds cL_deeds 17 (some .boolean)) ({ frames := 6, cells := 0, slots := 0, locals := 137 } : Room)).room s m ([.ref (Z 0), .int 2, .int a3] : List Value).toArray below meth cd s.heap [] 0 0 (MQ below (MQQ (some (.int 1)) D (List.flatten [wRt Z C TR SN HI Y P R rt, wPd cyC P sg pw, wRd R P rd, wC cyI C (pL_deeds_2 rt sg pw rd u w h r v tu tw su sw g a3).2.2.2.1 (pL_deeds_2 rt sg pw rd u w h r v tu tw su sw g a3).2.2.2.2, wHM cyI cyO HI BB (pL_deeds_2 rt sg pw rd u w h r v tu tw su sw g a3).1 (pL_deeds_2 rt sg pw rd u w h r v tu tw su sw g a3).2.1 (pL_deeds_2 rt sg pw rd u w h r v tu tw su sw g a3).2.2.1, wC cyI TR tu tw, wC cyI SN su sw, wWy cyI Y g]) A0) ([.ref (Z 0), .int 2, .int a3] : List Value).toArray s 0 0 A0) (F0 m 93 ls [.int z_11]) := by
        refine lv_istore (lv' := [(5, .int z_11), (4, .int (dN a3)), (3, .int (dW a3)), (0, .ref (Z 0)), (1, .int 2), (2, .int a3)]) hx hb dL_deeds_93 hl (by decide) rfl (fun ls hl => ?_)
        refine lv_aload_n hx hb dL_deeds_95 rfl (lv_at hl 3 rfl) ?_
        refine lv_bipush (v := 13) hx hb dL_deeds_96 (by decide) ?_
        refine rVB (bl := [wRt Z C TR SN HI Y P R rt, wPd cyC P sg pw, wRd R P rd, wC cyI C u w, wHM cyI cyO HI BB h r v, wC cyI TR tu tw, wC cyI SN su sw, wWy cyI Y g]) (WSb := [wRt Z C TR SN HI Y P R rt, wPd cyC P sg pw, wRd R P rd, wC cyI C u w, wHM cyI cyO HI BB h r v, wC cyI TR tu tw, wC cyI SN su sw, wWy cyI Y g]) (As := [.int 13]) (rest := []) hx hb hml hown hts hl.1 (k_fC l D cyC cyI cyO Z C TR SN HI Y P R BB rt sg pw rd u w h r v tu tw su sw g 13 hq (vp_lit (by decide))) bV_X6_count wml_RL_13 ⟨rfl, rfl⟩ ⟨Nat.le_of_ble_eq_true rfl, Nat.le_of_ble_eq_true rfl, Nat.zero_le _, Nat.zero_le _⟩ [0, 1, 2, 3, 4, 5, 6, 7] rfl rfl hP hK 0 rfl rfl rfl rfl rfl (Nat.le_of_ble_eq_true rfl) dL_deeds_98 ?_
        refine lv_istore (lv' := [(6, .int (fC u w 13)), (5, .int z_11), (4, .int (dN a3)), (3, .int (dW a3)), (0, .ref (Z 0)), (1, .int 2), (2, .int a3)]) hx hb dL_deeds_101 hl (by decide) rfl (fun ls hl => ?_)
        refine lv_aload_n hx hb dL_deeds_103 rfl (lv_at hl 4 rfl) ?_
        refine lv_iconst (v := 5) hx hb dL_deeds_104 (by decide) ?_
        refine rVB (bl := [wRt Z C TR SN HI Y P R rt, wPd cyC P sg pw, wRd R P rd, wC cyI C u w, wHM cyI cyO HI BB h r v, wC cyI TR tu tw, wC cyI SN su sw, wWy cyI Y g]) (WSb := [wRt Z C TR SN HI Y P R rt, wPd cyC P sg pw, wRd R P rd, wC cyI C u w, wHM cyI cyO HI BB h r v, wC cyI TR tu tw, wC cyI SN su sw, wWy cyI Y g]) (As := [.int 5]) (rest := []) hx hb hml hown hts hl.1 (k_fC l D cyC cyI cyO Z C TR SN HI Y P R BB rt sg pw rd u w h r v tu tw su sw g 5 hq (vp_lit (by decide))) bV_X6_count wml_RL_13 ⟨rfl, rfl⟩ ⟨Nat.le_of_ble_eq_true rfl, Nat.le_of_ble_eq_true rfl, Nat.zero_le _, Nat.zero_le _⟩ [0, 1, 2, 3, 4, 5, 6, 7] rfl rfl hP hK 0 rfl rfl rfl rfl rfl (Nat.le_of_ble_eq_true rfl) dL_deeds_105 ?_
        refine lv_istore (lv' := [(7, .int (fC u w 5)), (6, .int (fC u w 13)), (5, .int z_11), (4, .int (dN a3)), (3, .int (dW a3)), (0, .ref (Z 0)), (1, .int 2), (2, .int a3)]) hx hb dL_deeds_108 hl (by decide) rfl (fun ls hl => ?_)
        refine lv_iload hx hb dL_deeds_110 (lv_at hl 3 rfl) ?_
        refine lv_bipush (v := 28) hx hb dL_deeds_112 (by decide) ?_
        obtain ⟨z_14, hz_14⟩ : ∃ q, q = ((if (dN a3) = 28 then (-4) else (fG u w (dN a3) 3)) : Int32) := ⟨_, rfl⟩
        have key_J_13 : W p l e (headSpec (Ty yL_deeds cL_deeds 17 (some .boolean)) ({ frames := 6, cells := 0, slots := 0, locals := 137 } : Room)).room s m ([.ref (Z 0), .int 2, .int a3] : List Value).toArray below meth cd s.heap [] 0 0 (MQ below (MQQ (some (.int 1)) D (List.flatten [wRt Z C TR SN HI Y P R rt, wPd cyC P sg pw, wRd R P rd, wC cyI C (pL_deeds_2 rt sg pw rd u w h r v tu tw su sw g a3).2.2.2.1 (pL_deeds_2 rt sg pw rd u w h r v tu tw su sw g a3).2.2.2.2, wHM cyI cyO HI BB (pL_deeds_2 rt sg pw rd u w h r v tu tw su sw g a3).1 (pL_deeds_2 rt sg pw rd u w h r v tu tw su sw g a3).2.1 (pL_deeds_2 rt sg pw rd u w h r v tu tw su sw g a3).2.2.1, wC cyI TR tu tw, wC cyI SN su sw, wWy cyI Y g]) A0) ([.ref (Z 0), .int 2, .int a3] : List Value).toArray s 0 0 A0) (F0 m 129 ls [.int z_14]) := by
          refine lv_istore (lv' := [(8, .int z_14), (7, .int (fC u w 5)), (6, .int (fC u w 13)), (5, .int z_11), (4, .int (dN a3)), (3, .int (dW a3)), (0, .ref (Z 0)), (1, .int 2), (2, .int a3)]) hx hb dL_deeds_129 hl (by decide) rfl (fun ls hl => ?_)
          refine lv_iload_n hx hb dL_deeds_131 rfl (lv_at hl 7 rfl) ?_
          refine lv_if_ne (tgt := 258) hx hb dL_deeds_132 (by decide) (fun c_15 => ?_) (fun c_15 => absurd c_15 (by decide))
          refine lv_iload_n hx hb dL_deeds_258 rfl (lv_at hl 7 rfl) ?_
          refine lv_iconst (v := 1) hx hb dL_deeds_259 (by decide) ?_
          refine lv_icmp_ne (tgt := 428) hx hb dL_deeds_260 (by decide) (fun c_16 => ?_) (fun c_16 => absurd c_16 (by decide))
          refine lv_iload_n hx hb dL_deeds_428 rfl (lv_at hl 5 rfl) ?_
          refine lv_iconst (v := 4) hx hb dL_deeds_429 (by decide) ?_
          obtain ⟨z_19, hz_19⟩ : ∃ q, q = ((if (dW a3) = 4 then 0 else (fO u w (dW a3) 3)) : Int32) := ⟨_, rfl⟩
          have key_J_18 : W p l e (headSpec (Ty yL_deeds cL_deeds 17 (some .boolean)) ({ frames := 6, cells := 0, slots := 0, locals := 137 } : Room)).room s m ([.ref (Z 0), .int 2, .int a3] : List Value).toArray below meth cd s.heap [] 0 0 (MQ below (MQQ (some (.int 1)) D (List.flatten [wRt Z C TR SN HI Y P R rt, wPd cyC P sg pw, wRd R P rd, wC cyI C (pL_deeds_2 rt sg pw rd u w h r v tu tw su sw g a3).2.2.2.1 (pL_deeds_2 rt sg pw rd u w h r v tu tw su sw g a3).2.2.2.2, wHM cyI cyO HI BB (pL_deeds_2 rt sg pw rd u w h r v tu tw su sw g a3).1 (pL_deeds_2 rt sg pw rd u w h r v tu tw su sw g a3).2.1 (pL_deeds_2 rt sg pw rd u w h r v tu tw su sw g a3).2.2.1, wC cyI TR tu tw, wC cyI SN su sw, wWy cyI Y g]) A0) ([.ref (Z 0), .int 2, .int a3] : List Value).toArray s 0 0 A0) (F0 m 443 ls [.int z_19]) := by
            refine lv_istore (lv' := [(9, .int z_19), (8, .int z_14), (7, .int (fC u w 5)), (6, .int (fC u w 13)), (5, .int z_11), (4, .int (dN a3)), (3, .int (dW a3)), (0, .ref (Z 0)), (1, .int 2), (2, .int a3)]) hx hb dL_deeds_443 hl (by decide) rfl (fun ls hl => ?_)
            refine lv_iload hx hb dL_deeds_445 (lv_at hl 5 rfl) ?_
            refine lv_bipush (v := 28) hx hb dL_deeds_447 (by decide) ?_
            obtain ⟨z_22, hz_22⟩ : ∃ q, q = ((if (dN a3) = 28 then 0 else (fG u w (dN a3) 1)) : Int32) := ⟨_, rfl⟩
            have key_J_21 : W p l e (headSpec (Ty yL_deeds cL_deeds 17 (some .boolean)) ({ frames := 6, cells := 0, slots := 0, locals := 137 } : Room)).room s m ([.ref (Z 0), .int 2, .int a3] : List Value).toArray below meth cd s.heap [] 0 0 (MQ below (MQQ (some (.int 1)) D (List.flatten [wRt Z C TR SN HI Y P R rt, wPd cyC P sg pw, wRd R P rd, wC cyI C (pL_deeds_2 rt sg pw rd u w h r v tu tw su sw g a3).2.2.2.1 (pL_deeds_2 rt sg pw rd u w h r v tu tw su sw g a3).2.2.2.2, wHM cyI cyO HI BB (pL_deeds_2 rt sg pw rd u w h r v tu tw su sw g a3).1 (pL_deeds_2 rt sg pw rd u w h r v tu tw su sw g a3).2.1 (pL_deeds_2 rt sg pw rd u w h r v tu tw su sw g a3).2.2.1, wC cyI TR tu tw, wC cyI SN su sw, wWy cyI Y g]) A0) ([.ref (Z 0), .int 2, .int a3] : List Value).toArray s 0 0 A0) (F0 m 463 ls [.int z_22]) := by
              refine lv_istore (lv' := [(10, .int z_22), (9, .int z_19), (8, .int z_14), (7, .int (fC u w 5)), (6, .int (fC u w 13)), (5, .int z_11), (4, .int (dN a3)), (3, .int (dW a3)), (0, .ref (Z 0)), (1, .int 2), (2, .int a3)]) hx hb dL_deeds_463 hl (by decide) rfl (fun ls hl => ?_)
              refine lv_iload hx hb dL_deeds_465 (lv_at hl 6 rfl) ?_
              refine lv_bipush (v := 28) hx hb dL_deeds_467 (by decide) ?_
              obtain ⟨z_25, hz_25⟩ : ∃ q, q = ((if (dN a3) = 28 then 0 else (fG u w (dN a3) 2)) : Int32) := ⟨_, rfl⟩
              have key_J_24 : W p l e (headSpec (Ty yL_deeds cL_deeds 17 (some .boolean)) ({ frames := 6, cells := 0, slots := 0, locals := 137 } : Room)).room s m ([.ref (Z 0), .int 2, .int a3] : List Value).toArray below meth cd s.heap [] 0 0 (MQ below (MQQ (some (.int 1)) D (List.flatten [wRt Z C TR SN HI Y P R rt, wPd cyC P sg pw, wRd R P rd, wC cyI C (pL_deeds_2 rt sg pw rd u w h r v tu tw su sw g a3).2.2.2.1 (pL_deeds_2 rt sg pw rd u w h r v tu tw su sw g a3).2.2.2.2, wHM cyI cyO HI BB (pL_deeds_2 rt sg pw rd u w h r v tu tw su sw g a3).1 (pL_deeds_2 rt sg pw rd u w h r v tu tw su sw g a3).2.1 (pL_deeds_2 rt sg pw rd u w h r v tu tw su sw g a3).2.2.1, wC cyI TR tu tw, wC cyI SN su sw, wWy cyI Y g]) A0) ([.ref (Z 0), .int 2, .int a3] : List Value).toArray s 0 0 A0) (F0 m 483 ls [.int z_25]) := by
                refine lv_istore (lv' := [(11, .int z_25), (10, .int z_22), (9, .int z_19), (8, .int z_14), (7, .int (fC u w 5)), (6, .int (fC u w 13)), (5, .int z_11), (4, .int (dN a3)), (3, .int (dW a3)), (0, .ref (Z 0)), (1, .int 2), (2, .int a3)]) hx hb dL_deeds_483 hl (by decide) rfl (fun ls hl => ?_)
                refine lv_iload hx hb dL_deeds_485 (lv_at hl 6 rfl) ?_
                obtain ⟨z_30, hz_30⟩ : ∃ q, q = ((if z_11 = 0 then (if z_19 = z_22 then 0 else (if z_19 = z_25 then 0 else 1)) else 0) : Int32) := ⟨_, rfl⟩
                have key_J_27 : W p l e (headSpec (Ty yL_deeds cL_deeds 17 (some .boolean)) ({ frames := 6, cells := 0, slots := 0, locals := 137 } : Room)).room s m ([.ref (Z 0), .int 2, .int a3] : List Value).toArray below meth cd s.heap [] 0 0 (MQ below (MQQ (some (.int 1)) D (List.flatten [wRt Z C TR SN HI Y P R rt, wPd cyC P sg pw, wRd R P rd, wC cyI C (pL_deeds_2 rt sg pw rd u w h r v tu tw su sw g a3).2.2.2.1 (pL_deeds_2 rt sg pw rd u w h r v tu tw su sw g a3).2.2.2.2, wHM cyI cyO HI BB (pL_deeds_2 rt sg pw rd u w h r v tu tw su sw g a3).1 (pL_deeds_2 rt sg pw rd u w h r v tu tw su sw g a3).2.1 (pL_deeds_2 rt sg pw rd u w h r v tu tw su sw g a3).2.2.1, wC cyI TR tu tw, wC cyI SN su sw, wWy cyI Y g]) A0) ([.ref (Z 0), .int 2, .int a3] : List Value).toArray s 0 0 A0) (F0 m 509 ls [.int z_30]) := by
                  refine lv_istore (lv' := [(12, .int z_30), (11, .int z_25), (10, .int z_22), (9, .int z_19), (8, .int z_14), (7, .int (fC u w 5)), (6, .int (fC u w 13)), (5, .int z_11), (4, .int (dN a3)), (3, .int (dW a3)), (0, .ref (Z 0)), (1, .int 2), (2, .int a3)]) hx hb dL_deeds_509 hl (by decide) rfl (fun ls hl => ?_)
                  refine lv_iload hx hb dL_deeds_511 (lv_at hl 2 rfl) ?_
                  refine lv_iload hx hb dL_deeds_513 (lv_at hl 1 rfl) ?_
                  refine lv_iadd hx hb dL_deeds_515 ?_
                  refine lv_iload hx hb dL_deeds_516 (lv_at hl 3 rfl) ?_
                  refine lv_isub hx hb dL_deeds_518 ?_
                  refine lv_istore (lv' := [(13, .int ((z_22 + z_25) - z_19)), (12, .int z_30), (11, .int z_25), (10, .int z_22), (9, .int z_19), (8, .int z_14), (7, .int (fC u w 5)), (6, .int (fC u w 13)), (5, .int z_11), (4, .int (dN a3)), (3, .int (dW a3)), (0, .ref (Z 0)), (1, .int 2), (2, .int a3)]) hx hb dL_deeds_519 hl (by decide) rfl (fun ls hl => ?_)
                  refine lv_iload_n hx hb dL_deeds_521 rfl (lv_at hl 10 rfl) ?_
                  refine lv_iconst (v := 4) hx hb dL_deeds_522 (by decide) ?_
                  obtain ⟨z_33, hz_33⟩ : ∃ q, q = ((if (dW a3) = 4 then 0 else (fO u w (dW a3) 7)) : Int32) := ⟨_, rfl⟩
                  have key_J_32 : W p l e (headSpec (Ty yL_deeds cL_deeds 17 (some .boolean)) ({ frames := 6, cells := 0, slots := 0, locals := 137 } : Room)).room s m ([.ref (Z 0), .int 2, .int a3] : List Value).toArray below meth cd s.heap [] 0 0 (MQ below (MQQ (some (.int 1)) D (List.flatten [wRt Z C TR SN HI Y P R rt, wPd cyC P sg pw, wRd R P rd, wC cyI C (pL_deeds_2 rt sg pw rd u w h r v tu tw su sw g a3).2.2.2.1 (pL_deeds_2 rt sg pw rd u w h r v tu tw su sw g a3).2.2.2.2, wHM cyI cyO HI BB (pL_deeds_2 rt sg pw rd u w h r v tu tw su sw g a3).1 (pL_deeds_2 rt sg pw rd u w h r v tu tw su sw g a3).2.1 (pL_deeds_2 rt sg pw rd u w h r v tu tw su sw g a3).2.2.1, wC cyI TR tu tw, wC cyI SN su sw, wWy cyI Y g]) A0) ([.ref (Z 0), .int 2, .int a3] : List Value).toArray s 0 0 A0) (F0 m 537 ls [.int z_33]) := by
                    refine lv_istore (lv' := [(14, .int z_33), (13, .int ((z_22 + z_25) - z_19)), (12, .int z_30), (11, .int z_25), (10, .int z_22), (9, .int z_19), (8, .int z_14), (7, .int (fC u w 5)), (6, .int (fC u w 13)), (5, .int z_11), (4, .int (dN a3)), (3, .int (dW a3)), (0, .ref (Z 0)), (1, .int 2), (2, .int a3)]) hx hb dL_deeds_537 hl (by decide) rfl (fun ls hl => ?_)
                    refine lv_iload hx hb dL_deeds_539 (lv_at hl 9 rfl) ?_
                    obtain ⟨z_43, hz_43⟩ : ∃ q, q = ((if z_11 = 0 then (if z_30 = 0 then (if (fG u w (dN a3) 0) = 0 then 1 else (if (fO u w (dW a3) 0) ≤ (fG u w (dN a3) 0) then (if z_14 = (-4) then (if (((fO u w (dW a3) 1) >>> (((z_22 + z_25) - z_19) &&& 31)) &&& (1 : Int32)) = 1 then 0 else 3) else (if z_14 = (dW a3) then (if (((fO u w (dW a3) 1) >>> (((z_22 + z_25) - z_19) &&& 31)) &&& (1 : Int32)) = 1 then 0 else 3) else 9)) else 8)) else 0) else 0) : Int32) := ⟨_, rfl⟩
                    have key_J_35 : W p l e (headSpec (Ty yL_deeds cL_deeds 17 (some .boolean)) ({ frames := 6, cells := 0, slots := 0, locals := 137 } : Room)).room s m ([.ref (Z 0), .int 2, .int a3] : List Value).toArray below meth cd s.heap [] 0 0 (MQ below (MQQ (some (.int 1)) D (List.flatten [wRt Z C TR SN HI Y P R rt, wPd cyC P sg pw, wRd R P rd, wC cyI C (pL_deeds_2 rt sg pw rd u w h r v tu tw su sw g a3).2.2.2.1 (pL_deeds_2 rt sg pw rd u w h r v tu tw su sw g a3).2.2.2.2, wHM cyI cyO HI BB (pL_deeds_2 rt sg pw rd u w h r v tu tw su sw g a3).1 (pL_deeds_2 rt sg pw rd u w h r v tu tw su sw g a3).2.1 (pL_deeds_2 rt sg pw rd u w h r v tu tw su sw g a3).2.2.1, wC cyI TR tu tw, wC cyI SN su sw, wWy cyI Y g]) A0) ([.ref (Z 0), .int 2, .int a3] : List Value).toArray s 0 0 A0) (F0 m 626 ls [.int z_43]) := by
                      refine lv_istore (lv' := [(15, .int z_43), (14, .int z_33), (13, .int ((z_22 + z_25) - z_19)), (12, .int z_30), (11, .int z_25), (10, .int z_22), (9, .int z_19), (8, .int z_14), (7, .int (fC u w 5)), (6, .int (fC u w 13)), (5, .int z_11), (4, .int (dN a3)), (3, .int (dW a3)), (0, .ref (Z 0)), (1, .int 2), (2, .int a3)]) hx hb dL_deeds_626 hl (by decide) rfl (fun ls hl => ?_)
                      refine lv_aload_n hx hb dL_deeds_628 rfl (lv_at hl 13 rfl) ?_
                      refine lv_iload_n hx hb dL_deeds_629 rfl (lv_at hl 12 rfl) ?_
                      refine lv_iload hx hb dL_deeds_630 (lv_at hl 11 rfl) ?_
                      obtain ⟨z_44, hz_44⟩ : ∃ q, q = (pX6_walk rt sg pw rd u w h r v tu tw su sw g (dW a3) (dN a3)) := ⟨_, rfl⟩
                      refine mVB (bl := [wRt Z C TR SN HI Y P R rt, wPd cyC P sg pw, wRd R P rd, wC cyI C u w, wHM cyI cyO HI BB h r v, wC cyI TR tu tw, wC cyI SN su sw, wWy cyI Y g]) (bl' := [wRt Z C TR SN HI Y P R rt, wPd cyC P sg pw, wRd R P rd, wC cyI C z_44.2.2.2.2.1 z_44.2.2.2.2.2, wHM cyI cyO HI BB z_44.2.1 z_44.2.2.1 z_44.2.2.2.1, wC cyI TR tu tw, wC cyI SN su sw, wWy cyI Y g]) (WSb := [wRt Z C TR SN HI Y P R rt, wPd cyC P sg pw, wRd R P rd, wC cyI C u w, wHM cyI cyO HI BB h r v, wC cyI TR tu tw, wC cyI SN su sw, wWy cyI Y g]) (WSb' := [wRt Z C TR SN HI Y P R rt, wPd cyC P sg pw, wRd R P rd, wC cyI C z_44.2.2.2.2.1 z_44.2.2.2.2.2, wHM cyI cyO HI BB z_44.2.1 z_44.2.2.1 z_44.2.2.2.1, wC cyI TR tu tw, wC cyI SN su sw, wWy cyI Y g]) (As := [.int (dW a3), .int (dN a3)]) (rest := []) hx hb hml hown hts hl.1 (WS := (List.flatten [wRt Z C TR SN HI Y P R rt, wPd cyC P sg pw, wRd R P rd, wC cyI C u w, wHM cyI cyO HI BB h r v, wC cyI TR tu tw, wC cyI SN su sw, wWy cyI Y g])) (WS' := (List.flatten [wRt Z C TR SN HI Y P R rt, wPd cyC P sg pw, wRd R P rd, wC cyI C z_44.2.2.2.2.1 z_44.2.2.2.2.2, wHM cyI cyO HI BB z_44.2.1 z_44.2.2.1 z_44.2.2.2.1, wC cyI TR tu tw, wC cyI SN su sw, wWy cyI Y g])) (ro := (some (.int z_44.1))) (by rw [hz_44]; exact kX6_walk l D cyC cyI cyO Z C TR SN HI Y P R BB rt sg pw rd u w h r v tu tw su sw g (dW a3) (dN a3) hr4) bV_X6_walk wml_RL_94 ⟨rfl, rfl⟩ ⟨Nat.le_of_ble_eq_true rfl, Nat.le_of_ble_eq_true rfl, Nat.zero_le _, Nat.zero_le _⟩ [0, 1, 2, 3, 4, 5, 6, 7] rfl rfl rfl rfl rfl rfl rfl hP hD hS hA hK 0 rfl rfl rfl rfl rfl (Nat.le_of_ble_eq_true rfl) dL_deeds_632 (fun H locs hP hD hS => ?_)
                      refine lv_istore (lv' := [(16, .int z_44.1), (15, .int z_43), (14, .int z_33), (13, .int ((z_22 + z_25) - z_19)), (12, .int z_30), (11, .int z_25), (10, .int z_22), (9, .int z_19), (8, .int z_14), (7, .int (fC u w 5)), (6, .int (fC u w 13)), (5, .int z_11), (4, .int (dN a3)), (3, .int (dW a3)), (0, .ref (Z 0)), (1, .int 2), (2, .int a3)]) hx hb dL_deeds_635 hl (by decide) rfl (fun ls hl => ?_)
                      refine lv_iload hx hb dL_deeds_637 (lv_at hl 0 rfl) ?_
                      refine lv_iload hx hb dL_deeds_639 (lv_at hl 11 rfl) ?_
                      obtain ⟨z_49, hz_49⟩ : ∃ q, q = ((if z_11 = 0 then (if z_30 = 0 then (if z_43 ≤ 0 then ((10 : Int32) + ((z_22 + z_25) - z_19)) else z_43) else (-2)) else (-1)) : Int32) := ⟨_, rfl⟩
                      have key_J_46 : W p l e (headSpec (Ty yL_deeds cL_deeds 17 (some .boolean)) ({ frames := 6, cells := 0, slots := 0, locals := 137 } : Room)).room s m ([.ref (Z 0), .int 2, .int a3] : List Value).toArray below meth cd H locs 0 0 (MQ below (MQQ (some (.int 1)) D (List.flatten [wRt Z C TR SN HI Y P R rt, wPd cyC P sg pw, wRd R P rd, wC cyI C (pL_deeds_2 rt sg pw rd u w h r v tu tw su sw g a3).2.2.2.1 (pL_deeds_2 rt sg pw rd u w h r v tu tw su sw g a3).2.2.2.2, wHM cyI cyO HI BB (pL_deeds_2 rt sg pw rd u w h r v tu tw su sw g a3).1 (pL_deeds_2 rt sg pw rd u w h r v tu tw su sw g a3).2.1 (pL_deeds_2 rt sg pw rd u w h r v tu tw su sw g a3).2.2.1, wC cyI TR tu tw, wC cyI SN su sw, wWy cyI Y g]) A0) ([.ref (Z 0), .int 2, .int a3] : List Value).toArray s 0 0 A0) (F0 m 673 ls [.int z_49, .int z_44.1]) := by
                        refine lv_icmp_ne (tgt := 755) hx hb dL_deeds_673 (by decide) (fun c_50 => absurd (by subst hz_49 hz_44 hz_43 hz_30 hz_25 hz_22 hz_19 hz_14 hz_11; exact f673) c_50) (fun c_50 => ?_)
                        refine lv_aload_n hx hb dL_deeds_676 rfl (lv_at hl 14 rfl) ?_
                        refine lv_bipush (v := 13) hx hb dL_deeds_677 (by decide) ?_
                        refine rVB (bl := [wRt Z C TR SN HI Y P R rt, wPd cyC P sg pw, wRd R P rd, wC cyI C z_44.2.2.2.2.1 z_44.2.2.2.2.2, wHM cyI cyO HI BB z_44.2.1 z_44.2.2.1 z_44.2.2.2.1, wC cyI TR tu tw, wC cyI SN su sw, wWy cyI Y g]) (WSb := [wRt Z C TR SN HI Y P R rt, wPd cyC P sg pw, wRd R P rd, wC cyI C z_44.2.2.2.2.1 z_44.2.2.2.2.2, wHM cyI cyO HI BB z_44.2.1 z_44.2.2.1 z_44.2.2.2.1, wC cyI TR tu tw, wC cyI SN su sw, wWy cyI Y g]) (As := [.int 13]) (rest := []) hx hb hml hown hts hl.1 (k_fC l D cyC cyI cyO Z C TR SN HI Y P R BB rt sg pw rd z_44.2.2.2.2.1 z_44.2.2.2.2.2 z_44.2.1 z_44.2.2.1 z_44.2.2.2.1 tu tw su sw g 13 (by subst hz_44; exact f679) (vp_lit (by decide))) bV_X6_count wml_RL_13 ⟨rfl, rfl⟩ ⟨Nat.le_of_ble_eq_true rfl, Nat.le_of_ble_eq_true rfl, Nat.zero_le _, Nat.zero_le _⟩ [0, 1, 2, 3, 4, 5, 6, 7] rfl rfl hP hK 0 rfl rfl rfl rfl rfl (Nat.le_of_ble_eq_true rfl) dL_deeds_679 ?_
                        refine lv_iload hx hb dL_deeds_682 (lv_at hl 10 rfl) ?_
                        refine lv_iload hx hb dL_deeds_684 (lv_at hl 1 rfl) ?_
                        obtain ⟨z_53, hz_53⟩ : ∃ q, q = ((if z_43 ≤ 0 then 0 else 1) : Int32) := ⟨_, rfl⟩
                        have key_J_52 : W p l e (headSpec (Ty yL_deeds cL_deeds 17 (some .boolean)) ({ frames := 6, cells := 0, slots := 0, locals := 137 } : Room)).room s m ([.ref (Z 0), .int 2, .int a3] : List Value).toArray below meth cd H locs 0 0 (MQ below (MQQ (some (.int 1)) D (List.flatten [wRt Z C TR SN HI Y P R rt, wPd cyC P sg pw, wRd R P rd, wC cyI C (pL_deeds_2 rt sg pw rd u w h r v tu tw su sw g a3).2.2.2.1 (pL_deeds_2 rt sg pw rd u w h r v tu tw su sw g a3).2.2.2.2, wHM cyI cyO HI BB (pL_deeds_2 rt sg pw rd u w h r v tu tw su sw g a3).1 (pL_deeds_2 rt sg pw rd u w h r v tu tw su sw g a3).2.1 (pL_deeds_2 rt sg pw rd u w h r v tu tw su sw g a3).2.2.1, wC cyI TR tu tw, wC cyI SN su sw, wWy cyI Y g]) A0) ([.ref (Z 0), .int 2, .int a3] : List Value).toArray s 0 0 A0) (F0 m 694 ls [.int z_53, .int (fC u w 13), .int (fC z_44.2.2.2.2.1 z_44.2.2.2.2.2 13)]) := by
                          refine lv_iadd hx hb dL_deeds_694 ?_
                          refine lv_icmp_ne (tgt := 755) hx hb dL_deeds_695 (by decide) (fun c_54 => absurd (by subst hz_53 hz_44 hz_43 hz_30 hz_25 hz_22 hz_19 hz_14 hz_11; exact f695) c_54) (fun c_54 => ?_)
                          refine lv_iload_n hx hb dL_deeds_698 rfl (lv_at hl 13 rfl) ?_
                          refine lv_iconst (v := 4) hx hb dL_deeds_699 (by decide) ?_
                          have key_J_56 : W p l e (headSpec (Ty yL_deeds cL_deeds 17 (some .boolean)) ({ frames := 6, cells := 0, slots := 0, locals := 137 } : Room)).room s m ([.ref (Z 0), .int 2, .int a3] : List Value).toArray below meth cd H locs 0 0 (MQ below (MQQ (some (.int 1)) D (List.flatten [wRt Z C TR SN HI Y P R rt, wPd cyC P sg pw, wRd R P rd, wC cyI C (pL_deeds_2 rt sg pw rd u w h r v tu tw su sw g a3).2.2.2.1 (pL_deeds_2 rt sg pw rd u w h r v tu tw su sw g a3).2.2.2.2, wHM cyI cyO HI BB (pL_deeds_2 rt sg pw rd u w h r v tu tw su sw g a3).1 (pL_deeds_2 rt sg pw rd u w h r v tu tw su sw g a3).2.1 (pL_deeds_2 rt sg pw rd u w h r v tu tw su sw g a3).2.2.1, wC cyI TR tu tw, wC cyI SN su sw, wWy cyI Y g]) A0) ([.ref (Z 0), .int 2, .int a3] : List Value).toArray s 0 0 A0) (F0 m 751 ls []) := by
                            refine lv_iconst (v := 1) hx hb dL_deeds_751 (by decide) ?_
                            refine lv_goto (tgt := 756) hx hb dL_deeds_752 (by decide) ?_
                            have e9 : (pL_deeds_2 rt sg pw rd u w h r v tu tw su sw g a3) = (z_44.2.1, z_44.2.2.1, z_44.2.2.2.1, z_44.2.2.2.2.1, z_44.2.2.2.2.2) := by simp only [pL_deeds_2, ← hz_44]
                            have e9_0 : (pL_deeds_2 rt sg pw rd u w h r v tu tw su sw g a3).1 = z_44.2.1 := by rw [e9]
                            have e9_1 : (pL_deeds_2 rt sg pw rd u w h r v tu tw su sw g a3).2.1 = z_44.2.2.1 := by rw [e9]
                            have e9_2 : (pL_deeds_2 rt sg pw rd u w h r v tu tw su sw g a3).2.2.1 = z_44.2.2.2.1 := by rw [e9]
                            have e9_3 : (pL_deeds_2 rt sg pw rd u w h r v tu tw su sw g a3).2.2.2.1 = z_44.2.2.2.2.1 := by rw [e9]
                            have e9_4 : (pL_deeds_2 rt sg pw rd u w h r v tu tw su sw g a3).2.2.2.2 = z_44.2.2.2.2.2 := by rw [e9]
                            exact W.zret (ty := .boolean) (v := 1) hx hb hr (by rfl) (fun t ht hW => ⟨⟨rfl, by rw [e9_0, e9_1, e9_2, e9_3, e9_4, ht]; exact hP⟩, hS.F ht⟩) hS.2.2 dL_deeds_756
                          refine lv_icmp_eq (tgt := 751) hx hb dL_deeds_700 (by decide) (fun c_55 => ?_) (fun c_55 => ?_)
                          · exact key_J_56
                          · refine lv_aload_n hx hb dL_deeds_703 rfl (lv_at hl 14 rfl) ?_
                            refine lv_iload_n hx hb dL_deeds_704 rfl (lv_at hl 13 rfl) ?_
                            refine lv_iconst (v := 3) hx hb dL_deeds_705 (by decide) ?_
                            refine rVB (bl := [wRt Z C TR SN HI Y P R rt, wPd cyC P sg pw, wRd R P rd, wC cyI C z_44.2.2.2.2.1 z_44.2.2.2.2.2, wHM cyI cyO HI BB z_44.2.1 z_44.2.2.1 z_44.2.2.2.1, wC cyI TR tu tw, wC cyI SN su sw, wWy cyI Y g]) (WSb := [wRt Z C TR SN HI Y P R rt, wPd cyC P sg pw, wRd R P rd, wC cyI C z_44.2.2.2.2.1 z_44.2.2.2.2.2, wHM cyI cyO HI BB z_44.2.1 z_44.2.2.1 z_44.2.2.2.1, wC cyI TR tu tw, wC cyI SN su sw, wWy cyI Y g]) (As := [.int (dW a3), .int 3]) (rest := []) hx hb hml hown hts hl.1 (k_fO l D cyC cyI cyO Z C TR SN HI Y P R BB rt sg pw rd z_44.2.2.2.2.1 z_44.2.2.2.2.2 z_44.2.1 z_44.2.2.1 z_44.2.2.2.1 tu tw su sw g (dW a3) 3 (by subst hz_44; exact (f706 c_55))) bV_X6_ownerOf wml_RL_32 ⟨rfl, rfl⟩ ⟨Nat.le_of_ble_eq_true rfl, Nat.le_of_ble_eq_true rfl, Nat.zero_le _, Nat.zero_le _⟩ [0, 1, 2, 3, 4, 5, 6, 7] rfl rfl hP hK 0 rfl rfl rfl rfl rfl (Nat.le_of_ble_eq_true rfl) dL_deeds_706 ?_
                            refine lv_iload hx hb dL_deeds_709 (lv_at hl 0 rfl) ?_
                            refine lv_bipush (v := 10) hx hb dL_deeds_711 (by decide) ?_
                            obtain ⟨z_59, hz_59⟩ : ∃ q, q = ((if z_44.1 < 10 then z_19 else ((z_22 + z_25) - z_19)) : Int32) := ⟨_, rfl⟩
                            have key_J_58 : W p l e (headSpec (Ty yL_deeds cL_deeds 17 (some .boolean)) ({ frames := 6, cells := 0, slots := 0, locals := 137 } : Room)).room s m ([.ref (Z 0), .int 2, .int a3] : List Value).toArray below meth cd H locs 0 0 (MQ below (MQQ (some (.int 1)) D (List.flatten [wRt Z C TR SN HI Y P R rt, wPd cyC P sg pw, wRd R P rd, wC cyI C (pL_deeds_2 rt sg pw rd u w h r v tu tw su sw g a3).2.2.2.1 (pL_deeds_2 rt sg pw rd u w h r v tu tw su sw g a3).2.2.2.2, wHM cyI cyO HI BB (pL_deeds_2 rt sg pw rd u w h r v tu tw su sw g a3).1 (pL_deeds_2 rt sg pw rd u w h r v tu tw su sw g a3).2.1 (pL_deeds_2 rt sg pw rd u w h r v tu tw su sw g a3).2.2.1, wC cyI TR tu tw, wC cyI SN su sw, wWy cyI Y g]) A0) ([.ref (Z 0), .int 2, .int a3] : List Value).toArray s 0 0 A0) (F0 m 723 ls [.int z_59, .int (fO z_44.2.2.2.2.1 z_44.2.2.2.2.2 (dW a3) 3)]) := by
                              refine lv_icmp_ne (tgt := 755) hx hb dL_deeds_723 (by decide) (fun c_60 => absurd (by subst hz_59 hz_44 hz_25 hz_22 hz_19; exact (f723 c_55)) c_60) (fun c_60 => ?_)
                              refine lv_aload_n hx hb dL_deeds_726 rfl (lv_at hl 14 rfl) ?_
                              refine lv_iload_n hx hb dL_deeds_727 rfl (lv_at hl 13 rfl) ?_
                              refine lv_bipush (v := 7) hx hb dL_deeds_728 (by decide) ?_
                              refine rVB (bl := [wRt Z C TR SN HI Y P R rt, wPd cyC P sg pw, wRd R P rd, wC cyI C z_44.2.2.2.2.1 z_44.2.2.2.2.2, wHM cyI cyO HI BB z_44.2.1 z_44.2.2.1 z_44.2.2.2.1, wC cyI TR tu tw, wC cyI SN su sw, wWy cyI Y g]) (WSb := [wRt Z C TR SN HI Y P R rt, wPd cyC P sg pw, wRd R P rd, wC cyI C z_44.2.2.2.2.1 z_44.2.2.2.2.2, wHM cyI cyO HI BB z_44.2.1 z_44.2.2.1 z_44.2.2.2.1, wC cyI TR tu tw, wC cyI SN su sw, wWy cyI Y g]) (As := [.int (dW a3), .int 7]) (rest := []) hx hb hml hown hts hl.1 (k_fO l D cyC cyI cyO Z C TR SN HI Y P R BB rt sg pw rd z_44.2.2.2.2.1 z_44.2.2.2.2.2 z_44.2.1 z_44.2.2.1 z_44.2.2.2.1 tu tw su sw g (dW a3) 7 (by subst hz_44; exact (f706 c_55))) bV_X6_ownerOf wml_RL_32 ⟨rfl, rfl⟩ ⟨Nat.le_of_ble_eq_true rfl, Nat.le_of_ble_eq_true rfl, Nat.zero_le _, Nat.zero_le _⟩ [0, 1, 2, 3, 4, 5, 6, 7] rfl rfl hP hK 0 rfl rfl rfl rfl rfl (Nat.le_of_ble_eq_true rfl) dL_deeds_730 ?_
                              refine lv_iload hx hb dL_deeds_733 (lv_at hl 2 rfl) ?_
                              refine lv_iload hx hb dL_deeds_735 (lv_at hl 0 rfl) ?_
                              refine lv_bipush (v := 10) hx hb dL_deeds_737 (by decide) ?_
                              obtain ⟨z_63, hz_63⟩ : ∃ q, q = ((if z_44.1 < 10 then 0 else 1) : Int32) := ⟨_, rfl⟩
                              have key_J_62 : W p l e (headSpec (Ty yL_deeds cL_deeds 17 (some .boolean)) ({ frames := 6, cells := 0, slots := 0, locals := 137 } : Room)).room s m ([.ref (Z 0), .int 2, .int a3] : List Value).toArray below meth cd H locs 0 0 (MQ below (MQQ (some (.int 1)) D (List.flatten [wRt Z C TR SN HI Y P R rt, wPd cyC P sg pw, wRd R P rd, wC cyI C (pL_deeds_2 rt sg pw rd u w h r v tu tw su sw g a3).2.2.2.1 (pL_deeds_2 rt sg pw rd u w h r v tu tw su sw g a3).2.2.2.2, wHM cyI cyO HI BB (pL_deeds_2 rt sg pw rd u w h r v tu tw su sw g a3).1 (pL_deeds_2 rt sg pw rd u w h r v tu tw su sw g a3).2.1 (pL_deeds_2 rt sg pw rd u w h r v tu tw su sw g a3).2.2.1, wC cyI TR tu tw, wC cyI SN su sw, wWy cyI Y g]) A0) ([.ref (Z 0), .int 2, .int a3] : List Value).toArray s 0 0 A0) (F0 m 747 ls [.int z_63, .int z_33, .int (fO z_44.2.2.2.2.1 z_44.2.2.2.2.2 (dW a3) 7)]) := by
                                refine lv_iadd hx hb dL_deeds_747 ?_
                                refine lv_icmp_ne (tgt := 755) hx hb dL_deeds_748 (by decide) (fun c_64 => absurd (by subst hz_63 hz_44 hz_33; exact (f748 c_55)) c_64) (fun c_64 => ?_)
                                exact key_J_56
                              refine lv_icmp_lt (tgt := 746) hx hb dL_deeds_739 (by decide) (fun c_61 => ?_) (fun c_61 => ?_)
                              · refine lv_iconst (v := 0) hx hb dL_deeds_746 (by decide) ?_
                                exact W.eq (congrArg (fun q => F0 m _ ls (.int q :: [.int z_33, .int (fO z_44.2.2.2.2.1 z_44.2.2.2.2.2 (dW a3) 7)])) (show (0 : Int32) = z_63 from (by rw [hz_63]; simp only [if_pos c_61]))) key_J_62
                              · refine lv_iconst (v := 1) hx hb dL_deeds_742 (by decide) ?_
                                refine lv_goto (tgt := 747) hx hb dL_deeds_743 (by decide) ?_
                                exact W.eq (congrArg (fun q => F0 m _ ls (.int q :: [.int z_33, .int (fO z_44.2.2.2.2.1 z_44.2.2.2.2.2 (dW a3) 7)])) (show (1 : Int32) = z_63 from (by rw [hz_63]; simp only [if_neg c_61]))) key_J_62
                            refine lv_icmp_lt (tgt := 721) hx hb dL_deeds_713 (by decide) (fun c_57 => ?_) (fun c_57 => ?_)
                            · refine lv_iload hx hb dL_deeds_721 (lv_at hl 7 rfl) ?_
                              exact W.eq (congrArg (fun q => F0 m _ ls (.int q :: [.int (fO z_44.2.2.2.2.1 z_44.2.2.2.2.2 (dW a3) 3)])) (show (z_19 : Int32) = z_59 from (by rw [hz_59]; simp only [if_pos c_57]))) key_J_58
                            · refine lv_iload hx hb dL_deeds_716 (lv_at hl 3 rfl) ?_
                              refine lv_goto (tgt := 723) hx hb dL_deeds_718 (by decide) ?_
                              exact W.eq (congrArg (fun q => F0 m _ ls (.int q :: [.int (fO z_44.2.2.2.2.1 z_44.2.2.2.2.2 (dW a3) 3)])) (show (((z_22 + z_25) - z_19) : Int32) = z_59 from (by rw [hz_59]; simp only [if_neg c_57]))) key_J_58
                        refine lv_if_le (tgt := 693) hx hb dL_deeds_686 (by decide) (fun c_51 => ?_) (fun c_51 => ?_)
                        · refine lv_iconst (v := 0) hx hb dL_deeds_693 (by decide) ?_
                          exact W.eq (congrArg (fun q => F0 m _ ls (.int q :: [.int (fC u w 13), .int (fC z_44.2.2.2.2.1 z_44.2.2.2.2.2 13)])) (show (0 : Int32) = z_53 from (by rw [hz_53]; simp only [if_pos c_51]))) key_J_52
                        · refine lv_iconst (v := 1) hx hb dL_deeds_689 (by decide) ?_
                          refine lv_goto (tgt := 694) hx hb dL_deeds_690 (by decide) ?_
                          exact W.eq (congrArg (fun q => F0 m _ ls (.int q :: [.int (fC u w 13), .int (fC z_44.2.2.2.2.1 z_44.2.2.2.2.2 13)])) (show (1 : Int32) = z_53 from (by rw [hz_53]; simp only [if_neg c_51]))) key_J_52
                      refine lv_if_eq (tgt := 648) hx hb dL_deeds_641 (by decide) (fun c_45 => ?_) (fun c_45 => ?_)
                      · refine lv_iload hx hb dL_deeds_648 (lv_at hl 4 rfl) ?_
                        refine lv_if_eq (tgt := 658) hx hb dL_deeds_650 (by decide) (fun c_47 => ?_) (fun c_47 => ?_)
                        · refine lv_iload hx hb dL_deeds_658 (lv_at hl 1 rfl) ?_
                          refine lv_if_le (tgt := 668) hx hb dL_deeds_660 (by decide) (fun c_48 => ?_) (fun c_48 => ?_)
                          · refine lv_bipush (v := 10) hx hb dL_deeds_668 (by decide) ?_
                            refine lv_iload hx hb dL_deeds_670 (lv_at hl 3 rfl) ?_
                            refine lv_iadd hx hb dL_deeds_672 ?_
                            exact W.eq (congrArg (fun q => F0 m _ ls (.int q :: [.int z_44.1])) (show (((10 : Int32) + ((z_22 + z_25) - z_19)) : Int32) = z_49 from (by rw [hz_49]; simp only [if_pos c_45, if_pos c_47, if_pos c_48]))) key_J_46
                          · refine lv_iload hx hb dL_deeds_663 (lv_at hl 1 rfl) ?_
                            refine lv_goto (tgt := 673) hx hb dL_deeds_665 (by decide) ?_
                            exact W.eq (congrArg (fun q => F0 m _ ls (.int q :: [.int z_44.1])) (show (z_43 : Int32) = z_49 from (by rw [hz_49]; simp only [if_pos c_45, if_pos c_47, if_neg c_48]))) key_J_46
                        · refine lv_bipush (v := (-2)) hx hb dL_deeds_653 (by decide) ?_
                          refine lv_goto (tgt := 673) hx hb dL_deeds_655 (by decide) ?_
                          exact W.eq (congrArg (fun q => F0 m _ ls (.int q :: [.int z_44.1])) (show ((-2) : Int32) = z_49 from (by rw [hz_49]; simp only [if_pos c_45, if_neg c_47]))) key_J_46
                      · refine lv_iconst (v := (-1)) hx hb dL_deeds_644 (by decide) ?_
                        refine lv_goto (tgt := 673) hx hb dL_deeds_645 (by decide) ?_
                        exact W.eq (congrArg (fun q => F0 m _ ls (.int q :: [.int z_44.1])) (show ((-1) : Int32) = z_49 from (by rw [hz_49]; simp only [if_neg c_45]))) key_J_46
                    refine lv_if_ne (tgt := 549) hx hb dL_deeds_541 (by decide) (fun c_34 => ?_) (fun c_34 => ?_)
                    · refine lv_iconst (v := 0) hx hb dL_deeds_549 (by decide) ?_
                      refine lv_goto (tgt := 626) hx hb dL_deeds_550 (by decide) ?_
                      exact W.eq (congrArg (fun q => F0 m _ ls (.int q :: [])) (show (0 : Int32) = z_43 from (by rw [hz_43]; simp only [if_neg c_34]))) key_J_35
                    · refine lv_iload hx hb dL_deeds_544 (lv_at hl 2 rfl) ?_
                      refine lv_if_eq (tgt := 553) hx hb dL_deeds_546 (by decide) (fun c_36 => ?_) (fun c_36 => ?_)
                      · refine lv_aload_n hx hb dL_deeds_553 rfl (lv_at hl 12 rfl) ?_
                        refine lv_iload hx hb dL_deeds_554 (lv_at hl 10 rfl) ?_
                        refine lv_iconst (v := 0) hx hb dL_deeds_556 (by decide) ?_
                        refine rVB (bl := [wRt Z C TR SN HI Y P R rt, wPd cyC P sg pw, wRd R P rd, wC cyI C u w, wHM cyI cyO HI BB h r v, wC cyI TR tu tw, wC cyI SN su sw, wWy cyI Y g]) (WSb := [wRt Z C TR SN HI Y P R rt, wPd cyC P sg pw, wRd R P rd, wC cyI C u w, wHM cyI cyO HI BB h r v, wC cyI TR tu tw, wC cyI SN su sw, wWy cyI Y g]) (As := [.int (dN a3), .int 0]) (rest := []) hx hb hml hown hts hl.1 (k_fG l D cyC cyI cyO Z C TR SN HI Y P R BB rt sg pw rd u w h r v tu tw su sw g (dN a3) 0 hq) bV_X6_gangway wml_RL_29 ⟨rfl, rfl⟩ ⟨Nat.le_of_ble_eq_true rfl, Nat.le_of_ble_eq_true rfl, Nat.zero_le _, Nat.zero_le _⟩ [0, 1, 2, 3, 4, 5, 6, 7] rfl rfl hP hK 0 rfl rfl rfl rfl rfl (Nat.le_of_ble_eq_true rfl) dL_deeds_557 ?_
                        refine lv_if_ne (tgt := 567) hx hb dL_deeds_560 (by decide) (fun c_37 => ?_) (fun c_37 => ?_)
                        · refine lv_aload_n hx hb dL_deeds_567 rfl (lv_at hl 12 rfl) ?_
                          refine lv_iload hx hb dL_deeds_568 (lv_at hl 10 rfl) ?_
                          refine lv_iconst (v := 0) hx hb dL_deeds_570 (by decide) ?_
                          refine rVB (bl := [wRt Z C TR SN HI Y P R rt, wPd cyC P sg pw, wRd R P rd, wC cyI C u w, wHM cyI cyO HI BB h r v, wC cyI TR tu tw, wC cyI SN su sw, wWy cyI Y g]) (WSb := [wRt Z C TR SN HI Y P R rt, wPd cyC P sg pw, wRd R P rd, wC cyI C u w, wHM cyI cyO HI BB h r v, wC cyI TR tu tw, wC cyI SN su sw, wWy cyI Y g]) (As := [.int (dN a3), .int 0]) (rest := []) hx hb hml hown hts hl.1 (k_fG l D cyC cyI cyO Z C TR SN HI Y P R BB rt sg pw rd u w h r v tu tw su sw g (dN a3) 0 hq) bV_X6_gangway wml_RL_29 ⟨rfl, rfl⟩ ⟨Nat.le_of_ble_eq_true rfl, Nat.le_of_ble_eq_true rfl, Nat.zero_le _, Nat.zero_le _⟩ [0, 1, 2, 3, 4, 5, 6, 7] rfl rfl hP hK 0 rfl rfl rfl rfl rfl (Nat.le_of_ble_eq_true rfl) dL_deeds_571 ?_
                          refine lv_aload_n hx hb dL_deeds_574 rfl (lv_at hl 12 rfl) ?_
                          refine lv_iload_n hx hb dL_deeds_575 rfl (lv_at hl 11 rfl) ?_
                          refine lv_iconst (v := 0) hx hb dL_deeds_576 (by decide) ?_
                          refine rVB (bl := [wRt Z C TR SN HI Y P R rt, wPd cyC P sg pw, wRd R P rd, wC cyI C u w, wHM cyI cyO HI BB h r v, wC cyI TR tu tw, wC cyI SN su sw, wWy cyI Y g]) (WSb := [wRt Z C TR SN HI Y P R rt, wPd cyC P sg pw, wRd R P rd, wC cyI C u w, wHM cyI cyO HI BB h r v, wC cyI TR tu tw, wC cyI SN su sw, wWy cyI Y g]) (As := [.int (dW a3), .int 0]) (rest := [.int (fG u w (dN a3) 0)]) hx hb hml hown hts hl.1 (k_fO l D cyC cyI cyO Z C TR SN HI Y P R BB rt sg pw rd u w h r v tu tw su sw g (dW a3) 0 hq) bV_X6_ownerOf wml_RL_32 ⟨rfl, rfl⟩ ⟨Nat.le_of_ble_eq_true rfl, Nat.le_of_ble_eq_true rfl, Nat.zero_le _, Nat.zero_le _⟩ [0, 1, 2, 3, 4, 5, 6, 7] rfl rfl hP hK 0 rfl rfl rfl rfl rfl (Nat.le_of_ble_eq_true rfl) dL_deeds_577 ?_
                          refine lv_icmp_ge (tgt := 588) hx hb dL_deeds_580 (by decide) (fun c_38 => ?_) (fun c_38 => ?_)
                          · refine lv_iload hx hb dL_deeds_588 (lv_at hl 6 rfl) ?_
                            refine lv_bipush (v := (-4)) hx hb dL_deeds_590 (by decide) ?_
                            refine lv_icmp_eq (tgt := 606) hx hb dL_deeds_592 (by decide) (fun c_39 => ?_) (fun c_39 => ?_)
                            · refine lv_aload_n hx hb dL_deeds_606 rfl (lv_at hl 12 rfl) ?_
                              refine lv_iload_n hx hb dL_deeds_607 rfl (lv_at hl 11 rfl) ?_
                              refine lv_iconst (v := 1) hx hb dL_deeds_608 (by decide) ?_
                              refine rVB (bl := [wRt Z C TR SN HI Y P R rt, wPd cyC P sg pw, wRd R P rd, wC cyI C u w, wHM cyI cyO HI BB h r v, wC cyI TR tu tw, wC cyI SN su sw, wWy cyI Y g]) (WSb := [wRt Z C TR SN HI Y P R rt, wPd cyC P sg pw, wRd R P rd, wC cyI C u w, wHM cyI cyO HI BB h r v, wC cyI TR tu tw, wC cyI SN su sw, wWy cyI Y g]) (As := [.int (dW a3), .int 1]) (rest := []) hx hb hml hown hts hl.1 (k_fO l D cyC cyI cyO Z C TR SN HI Y P R BB rt sg pw rd u w h r v tu tw su sw g (dW a3) 1 hq) bV_X6_ownerOf wml_RL_32 ⟨rfl, rfl⟩ ⟨Nat.le_of_ble_eq_true rfl, Nat.le_of_ble_eq_true rfl, Nat.zero_le _, Nat.zero_le _⟩ [0, 1, 2, 3, 4, 5, 6, 7] rfl rfl hP hK 0 rfl rfl rfl rfl rfl (Nat.le_of_ble_eq_true rfl) dL_deeds_609 ?_
                              refine lv_iload hx hb dL_deeds_612 (lv_at hl 1 rfl) ?_
                              refine lv_ishr hx hb dL_deeds_614 ?_
                              refine lv_iconst (v := 1) hx hb dL_deeds_615 (by decide) ?_
                              refine lv_iand hx hb dL_deeds_616 ?_
                              refine lv_iconst (v := 1) hx hb dL_deeds_617 (by decide) ?_
                              refine lv_icmp_ne (tgt := 625) hx hb dL_deeds_618 (by decide) (fun c_40 => ?_) (fun c_40 => ?_)
                              · refine lv_iconst (v := 3) hx hb dL_deeds_625 (by decide) ?_
                                exact W.eq (congrArg (fun q => F0 m _ ls (.int q :: [])) (show (3 : Int32) = z_43 from (by rw [hz_43]; simp only [if_pos c_34, if_pos c_36, if_neg c_37, if_pos c_38, if_pos c_39, if_neg c_40]))) key_J_35
                              · refine lv_iconst (v := 0) hx hb dL_deeds_621 (by decide) ?_
                                refine lv_goto (tgt := 626) hx hb dL_deeds_622 (by decide) ?_
                                exact W.eq (congrArg (fun q => F0 m _ ls (.int q :: [])) (show (0 : Int32) = z_43 from (by rw [hz_43]; simp only [if_pos c_34, if_pos c_36, if_neg c_37, if_pos c_38, if_pos c_39, if_pos c_40]))) key_J_35
                            · refine lv_iload hx hb dL_deeds_595 (lv_at hl 6 rfl) ?_
                              refine lv_iload_n hx hb dL_deeds_597 rfl (lv_at hl 11 rfl) ?_
                              refine lv_icmp_eq (tgt := 606) hx hb dL_deeds_598 (by decide) (fun c_41 => ?_) (fun c_41 => ?_)
                              · refine lv_aload_n hx hb dL_deeds_606 rfl (lv_at hl 12 rfl) ?_
                                refine lv_iload_n hx hb dL_deeds_607 rfl (lv_at hl 11 rfl) ?_
                                refine lv_iconst (v := 1) hx hb dL_deeds_608 (by decide) ?_
                                refine rVB (bl := [wRt Z C TR SN HI Y P R rt, wPd cyC P sg pw, wRd R P rd, wC cyI C u w, wHM cyI cyO HI BB h r v, wC cyI TR tu tw, wC cyI SN su sw, wWy cyI Y g]) (WSb := [wRt Z C TR SN HI Y P R rt, wPd cyC P sg pw, wRd R P rd, wC cyI C u w, wHM cyI cyO HI BB h r v, wC cyI TR tu tw, wC cyI SN su sw, wWy cyI Y g]) (As := [.int (dW a3), .int 1]) (rest := []) hx hb hml hown hts hl.1 (k_fO l D cyC cyI cyO Z C TR SN HI Y P R BB rt sg pw rd u w h r v tu tw su sw g (dW a3) 1 hq) bV_X6_ownerOf wml_RL_32 ⟨rfl, rfl⟩ ⟨Nat.le_of_ble_eq_true rfl, Nat.le_of_ble_eq_true rfl, Nat.zero_le _, Nat.zero_le _⟩ [0, 1, 2, 3, 4, 5, 6, 7] rfl rfl hP hK 0 rfl rfl rfl rfl rfl (Nat.le_of_ble_eq_true rfl) dL_deeds_609 ?_
                                refine lv_iload hx hb dL_deeds_612 (lv_at hl 1 rfl) ?_
                                refine lv_ishr hx hb dL_deeds_614 ?_
                                refine lv_iconst (v := 1) hx hb dL_deeds_615 (by decide) ?_
                                refine lv_iand hx hb dL_deeds_616 ?_
                                refine lv_iconst (v := 1) hx hb dL_deeds_617 (by decide) ?_
                                refine lv_icmp_ne (tgt := 625) hx hb dL_deeds_618 (by decide) (fun c_42 => ?_) (fun c_42 => ?_)
                                · refine lv_iconst (v := 3) hx hb dL_deeds_625 (by decide) ?_
                                  exact W.eq (congrArg (fun q => F0 m _ ls (.int q :: [])) (show (3 : Int32) = z_43 from (by rw [hz_43]; simp only [if_pos c_34, if_pos c_36, if_neg c_37, if_pos c_38, if_neg c_39, if_pos c_41, if_neg c_42]))) key_J_35
                                · refine lv_iconst (v := 0) hx hb dL_deeds_621 (by decide) ?_
                                  refine lv_goto (tgt := 626) hx hb dL_deeds_622 (by decide) ?_
                                  exact W.eq (congrArg (fun q => F0 m _ ls (.int q :: [])) (show (0 : Int32) = z_43 from (by rw [hz_43]; simp only [if_pos c_34, if_pos c_36, if_neg c_37, if_pos c_38, if_neg c_39, if_pos c_41, if_pos c_42]))) key_J_35
                              · refine lv_bipush (v := 9) hx hb dL_deeds_601 (by decide) ?_
                                refine lv_goto (tgt := 626) hx hb dL_deeds_603 (by decide) ?_
                                exact W.eq (congrArg (fun q => F0 m _ ls (.int q :: [])) (show (9 : Int32) = z_43 from (by rw [hz_43]; simp only [if_pos c_34, if_pos c_36, if_neg c_37, if_pos c_38, if_neg c_39, if_neg c_41]))) key_J_35
                          · refine lv_bipush (v := 8) hx hb dL_deeds_583 (by decide) ?_
                            refine lv_goto (tgt := 626) hx hb dL_deeds_585 (by decide) ?_
                            exact W.eq (congrArg (fun q => F0 m _ ls (.int q :: [])) (show (8 : Int32) = z_43 from (by rw [hz_43]; simp only [if_pos c_34, if_pos c_36, if_neg c_37, if_neg c_38]))) key_J_35
                        · refine lv_iconst (v := 1) hx hb dL_deeds_563 (by decide) ?_
                          refine lv_goto (tgt := 626) hx hb dL_deeds_564 (by decide) ?_
                          exact W.eq (congrArg (fun q => F0 m _ ls (.int q :: [])) (show (1 : Int32) = z_43 from (by rw [hz_43]; simp only [if_pos c_34, if_pos c_36, if_pos c_37]))) key_J_35
                      · refine lv_iconst (v := 0) hx hb dL_deeds_549 (by decide) ?_
                        refine lv_goto (tgt := 626) hx hb dL_deeds_550 (by decide) ?_
                        exact W.eq (congrArg (fun q => F0 m _ ls (.int q :: [])) (show (0 : Int32) = z_43 from (by rw [hz_43]; simp only [if_pos c_34, if_neg c_36]))) key_J_35
                  refine lv_icmp_ne (tgt := 530) hx hb dL_deeds_523 (by decide) (fun c_31 => ?_) (fun c_31 => ?_)
                  · refine lv_aload_n hx hb dL_deeds_530 rfl (lv_at hl 11 rfl) ?_
                    refine lv_iload_n hx hb dL_deeds_531 rfl (lv_at hl 10 rfl) ?_
                    refine lv_bipush (v := 7) hx hb dL_deeds_532 (by decide) ?_
                    refine rVB (bl := [wRt Z C TR SN HI Y P R rt, wPd cyC P sg pw, wRd R P rd, wC cyI C u w, wHM cyI cyO HI BB h r v, wC cyI TR tu tw, wC cyI SN su sw, wWy cyI Y g]) (WSb := [wRt Z C TR SN HI Y P R rt, wPd cyC P sg pw, wRd R P rd, wC cyI C u w, wHM cyI cyO HI BB h r v, wC cyI TR tu tw, wC cyI SN su sw, wWy cyI Y g]) (As := [.int (dW a3), .int 7]) (rest := []) hx hb hml hown hts hl.1 (k_fO l D cyC cyI cyO Z C TR SN HI Y P R BB rt sg pw rd u w h r v tu tw su sw g (dW a3) 7 hq) bV_X6_ownerOf wml_RL_32 ⟨rfl, rfl⟩ ⟨Nat.le_of_ble_eq_true rfl, Nat.le_of_ble_eq_true rfl, Nat.zero_le _, Nat.zero_le _⟩ [0, 1, 2, 3, 4, 5, 6, 7] rfl rfl hP hK 0 rfl rfl rfl rfl rfl (Nat.le_of_ble_eq_true rfl) dL_deeds_534 ?_
                    exact W.eq (congrArg (fun q => F0 m _ ls (.int q :: [])) (show ((fO u w (dW a3) 7) : Int32) = z_33 from (by rw [hz_33]; simp only [if_neg c_31]))) key_J_32
                  · refine lv_iconst (v := 0) hx hb dL_deeds_526 (by decide) ?_
                    refine lv_goto (tgt := 537) hx hb dL_deeds_527 (by decide) ?_
                    exact W.eq (congrArg (fun q => F0 m _ ls (.int q :: [])) (show (0 : Int32) = z_33 from (by rw [hz_33]; simp only [if_pos c_31]))) key_J_32
                refine lv_if_ne (tgt := 508) hx hb dL_deeds_487 (by decide) (fun c_26 => ?_) (fun c_26 => ?_)
                · refine lv_iconst (v := 0) hx hb dL_deeds_508 (by decide) ?_
                  exact W.eq (congrArg (fun q => F0 m _ ls (.int q :: [])) (show (0 : Int32) = z_30 from (by rw [hz_30]; simp only [if_neg c_26]))) key_J_27
                · refine lv_iload hx hb dL_deeds_490 (lv_at hl 2 rfl) ?_
                  refine lv_iload hx hb dL_deeds_492 (lv_at hl 1 rfl) ?_
                  refine lv_icmp_eq (tgt := 508) hx hb dL_deeds_494 (by decide) (fun c_28 => ?_) (fun c_28 => ?_)
                  · refine lv_iconst (v := 0) hx hb dL_deeds_508 (by decide) ?_
                    exact W.eq (congrArg (fun q => F0 m _ ls (.int q :: [])) (show (0 : Int32) = z_30 from (by rw [hz_30]; simp only [if_pos c_26, if_pos c_28]))) key_J_27
                  · refine lv_iload hx hb dL_deeds_497 (lv_at hl 2 rfl) ?_
                    refine lv_iload hx hb dL_deeds_499 (lv_at hl 0 rfl) ?_
                    refine lv_icmp_eq (tgt := 508) hx hb dL_deeds_501 (by decide) (fun c_29 => ?_) (fun c_29 => ?_)
                    · refine lv_iconst (v := 0) hx hb dL_deeds_508 (by decide) ?_
                      exact W.eq (congrArg (fun q => F0 m _ ls (.int q :: [])) (show (0 : Int32) = z_30 from (by rw [hz_30]; simp only [if_pos c_26, if_neg c_28, if_pos c_29]))) key_J_27
                    · refine lv_iconst (v := 1) hx hb dL_deeds_504 (by decide) ?_
                      refine lv_goto (tgt := 509) hx hb dL_deeds_505 (by decide) ?_
                      exact W.eq (congrArg (fun q => F0 m _ ls (.int q :: [])) (show (1 : Int32) = z_30 from (by rw [hz_30]; simp only [if_pos c_26, if_neg c_28, if_neg c_29]))) key_J_27
              refine lv_icmp_ne (tgt := 476) hx hb dL_deeds_469 (by decide) (fun c_23 => ?_) (fun c_23 => ?_)
              · refine lv_aload_n hx hb dL_deeds_476 rfl (lv_at hl 8 rfl) ?_
                refine lv_iload hx hb dL_deeds_477 (lv_at hl 6 rfl) ?_
                refine lv_iconst (v := 2) hx hb dL_deeds_479 (by decide) ?_
                refine rVB (bl := [wRt Z C TR SN HI Y P R rt, wPd cyC P sg pw, wRd R P rd, wC cyI C u w, wHM cyI cyO HI BB h r v, wC cyI TR tu tw, wC cyI SN su sw, wWy cyI Y g]) (WSb := [wRt Z C TR SN HI Y P R rt, wPd cyC P sg pw, wRd R P rd, wC cyI C u w, wHM cyI cyO HI BB h r v, wC cyI TR tu tw, wC cyI SN su sw, wWy cyI Y g]) (As := [.int (dN a3), .int 2]) (rest := []) hx hb hml hown hts hl.1 (k_fG l D cyC cyI cyO Z C TR SN HI Y P R BB rt sg pw rd u w h r v tu tw su sw g (dN a3) 2 hq) bV_X6_gangway wml_RL_29 ⟨rfl, rfl⟩ ⟨Nat.le_of_ble_eq_true rfl, Nat.le_of_ble_eq_true rfl, Nat.zero_le _, Nat.zero_le _⟩ [0, 1, 2, 3, 4, 5, 6, 7] rfl rfl hP hK 0 rfl rfl rfl rfl rfl (Nat.le_of_ble_eq_true rfl) dL_deeds_480 ?_
                exact W.eq (congrArg (fun q => F0 m _ ls (.int q :: [])) (show ((fG u w (dN a3) 2) : Int32) = z_25 from (by rw [hz_25]; simp only [if_neg c_23]))) key_J_24
              · refine lv_iconst (v := 0) hx hb dL_deeds_472 (by decide) ?_
                refine lv_goto (tgt := 483) hx hb dL_deeds_473 (by decide) ?_
                exact W.eq (congrArg (fun q => F0 m _ ls (.int q :: [])) (show (0 : Int32) = z_25 from (by rw [hz_25]; simp only [if_pos c_23]))) key_J_24
            refine lv_icmp_ne (tgt := 456) hx hb dL_deeds_449 (by decide) (fun c_20 => ?_) (fun c_20 => ?_)
            · refine lv_aload_n hx hb dL_deeds_456 rfl (lv_at hl 7 rfl) ?_
              refine lv_iload hx hb dL_deeds_457 (lv_at hl 5 rfl) ?_
              refine lv_iconst (v := 1) hx hb dL_deeds_459 (by decide) ?_
              refine rVB (bl := [wRt Z C TR SN HI Y P R rt, wPd cyC P sg pw, wRd R P rd, wC cyI C u w, wHM cyI cyO HI BB h r v, wC cyI TR tu tw, wC cyI SN su sw, wWy cyI Y g]) (WSb := [wRt Z C TR SN HI Y P R rt, wPd cyC P sg pw, wRd R P rd, wC cyI C u w, wHM cyI cyO HI BB h r v, wC cyI TR tu tw, wC cyI SN su sw, wWy cyI Y g]) (As := [.int (dN a3), .int 1]) (rest := []) hx hb hml hown hts hl.1 (k_fG l D cyC cyI cyO Z C TR SN HI Y P R BB rt sg pw rd u w h r v tu tw su sw g (dN a3) 1 hq) bV_X6_gangway wml_RL_29 ⟨rfl, rfl⟩ ⟨Nat.le_of_ble_eq_true rfl, Nat.le_of_ble_eq_true rfl, Nat.zero_le _, Nat.zero_le _⟩ [0, 1, 2, 3, 4, 5, 6, 7] rfl rfl hP hK 0 rfl rfl rfl rfl rfl (Nat.le_of_ble_eq_true rfl) dL_deeds_460 ?_
              exact W.eq (congrArg (fun q => F0 m _ ls (.int q :: [])) (show ((fG u w (dN a3) 1) : Int32) = z_22 from (by rw [hz_22]; simp only [if_neg c_20]))) key_J_21
            · refine lv_iconst (v := 0) hx hb dL_deeds_452 (by decide) ?_
              refine lv_goto (tgt := 463) hx hb dL_deeds_453 (by decide) ?_
              exact W.eq (congrArg (fun q => F0 m _ ls (.int q :: [])) (show (0 : Int32) = z_22 from (by rw [hz_22]; simp only [if_pos c_20]))) key_J_21
          refine lv_icmp_ne (tgt := 437) hx hb dL_deeds_430 (by decide) (fun c_17 => ?_) (fun c_17 => ?_)
          · refine lv_aload_n hx hb dL_deeds_437 rfl (lv_at hl 6 rfl) ?_
            refine lv_iload_n hx hb dL_deeds_438 rfl (lv_at hl 5 rfl) ?_
            refine lv_iconst (v := 3) hx hb dL_deeds_439 (by decide) ?_
            refine rVB (bl := [wRt Z C TR SN HI Y P R rt, wPd cyC P sg pw, wRd R P rd, wC cyI C u w, wHM cyI cyO HI BB h r v, wC cyI TR tu tw, wC cyI SN su sw, wWy cyI Y g]) (WSb := [wRt Z C TR SN HI Y P R rt, wPd cyC P sg pw, wRd R P rd, wC cyI C u w, wHM cyI cyO HI BB h r v, wC cyI TR tu tw, wC cyI SN su sw, wWy cyI Y g]) (As := [.int (dW a3), .int 3]) (rest := []) hx hb hml hown hts hl.1 (k_fO l D cyC cyI cyO Z C TR SN HI Y P R BB rt sg pw rd u w h r v tu tw su sw g (dW a3) 3 hq) bV_X6_ownerOf wml_RL_32 ⟨rfl, rfl⟩ ⟨Nat.le_of_ble_eq_true rfl, Nat.le_of_ble_eq_true rfl, Nat.zero_le _, Nat.zero_le _⟩ [0, 1, 2, 3, 4, 5, 6, 7] rfl rfl hP hK 0 rfl rfl rfl rfl rfl (Nat.le_of_ble_eq_true rfl) dL_deeds_440 ?_
            exact W.eq (congrArg (fun q => F0 m _ ls (.int q :: [])) (show ((fO u w (dW a3) 3) : Int32) = z_19 from (by rw [hz_19]; simp only [if_neg c_17]))) key_J_18
          · refine lv_iconst (v := 0) hx hb dL_deeds_433 (by decide) ?_
            refine lv_goto (tgt := 443) hx hb dL_deeds_434 (by decide) ?_
            exact W.eq (congrArg (fun q => F0 m _ ls (.int q :: [])) (show (0 : Int32) = z_19 from (by rw [hz_19]; simp only [if_pos c_17]))) key_J_18
        refine lv_icmp_ne (tgt := 122) hx hb dL_deeds_114 (by decide) (fun c_12 => ?_) (fun c_12 => ?_)
        · refine lv_aload_n hx hb dL_deeds_122 rfl (lv_at hl 5 rfl) ?_
          refine lv_iload hx hb dL_deeds_123 (lv_at hl 3 rfl) ?_
          refine lv_iconst (v := 3) hx hb dL_deeds_125 (by decide) ?_
          refine rVB (bl := [wRt Z C TR SN HI Y P R rt, wPd cyC P sg pw, wRd R P rd, wC cyI C u w, wHM cyI cyO HI BB h r v, wC cyI TR tu tw, wC cyI SN su sw, wWy cyI Y g]) (WSb := [wRt Z C TR SN HI Y P R rt, wPd cyC P sg pw, wRd R P rd, wC cyI C u w, wHM cyI cyO HI BB h r v, wC cyI TR tu tw, wC cyI SN su sw, wWy cyI Y g]) (As := [.int (dN a3), .int 3]) (rest := []) hx hb hml hown hts hl.1 (k_fG l D cyC cyI cyO Z C TR SN HI Y P R BB rt sg pw rd u w h r v tu tw su sw g (dN a3) 3 hq) bV_X6_gangway wml_RL_29 ⟨rfl, rfl⟩ ⟨Nat.le_of_ble_eq_true rfl, Nat.le_of_ble_eq_true rfl, Nat.zero_le _, Nat.zero_le _⟩ [0, 1, 2, 3, 4, 5, 6, 7] rfl rfl hP hK 0 rfl rfl rfl rfl rfl (Nat.le_of_ble_eq_true rfl) dL_deeds_126 ?_
          exact W.eq (congrArg (fun q => F0 m _ ls (.int q :: [])) (show ((fG u w (dN a3) 3) : Int32) = z_14 from (by rw [hz_14]; simp only [if_neg c_12]))) key_J_13
        · refine lv_bipush (v := (-4)) hx hb dL_deeds_117 (by decide) ?_
          refine lv_goto (tgt := 129) hx hb dL_deeds_119 (by decide) ?_
          exact W.eq (congrArg (fun q => F0 m _ ls (.int q :: [])) (show ((-4) : Int32) = z_14 from (by rw [hz_14]; simp only [if_pos c_12]))) key_J_13
      refine lv_icmp_eq (tgt := 88) hx hb dL_deeds_78 (by decide) (fun c_8 => ?_) (fun c_8 => ?_)
      · refine lv_iconst (v := 1) hx hb dL_deeds_88 (by decide) ?_
        refine lv_goto (tgt := 93) hx hb dL_deeds_89 (by decide) ?_
        exact W.eq (congrArg (fun q => F0 m _ ls (.int q :: [])) (show (1 : Int32) = z_11 from (by rw [hz_11]; simp only [if_pos c_8]))) key_J_9
      · refine lv_iload hx hb dL_deeds_81 (lv_at hl 0 rfl) ?_
        refine lv_bipush (v := 28) hx hb dL_deeds_83 (by decide) ?_
        refine lv_icmp_ne (tgt := 92) hx hb dL_deeds_85 (by decide) (fun c_10 => ?_) (fun c_10 => ?_)
        · refine lv_iconst (v := 0) hx hb dL_deeds_92 (by decide) ?_
          exact W.eq (congrArg (fun q => F0 m _ ls (.int q :: [])) (show (0 : Int32) = z_11 from (by rw [hz_11]; simp only [if_neg c_8, if_neg c_10]))) key_J_9
        · refine lv_iconst (v := 1) hx hb dL_deeds_88 (by decide) ?_
          refine lv_goto (tgt := 93) hx hb dL_deeds_89 (by decide) ?_
          exact W.eq (congrArg (fun q => F0 m _ ls (.int q :: [])) (show (1 : Int32) = z_11 from (by rw [hz_11]; simp only [if_neg c_8, if_pos c_10]))) key_J_9
    refine lv_if_ne (tgt := 49) hx hb dL_deeds_41 (by decide) (fun c_4 => ?_) (fun c_4 => ?_)
    · refine lv_iload hx hb dL_deeds_49 (lv_at hl 0 rfl) ?_
      refine lv_bipush (v := 12) hx hb dL_deeds_51 (by decide) ?_
      refine lv_icmp_ge (tgt := 70) hx hb dL_deeds_53 (by decide) (fun c_6 => ?_) (fun c_6 => ?_)
      · refine lv_iload hx hb dL_deeds_70 (lv_at hl 0 rfl) ?_
        refine lv_iconst (v := 4) hx hb dL_deeds_72 (by decide) ?_
        refine lv_iadd hx hb dL_deeds_73 ?_
        exact W.eq (congrArg (fun q => F0 m _ ls (.int q :: [])) (show (((pL_low (a3 >>> ((3 : Int32) &&& 31)) 24) + (4 : Int32)) : Int32) = z_7 from (by rw [hz_7]; simp only [if_neg c_4, if_pos c_6]))) key_J_5
      · refine lv_iload hx hb dL_deeds_56 (lv_at hl 0 rfl) ?_
        refine lv_iconst (v := 3) hx hb dL_deeds_58 (by decide) ?_
        refine lv_idiv hx hb dL_deeds_59 (by decide) ?_
        refine lv_iconst (v := 4) hx hb dL_deeds_60 (by decide) ?_
        refine lv_imul hx hb dL_deeds_61 ?_
        refine lv_iload hx hb dL_deeds_62 (lv_at hl 0 rfl) ?_
        refine lv_iconst (v := 3) hx hb dL_deeds_64 (by decide) ?_
        refine lv_irem hx hb dL_deeds_65 (by decide) ?_
        refine lv_iadd hx hb dL_deeds_66 ?_
        refine lv_goto (tgt := 74) hx hb dL_deeds_67 (by decide) ?_
        exact W.eq (congrArg (fun q => F0 m _ ls (.int q :: [])) (show (((((pL_low (a3 >>> ((3 : Int32) &&& 31)) 24) / (3 : Int32)) * (4 : Int32)) + ((pL_low (a3 >>> ((3 : Int32) &&& 31)) 24) - (pL_low (a3 >>> ((3 : Int32) &&& 31)) 24) / (3 : Int32) * (3 : Int32))) : Int32) = z_7 from (by rw [hz_7]; simp only [if_neg c_4, if_neg c_6]))) key_J_5
    · refine lv_bipush (v := 28) hx hb dL_deeds_44 (by decide) ?_
      refine lv_goto (tgt := 74) hx hb dL_deeds_46 (by decide) ?_
      exact W.eq (congrArg (fun q => F0 m _ ls (.int q :: [])) (show (28 : Int32) = z_7 from (by rw [hz_7]; simp only [if_pos c_4]))) key_J_5
  refine lv_if_ne (tgt := 17) hx hb dL_deeds_10 (by decide) (fun c_1 => ?_) (fun c_1 => ?_)
  · refine lv_iconst (v := 4) hx hb dL_deeds_17 (by decide) ?_
    exact W.eq (congrArg (fun q => F0 m _ ls (.int q :: [.int a3])) (show (4 : Int32) = z_3 from (by rw [hz_3]; simp only [if_neg c_1]))) key_J_2
  · refine lv_iconst (v := 5) hx hb dL_deeds_13 (by decide) ?_
    refine lv_goto (tgt := 18) hx hb dL_deeds_14 (by decide) ?_
    exact W.eq (congrArg (fun q => F0 m _ ls (.int q :: [.int a3])) (show (5 : Int32) = z_3 from (by rw [hz_3]; simp only [if_pos c_1]))) key_J_2
