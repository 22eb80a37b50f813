def pL_low (a1 : Int32) (a2 : Int32) : Int32 := ((a1 &&& (2147483647 : Int32)) - (a1 &&& (2147483647 : Int32)) / a2 * a2)
set_option maxHeartbeats 4000000 in
set_option maxRecDepth 100000 in
theorem kL_low (l : Launch) (D : va_G) (cyC cyI cyO : ClassId) (a1 : Int32) (a2 : Int32) (h2 : ¬ a2 = 0) : RO l yL_low (Ty yL_low cL_low 2 (some .int)) ({ frames := 0, cells := 0, slots := 0, locals := 0 } : Room) D cyC cyI cyO [] [.int a1, .int a2] (pL_low a1 a2) := by
  refine Met.ofW (cc := cL_low) (maxL := 2) (ret := (some .int)) (by decide) rfl ?_
  intro p e s m args below meth cd s₁ B hml hv
  obtain ⟨rfl, hP, hK⟩ := hv
  have hx := B.exec
  have hb := B.bytes
  have hr := B.returns
  have hts : ∀ w ∈ TB, w.before ([.int a1, .int a2] : List Value).toArray s = true := fun w h => atoms_spec (ws := (Ty yL_low cL_low 2 (some .int))) B.pre w (List.mem_cons_of_mem _ h)
  have hown : s.vm.findClass RL = some m.cls := findClass_of_methodNamed B.named
  have hlocks := B.notSynchronized
  have hl := lv_entry ([.int a1, .int a2]) (n := 2) (Nat.le_of_ble_eq_true rfl)
  rw [lg_entry_eq]
  generalize (lg_sl ([.int a1, .int a2]) ++ List.replicate (2 - (lg_sl ([.int a1, .int a2])).length) Slot.unset).toArray = ls at hl ⊢
  have hl : lv_has ls 2 [(0, .int a1), (1, .int a2)] := hl
  refine lv_iload_n hx hb dL_low_0 rfl (lv_at hl 0 rfl) ?_
  refine lv_ldc (v := 2147483647) hx hb hown (hts _ wco_RL_8) dL_low_1 ?_
  refine lv_iand hx hb dL_low_3 ?_
  refine lv_iload_n hx hb dL_low_4 rfl (lv_at hl 1 rfl) ?_
  refine lv_irem hx hb dL_low_5 h2 ?_
  have e9 : ((a1 &&& (2147483647 : Int32)) - (a1 &&& (2147483647 : Int32)) / a2 * a2) = (pL_low a1 a2) := rfl
  exact W.iret (v := ((a1 &&& (2147483647 : Int32)) - (a1 &&& (2147483647 : Int32)) / a2 * a2)) hx hb hr (fun t ht hW => ⟨_, rfl, e9, ht⟩) (fun _ h => absurd h List.not_mem_nil) dL_low_6
theorem bS_L_low : BS yL_low cL_low 2 (some .int) 2 := ⟨wcd_L_low, wst_L_low, win_RL, by decide +kernel⟩
def pL_bridge (a1 : Int32) : Int32 := (if a1 < 0 then 0 else (if 28 ≤ a1 then 0 else (if a1 = 3 then 0 else (if a1 = 7 then 0 else (if a1 = 11 then 0 else (if a1 = 15 then 0 else 1))))))
set_option maxHeartbeats 4000000 in
set_option maxRecDepth 100000 in
theorem kL_bridge (l : Launch) (D : va_G) (cyC cyI cyO : ClassId) (a1 : Int32) : RO l yL_bridge (Ty yL_bridge cL_bridge 1 (some .boolean)) ({ frames := 0, cells := 0, slots := 0, locals := 0 } : Room) D cyC cyI cyO [] [.int a1] (pL_bridge a1) := by
  refine Met.ofW (cc := cL_bridge) (maxL := 1) (ret := (some .boolean)) (by decide) rfl ?_
  intro p e s m args below meth cd s₁ B hml hv
  obtain ⟨rfl, hP, hK⟩ := hv
  have hx := B.exec
  have hb := B.bytes
  have hr := B.returns
  have hts : ∀ w ∈ TB, w.before ([.int a1] : List Value).toArray s = true := fun w h => atoms_spec (ws := (Ty yL_bridge cL_bridge 1 (some .boolean))) B.pre w (List.mem_cons_of_mem _ h)
  have hown : s.vm.findClass RL = some m.cls := findClass_of_methodNamed B.named
  have hlocks := B.notSynchronized
  have hl := lv_entry ([.int a1]) (n := 1) (Nat.le_of_ble_eq_true rfl)
  rw [lg_entry_eq]
  generalize (lg_sl ([.int a1]) ++ List.replicate (1 - (lg_sl ([.int a1])).length) Slot.unset).toArray = ls at hl ⊢
  have hl : lv_has ls 1 [(0, .int a1)] := hl
  refine lv_iload_n hx hb dL_bridge_0 rfl (lv_at hl 0 rfl) ?_
  refine lv_if_lt (tgt := 37) hx hb dL_bridge_1 (by decide) (fun c_1 => ?_) (fun c_1 => ?_)
  · refine lv_iconst (v := 0) hx hb dL_bridge_37 (by decide) ?_
    have e9 : 0 = (pL_bridge a1) := by simp only [pL_bridge, if_pos c_1]
    exact W.zret (ty := .boolean) (v := 0) hx hb hr (by rfl) (fun t ht hW => ⟨_, rfl, e9, ht⟩) (fun _ h => absurd h List.not_mem_nil) dL_bridge_38
  · refine lv_iload_n hx hb dL_bridge_4 rfl (lv_at hl 0 rfl) ?_
    refine lv_bipush (v := 28) hx hb dL_bridge_5 (by decide) ?_
    refine lv_icmp_ge (tgt := 37) hx hb dL_bridge_7 (by decide) (fun c_2 => ?_) (fun c_2 => ?_)
    · refine lv_iconst (v := 0) hx hb dL_bridge_37 (by decide) ?_
      have e9 : 0 = (pL_bridge a1) := by simp only [pL_bridge, if_neg c_1, if_pos c_2]
      exact W.zret (ty := .boolean) (v := 0) hx hb hr (by rfl) (fun t ht hW => ⟨_, rfl, e9, ht⟩) (fun _ h => absurd h List.not_mem_nil) dL_bridge_38
    · refine lv_iload_n hx hb dL_bridge_10 rfl (lv_at hl 0 rfl) ?_
      refine lv_iconst (v := 3) hx hb dL_bridge_11 (by decide) ?_
      refine lv_icmp_eq (tgt := 37) hx hb dL_bridge_12 (by decide) (fun c_3 => ?_) (fun c_3 => ?_)
      · refine lv_iconst (v := 0) hx hb dL_bridge_37 (by decide) ?_
        have e9 : 0 = (pL_bridge a1) := by simp only [pL_bridge, if_neg c_1, if_neg c_2, if_pos c_3]
        exact W.zret (ty := .boolean) (v := 0) hx hb hr (by rfl) (fun t ht hW => ⟨_, rfl, e9, ht⟩) (fun _ h => absurd h List.not_mem_nil) dL_bridge_38
      · refine lv_iload_n hx hb dL_bridge_15 rfl (lv_at hl 0 rfl) ?_
        refine lv_bipush (v := 7) hx hb dL_bridge_16 (by decide) ?_
        refine lv_icmp_eq (tgt := 37) hx hb dL_bridge_18 (by decide) (fun c_4 => ?_) (fun c_4 => ?_)
        · refine lv_iconst (v := 0) hx hb dL_bridge_37 (by decide) ?_
          have e9 : 0 = (pL_bridge a1) := by simp only [pL_bridge, if_neg c_1, if_neg c_2, if_neg c_3, if_pos c_4]
          exact W.zret (ty := .boolean) (v := 0) hx hb hr (by rfl) (fun t ht hW => ⟨_, rfl, e9, ht⟩) (fun _ h => absurd h List.not_mem_nil) dL_bridge_38
        · refine lv_iload_n hx hb dL_bridge_21 rfl (lv_at hl 0 rfl) ?_
          refine lv_bipush (v := 11) hx hb dL_bridge_22 (by decide) ?_
          refine lv_icmp_eq (tgt := 37) hx hb dL_bridge_24 (by decide) (fun c_5 => ?_) (fun c_5 => ?_)
          · refine lv_iconst (v := 0) hx hb dL_bridge_37 (by decide) ?_
            have e9 : 0 = (pL_bridge a1) := by simp only [pL_bridge, if_neg c_1, if_neg c_2, if_neg c_3, if_neg c_4, if_pos c_5]
            exact W.zret (ty := .boolean) (v := 0) hx hb hr (by rfl) (fun t ht hW => ⟨_, rfl, e9, ht⟩) (fun _ h => absurd h List.not_mem_nil) dL_bridge_38
          · refine lv_iload_n hx hb dL_bridge_27 rfl (lv_at hl 0 rfl) ?_
            refine lv_bipush (v := 15) hx hb dL_bridge_28 (by decide) ?_
            refine lv_icmp_eq (tgt := 37) hx hb dL_bridge_30 (by decide) (fun c_6 => ?_) (fun c_6 => ?_)
            · refine lv_iconst (v := 0) hx hb dL_bridge_37 (by decide) ?_
              have e9 : 0 = (pL_bridge a1) := by simp only [pL_bridge, if_neg c_1, if_neg c_2, if_neg c_3, if_neg c_4, if_neg c_5, if_pos c_6]
              exact W.zret (ty := .boolean) (v := 0) hx hb hr (by rfl) (fun t ht hW => ⟨_, rfl, e9, ht⟩) (fun _ h => absurd h List.not_mem_nil) dL_bridge_38
            · refine lv_iconst (v := 1) hx hb dL_bridge_33 (by decide) ?_
              refine lv_goto (tgt := 38) hx hb dL_bridge_34 (by decide) ?_
              have e9 : 1 = (pL_bridge a1) := by simp only [pL_bridge, if_neg c_1, if_neg c_2, if_neg c_3, if_neg c_4, if_neg c_5, if_neg c_6]
              exact W.zret (ty := .boolean) (v := 1) hx hb hr (by rfl) (fun t ht hW => ⟨_, rfl, e9, ht⟩) (fun _ h => absurd h List.not_mem_nil) dL_bridge_38
theorem z_L_bridge (a1 : Int32) : (pL_bridge a1) = 0 ∨ (pL_bridge a1) = 1 := by
  unfold pL_bridge
  (repeat' split) <;> first | with_reducible exact Or.inl rfl | with_reducible exact Or.inr rfl
theorem bS_L_bridge : BS yL_bridge cL_bridge 1 (some .boolean) 1 := ⟨wcd_L_bridge, wst_L_bridge, win_RL, by decide +kernel⟩
def pL_look_L6 (rt : (Nat → Int32)) (sg : (Nat → Nat → Int32)) (pw : (Nat → Int32)) (rd : (Nat → Int32)) (u : (Nat → Nat → Int32)) (w : (Nat → Int32)) (h : (Nat → (Nat → Nat → Int32) × (Nat → Int32))) (r : Nat) (v : (Nat → Int32)) (tu : (Nat → Nat → Int32)) (tw : (Nat → Int32)) (su : (Nat → Nat → Int32)) (sw : (Nat → Int32)) (g : (Nat → Nat → Int32)) : Nat → Int64 := fo (fun i x_i => (((31 : Int64) * (((31 : Int64) * (((31 : Int64) * x_i) + (((fC u w (nI i)) : Int32).toInt64))) + (((fR u w (nI i) 0) : Int32).toInt64))) + (((fR u w (nI i) 3) : Int32).toInt64))) (463 : Int64)
theorem pL_look_L6_s (rt : (Nat → Int32)) (sg : (Nat → Nat → Int32)) (pw : (Nat → Int32)) (rd : (Nat → Int32)) (u : (Nat → Nat → Int32)) (w : (Nat → Int32)) (h : (Nat → (Nat → Nat → Int32) × (Nat → Int32))) (r : Nat) (v : (Nat → Int32)) (tu : (Nat → Nat → Int32)) (tw : (Nat → Int32)) (su : (Nat → Nat → Int32)) (sw : (Nat → Int32)) (g : (Nat → Nat → Int32)) (i : Nat) : pL_look_L6 rt sg pw rd u w h r v tu tw su sw g (i + 1) = (((31 : Int64) * (((31 : Int64) * (((31 : Int64) * (pL_look_L6 rt sg pw rd u w h r v tu tw su sw g i)) + (((fC u w (nI i)) : Int32).toInt64))) + (((fR u w (nI i) 0) : Int32).toInt64))) + (((fR u w (nI i) 3) : Int32).toInt64)) := rfl
theorem pL_look_L6_0 (rt : (Nat → Int32)) (sg : (Nat → Nat → Int32)) (pw : (Nat → Int32)) (rd : (Nat → Int32)) (u : (Nat → Nat → Int32)) (w : (Nat → Int32)) (h : (Nat → (Nat → Nat → Int32) × (Nat → Int32))) (r : Nat) (v : (Nat → Int32)) (tu : (Nat → Nat → Int32)) (tw : (Nat → Int32)) (su : (Nat → Nat → Int32)) (sw : (Nat → Int32)) (g : (Nat → Nat → Int32)) : pL_look_L6 rt sg pw rd u w h r v tu tw su sw g 0 = (463 : Int64) := rfl
def pL_look_L66 (rt : (Nat → Int32)) (sg : (Nat → Nat → Int32)) (pw : (Nat → Int32)) (rd : (Nat → Int32)) (u : (Nat → Nat → Int32)) (w : (Nat → Int32)) (h : (Nat → (Nat → Nat → Int32) × (Nat → Int32))) (r : Nat) (v : (Nat → Int32)) (tu : (Nat → Nat → Int32)) (tw : (Nat → Int32)) (su : (Nat → Nat → Int32)) (sw : (Nat → Int32)) (g : (Nat → Nat → Int32)) (i : Nat) (x_i : Int64) : Nat → Int64 := fo (fun i1 x_i1 => (((31 : Int64) * x_i1) + (((fG u w (nI i) (nI i1)) : Int32).toInt64))) x_i
theorem pL_look_L66_s (rt : (Nat → Int32)) (sg : (Nat → Nat → Int32)) (pw : (Nat → Int32)) (rd : (Nat → Int32)) (u : (Nat → Nat → Int32)) (w : (Nat → Int32)) (h : (Nat → (Nat → Nat → Int32) × (Nat → Int32))) (r : Nat) (v : (Nat → Int32)) (tu : (Nat → Nat → Int32)) (tw : (Nat → Int32)) (su : (Nat → Nat → Int32)) (sw : (Nat → Int32)) (g : (Nat → Nat → Int32)) (i : Nat) (x_i : Int64) (i1 : Nat) : pL_look_L66 rt sg pw rd u w h r v tu tw su sw g i x_i (i1 + 1) = (((31 : Int64) * (pL_look_L66 rt sg pw rd u w h r v tu tw su sw g i x_i i1)) + (((fG u w (nI i) (nI i1)) : Int32).toInt64)) := rfl
theorem pL_look_L66_0 (rt : (Nat → Int32)) (sg : (Nat → Nat → Int32)) (pw : (Nat → Int32)) (rd : (Nat → Int32)) (u : (Nat → Nat → Int32)) (w : (Nat → Int32)) (h : (Nat → (Nat → Nat → Int32) × (Nat → Int32))) (r : Nat) (v : (Nat → Int32)) (tu : (Nat → Nat → Int32)) (tw : (Nat → Int32)) (su : (Nat → Nat → Int32)) (sw : (Nat → Int32)) (g : (Nat → Nat → Int32)) (i : Nat) (x_i : Int64) : pL_look_L66 rt sg pw rd u w h r v tu tw su sw g i x_i 0 = x_i := rfl
def pL_look_L57 (rt : (Nat → Int32)) (sg : (Nat → Nat → Int32)) (pw : (Nat → Int32)) (rd : (Nat → Int32)) (u : (Nat → Nat → Int32)) (w : (Nat → Int32)) (h : (Nat → (Nat → Nat → Int32) × (Nat → Int32))) (r : Nat) (v : (Nat → Int32)) (tu : (Nat → Nat → Int32)) (tw : (Nat → Int32)) (su : (Nat → Nat → Int32)) (sw : (Nat → Int32)) (g : (Nat → Nat → Int32)) : Nat → Int64 := fo (fun i x_i => (if (pL_bridge (nI i)) = 0 then x_i else (pL_look_L66 rt sg pw rd u w h r v tu tw su sw g i x_i 6))) (pL_look_L6 rt sg pw rd u w h r v tu tw su sw g 16)
theorem pL_look_L57_s (rt : (Nat → Int32)) (sg : (Nat → Nat → Int32)) (pw : (Nat → Int32)) (rd : (Nat → Int32)) (u : (Nat → Nat → Int32)) (w : (Nat → Int32)) (h : (Nat → (Nat → Nat → Int32) × (Nat → Int32))) (r : Nat) (v : (Nat → Int32)) (tu : (Nat → Nat → Int32)) (tw : (Nat → Int32)) (su : (Nat → Nat → Int32)) (sw : (Nat → Int32)) (g : (Nat → Nat → Int32)) (i : Nat) : pL_look_L57 rt sg pw rd u w h r v tu tw su sw g (i + 1) = (if (pL_bridge (nI i)) = 0 then (pL_look_L57 rt sg pw rd u w h r v tu tw su sw g i) else (pL_look_L66 rt sg pw rd u w h r v tu tw su sw g i (pL_look_L57 rt sg pw rd u w h r v tu tw su sw g i) 6)) := rfl
theorem pL_look_L57_0 (rt : (Nat → Int32)) (sg : (Nat → Nat → Int32)) (pw : (Nat → Int32)) (rd : (Nat → Int32)) (u : (Nat → Nat → Int32)) (w : (Nat → Int32)) (h : (Nat → (Nat → Nat → Int32) × (Nat → Int32))) (r : Nat) (v : (Nat → Int32)) (tu : (Nat → Nat → Int32)) (tw : (Nat → Int32)) (su : (Nat → Nat → Int32)) (sw : (Nat → Int32)) (g : (Nat → Nat → Int32)) : pL_look_L57 rt sg pw rd u w h r v tu tw su sw g 0 = (pL_look_L6 rt sg pw rd u w h r v tu tw su sw g 16) := rfl
def pL_look_L117 (rt : (Nat → Int32)) (sg : (Nat → Nat → Int32)) (pw : (Nat → Int32)) (rd : (Nat → Int32)) (u : (Nat → Nat → Int32)) (w : (Nat → Int32)) (h : (Nat → (Nat → Nat → Int32) × (Nat → Int32))) (r : Nat) (v : (Nat → Int32)) (tu : (Nat → Nat → Int32)) (tw : (Nat → Int32)) (su : (Nat → Nat → Int32)) (sw : (Nat → Int32)) (g : (Nat → Nat → Int32)) (i : Nat) (x_i : Int64) : Nat → Int64 := fo (fun i1 x_i1 => (((31 : Int64) * x_i1) + (((fO u w (nI i) (nI i1)) : Int32).toInt64))) x_i
theorem pL_look_L117_s (rt : (Nat → Int32)) (sg : (Nat → Nat → Int32)) (pw : (Nat → Int32)) (rd : (Nat → Int32)) (u : (Nat → Nat → Int32)) (w : (Nat → Int32)) (h : (Nat → (Nat → Nat → Int32) × (Nat → Int32))) (r : Nat) (v : (Nat → Int32)) (tu : (Nat → Nat → Int32)) (tw : (Nat → Int32)) (su : (Nat → Nat → Int32)) (sw : (Nat → Int32)) (g : (Nat → Nat → Int32)) (i : Nat) (x_i : Int64) (i1 : Nat) : pL_look_L117 rt sg pw rd u w h r v tu tw su sw g i x_i (i1 + 1) = (((31 : Int64) * (pL_look_L117 rt sg pw rd u w h r v tu tw su sw g i x_i i1)) + (((fO u w (nI i) (nI i1)) : Int32).toInt64)) := rfl
theorem pL_look_L117_0 (rt : (Nat → Int32)) (sg : (Nat → Nat → Int32)) (pw : (Nat → Int32)) (rd : (Nat → Int32)) (u : (Nat → Nat → Int32)) (w : (Nat → Int32)) (h : (Nat → (Nat → Nat → Int32) × (Nat → Int32))) (r : Nat) (v : (Nat → Int32)) (tu : (Nat → Nat → Int32)) (tw : (Nat → Int32)) (su : (Nat → Nat → Int32)) (sw : (Nat → Int32)) (g : (Nat → Nat → Int32)) (i : Nat) (x_i : Int64) : pL_look_L117 rt sg pw rd u w h r v tu tw su sw g i x_i 0 = x_i := rfl
def pL_look_L109 (rt : (Nat → Int32)) (sg : (Nat → Nat → Int32)) (pw : (Nat → Int32)) (rd : (Nat → Int32)) (u : (Nat → Nat → Int32)) (w : (Nat → Int32)) (h : (Nat → (Nat → Nat → Int32) × (Nat → Int32))) (r : Nat) (v : (Nat → Int32)) (tu : (Nat → Nat → Int32)) (tw : (Nat → Int32)) (su : (Nat → Nat → Int32)) (sw : (Nat → Int32)) (g : (Nat → Nat → Int32)) : Nat → Int64 := fo (fun i x_i => (((31 : Int64) * (pL_look_L117 rt sg pw rd u w h r v tu tw su sw g i x_i 4)) + (((fO u w (nI i) 7) : Int32).toInt64))) (pL_look_L57 rt sg pw rd u w h r v tu tw su sw g 28)
theorem pL_look_L109_s (rt : (Nat → Int32)) (sg : (Nat → Nat → Int32)) (pw : (Nat → Int32)) (rd : (Nat → Int32)) (u : (Nat → Nat → Int32)) (w : (Nat → Int32)) (h : (Nat → (Nat → Nat → Int32) × (Nat → Int32))) (r : Nat) (v : (Nat → Int32)) (tu : (Nat → Nat → Int32)) (tw : (Nat → Int32)) (su : (Nat → Nat → Int32)) (sw : (Nat → Int32)) (g : (Nat → Nat → Int32)) (i : Nat) : pL_look_L109 rt sg pw rd u w h r v tu tw su sw g (i + 1) = (((31 : Int64) * (pL_look_L117 rt sg pw rd u w h r v tu tw su sw g i (pL_look_L109 rt sg pw rd u w h r v tu tw su sw g i) 4)) + (((fO u w (nI i) 7) : Int32).toInt64)) := rfl
theorem pL_look_L109_0 (rt : (Nat → Int32)) (sg : (Nat → Nat → Int32)) (pw : (Nat → Int32)) (rd : (Nat → Int32)) (u : (Nat → Nat → Int32)) (w : (Nat → Int32)) (h : (Nat → (Nat → Nat → Int32) × (Nat → Int32))) (r : Nat) (v : (Nat → Int32)) (tu : (Nat → Nat → Int32)) (tw : (Nat → Int32)) (su : (Nat → Nat → Int32)) (sw : (Nat → Int32)) (g : (Nat → Nat → Int32)) : pL_look_L109 rt sg pw rd u w h r v tu tw su sw g 0 = (pL_look_L57 rt sg pw rd u w h r v tu tw su sw g 28) := rfl
def pL_look (rt : (Nat → Int32)) (sg : (Nat → Nat → Int32)) (pw : (Nat → Int32)) (rd : (Nat → Int32)) (u : (Nat → Nat → Int32)) (w : (Nat → Int32)) (h : (Nat → (Nat → Nat → Int32) × (Nat → Int32))) (r : Nat) (v : (Nat → Int32)) (tu : (Nat → Nat → Int32)) (tw : (Nat → Int32)) (su : (Nat → Nat → Int32)) (sw : (Nat → Int32)) (g : (Nat → Nat → Int32)) : Int64 := (pL_look_L109 rt sg pw rd u w h r v tu tw su sw g 4)
set_option maxHeartbeats 4000000 in
set_option maxRecDepth 100000 in
theorem kL_look (l : Launch) (D : va_G) (cyC cyI cyO : ClassId) (Z : Nat → Nat) (C : Nat → Nat) (TR : Nat → Nat) (SN : Nat → Nat) (HI : Nat → Nat) (Y : Nat → Nat) (P : Nat → Nat) (R : Nat → Nat) (BB : Nat → Nat → Nat) (rt : (Nat → Int32)) (sg : (Nat → Nat → Int32)) (pw : (Nat → Int32)) (rd : (Nat → Int32)) (u : (Nat → Nat → Int32)) (w : (Nat → Int32)) (h : (Nat → (Nat → Nat → Int32) × (Nat → Int32))) (r : Nat) (v : (Nat → Int32)) (tu : (Nat → Nat → Int32)) (tw : (Nat → Int32)) (su : (Nat → Nat → Int32)) (sw : (Nat → Int32)) (g : (Nat → Nat → Int32)) (hq : (w 12) < 4) : ROl l yL_look (Ty yL_look cL_look 5 (some .long)) ({ frames := 6, cells := 0, slots := 0, locals := 137 } : Room) D cyC cyI cyO (List.flatten [wRt Z C TR SN HI Y P R rt, wPd cyC P sg pw, wRd R P rd, wC cyI C u w, wHM cyI cyO HI BB h r v, wC cyI TR tu tw, wC cyI SN su sw, wWy cyI Y g]) [.ref (Z 0)] (pL_look rt sg pw rd u w h r v tu tw su sw g) := by
  refine Met.ofW (cc := cL_look) (maxL := 5) (ret := (some .long)) (by decide) rfl ?_
  intro p e s m args below meth cd s₁ B hml hv
  obtain ⟨rfl, hP, hK⟩ := hv
  have hx := B.exec
  have hb := B.bytes
  have hr := B.returns
  have hts : ∀ w ∈ TB, w.before ([.ref (Z 0)] : List Value).toArray s = true := fun w h => atoms_spec (ws := (Ty yL_look cL_look 5 (some .long))) B.pre w (List.mem_cons_of_mem _ h)
  have hown : s.vm.findClass RL = some m.cls := findClass_of_methodNamed B.named
  have hlocks := B.notSynchronized
  have hl := lv_entry ([.ref (Z 0)]) (n := 5) (Nat.le_of_ble_eq_true rfl)
  rw [lg_entry_eq]
  generalize (lg_sl ([.ref (Z 0)]) ++ List.replicate (5 - (lg_sl ([.ref (Z 0)])).length) Slot.unset).toArray = ls at hl ⊢
  have hl : lv_has ls 5 [(0, .ref (Z 0))] := hl
  refine lv_ldc2 (v := (463 : Int64)) hx hb hown (hts _ wcL_RL_9) dL_look_0 ?_
  refine lv_lstore_n (lv' := [(1, .long (463 : Int64)), (0, .ref (Z 0))]) hx hb dL_look_3 rfl hl (by decide) rfl (fun ls hl => ?_)
  refine lv_iconst (v := 0) hx hb dL_look_4 (by decide) ?_
  refine lv_istore_n (lv' := [(3, .int 0), (1, .long (463 : Int64)), (0, .ref (Z 0))]) hx hb dL_look_5 rfl hl (by decide) rfl (fun ls hl => ?_)
  have key_6 : ∀ k i : Nat, i + k = 16 → ∀ (ls : Array Slot), lv_has ls 5 [(0, .ref (Z 0)), (1, .long (pL_look_L6 rt sg pw rd u w h r v tu tw su sw g i)), (3, .int (nI i))] → W p l e (headSpec (Ty yL_look cL_look 5 (some .long)) ({ frames := 6, cells := 0, slots := 0, locals := 137 } : Room)).room s m ([.ref (Z 0)] : List Value).toArray below meth cd s.heap [] 0 0 (MQ below (vp_Sl (fun x => x = (pL_look rt sg pw rd u w h r v tu tw su sw g))) ([.ref (Z 0)] : List Value).toArray s 0 0 (fun _ => False)) (F0 m 6 ls []) := by
    intro k
    induction k with
    | zero =>
      intro i hi ls hl
      obtain rfl : i = 16 := hi
      obtain ⟨z_1, hz_1⟩ : ∃ q, q = (pL_look_L6 rt sg pw rd u w h r v tu tw su sw g 16) := ⟨_, rfl⟩
      rw [← hz_1] at hl
      refine lv_iload_n hx hb dL_look_6 rfl (lv_at hl 2 rfl) ?_
      refine lv_bipush (v := 16) hx hb dL_look_7 (by decide) ?_
      refine lv_icmp_ge (tgt := 55) hx hb dL_look_9 (by decide) (fun c_2 => ?_) (fun c_2 => absurd (le_of (C := 16) (N := 16) (by decide)) c_2)
      refine lv_iconst (v := 0) hx hb dL_look_55 (by decide) ?_
      refine lv_istore_n (lv' := [(3, .int 0), (0, .ref (Z 0)), (1, .long z_1)]) hx hb dL_look_56 rfl hl (by decide) rfl (fun ls hl => ?_)
      have key_57 : ∀ k i : Nat, i + k = 28 → ∀ (ls : Array Slot), lv_has ls 5 [(0, .ref (Z 0)), (1, .long (pL_look_L57 rt sg pw rd u w h r v tu tw su sw g i)), (3, .int (nI i))] → W p l e (headSpec (Ty yL_look cL_look 5 (some .long)) ({ frames := 6, cells := 0, slots := 0, locals := 137 } : Room)).room s m ([.ref (Z 0)] : List Value).toArray below meth cd s.heap [] 0 0 (MQ below (vp_Sl (fun x => x = (pL_look rt sg pw rd u w h r v tu tw su sw g))) ([.ref (Z 0)] : List Value).toArray s 0 0 (fun _ => False)) (F0 m 57 ls []) := by
        intro k
        induction k with
        | zero =>
          intro i hi ls hl
          obtain rfl : i = 28 := hi
          obtain ⟨z_3, hz_3⟩ : ∃ q, q = (pL_look_L57 rt sg pw rd u w h r v tu tw su sw g 28) := ⟨_, rfl⟩
          rw [← hz_3] at hl
          refine lv_iload_n hx hb dL_look_57 rfl (lv_at hl 2 rfl) ?_
          refine lv_bipush (v := 28) hx hb dL_look_58 (by decide) ?_
          refine lv_icmp_ge (tgt := 107) hx hb dL_look_60 (by decide) (fun c_4 => ?_) (fun c_4 => absurd (le_of (C := 28) (N := 28) (by decide)) c_4)
          refine lv_iconst (v := 0) hx hb dL_look_107 (by decide) ?_
          refine lv_istore_n (lv' := [(3, .int 0), (0, .ref (Z 0)), (1, .long z_3)]) hx hb dL_look_108 rfl hl (by decide) rfl (fun ls hl => ?_)
          have key_109 : ∀ k i : Nat, i + k = 4 → ∀ (ls : Array Slot), lv_has ls 5 [(0, .ref (Z 0)), (1, .long (pL_look_L109 rt sg pw rd u w h r v tu tw su sw g i)), (3, .int (nI i))] → W p l e (headSpec (Ty yL_look cL_look 5 (some .long)) ({ frames := 6, cells := 0, slots := 0, locals := 137 } : Room)).room s m ([.ref (Z 0)] : List Value).toArray below meth cd s.heap [] 0 0 (MQ below (vp_Sl (fun x => x = (pL_look rt sg pw rd u w h r v tu tw su sw g))) ([.ref (Z 0)] : List Value).toArray s 0 0 (fun _ => False)) (F0 m 109 ls []) := by
            intro k
            induction k with
            | zero =>
              intro i hi ls hl
              obtain rfl : i = 4 := hi
              obtain ⟨z_5, hz_5⟩ : ∃ q, q = (pL_look_L109 rt sg pw rd u w h r v tu tw su sw g 4) := ⟨_, rfl⟩
              rw [← hz_5] at hl
              refine lv_iload_n hx hb dL_look_109 rfl (lv_at hl 2 rfl) ?_
              refine lv_iconst (v := 4) hx hb dL_look_110 (by decide) ?_
              refine lv_icmp_ge (tgt := 165) hx hb dL_look_111 (by decide) (fun c_6 => ?_) (fun c_6 => absurd (le_of (C := 4) (N := 4) (by decide)) c_6)
              refine lv_lload_n hx hb dL_look_165 rfl (lv_at hl 1 rfl) ?_
              have e9 : z_5 = (pL_look rt sg pw rd u w h r v tu tw su sw g) := by simp only [pL_look, ← hz_1, ← hz_3, ← hz_5]
              exact W.lret (v := z_5) hx hb hr (fun t ht hW => ⟨_, rfl, e9, ht⟩) (fun _ h => absurd h List.not_mem_nil) dL_look_166
            | succ k ih_109 =>
              intro i hi ls hl
              have hlt : i < 4 := by omega
              refine lv_iload_n hx hb dL_look_109 rfl (lv_at hl 2 rfl) ?_
              refine lv_iconst (v := 4) hx hb dL_look_110 (by decide) ?_
              refine lv_icmp_ge (tgt := 165) hx hb dL_look_111 (by decide) (fun c_7 => absurd c_7 (nle_of (C := 4) (N := 4) (by decide) hlt (by decide))) (fun c_7 => ?_)
              refine lv_iconst (v := 0) hx hb dL_look_114 (by decide) ?_
              refine lv_istore (lv' := [(4, .int 0), (0, .ref (Z 0)), (1, .long (pL_look_L109 rt sg pw rd u w h r v tu tw su sw g i)), (3, .int (nI i))]) hx hb dL_look_115 hl (by decide) rfl (fun ls hl => ?_)
              have key_117 : ∀ k i1 : Nat, i1 + k = 4 → ∀ (ls : Array Slot), lv_has ls 5 [(0, .ref (Z 0)), (1, .long (pL_look_L117 rt sg pw rd u w h r v tu tw su sw g i (pL_look_L109 rt sg pw rd u w h r v tu tw su sw g i) i1)), (3, .int (nI i)), (4, .int (nI i1))] → W p l e (headSpec (Ty yL_look cL_look 5 (some .long)) ({ frames := 6, cells := 0, slots := 0, locals := 137 } : Room)).room s m ([.ref (Z 0)] : List Value).toArray below meth cd s.heap [] 0 0 (MQ below (vp_Sl (fun x => x = (pL_look rt sg pw rd u w h r v tu tw su sw g))) ([.ref (Z 0)] : List Value).toArray s 0 0 (fun _ => False)) (F0 m 117 ls []) := by
                intro k
                induction k with
                | zero =>
                  intro i1 hi1 ls hl
                  obtain rfl : i1 = 4 := hi1
                  obtain ⟨z_8, hz_8⟩ : ∃ q, q = (pL_look_L117 rt sg pw rd u w h r v tu tw su sw g i (pL_look_L109 rt sg pw rd u w h r v tu tw su sw g i) 4) := ⟨_, rfl⟩
                  rw [← hz_8] at hl
                  refine lv_iload hx hb dL_look_117 (lv_at hl 3 rfl) ?_
                  refine lv_iconst (v := 4) hx hb dL_look_119 (by decide) ?_
                  refine lv_icmp_ge (tgt := 144) hx hb dL_look_120 (by decide) (fun c_9 => ?_) (fun c_9 => absurd (le_of (C := 4) (N := 4) (by decide)) c_9)
                  refine lv_ldc2 (v := (31 : Int64)) hx hb hown (hts _ wcL_RL_11) dL_look_144 ?_
                  refine lv_lload_n hx hb dL_look_147 rfl (lv_at hl 1 rfl) ?_
                  refine lv_lmul hx hb dL_look_148 ?_
                  refine lv_aload_n hx hb dL_look_149 rfl (lv_at hl 0 rfl) ?_
                  refine lv_iload_n hx hb dL_look_150 rfl (lv_at hl 2 rfl) ?_
                  refine lv_bipush (v := 7) hx hb dL_look_151 (by decide) ?_
                  refine rVB (bl := [wRt Z C TR SN HI Y P R rt, wPd cyC P sg pw, wRd R P rd, wC cyI C u w, wHM cyI cyO HI BB h r v, wC cyI TR tu tw, wC cyI SN su sw, wWy cyI Y g]) (WSb := [wRt Z C TR SN HI Y P R rt, wPd cyC P sg pw, wRd R P rd, wC cyI C u w, wHM cyI cyO HI BB h r v, wC cyI TR tu tw, wC cyI SN su sw, wWy cyI Y g]) (As := [.int (nI i), .int 7]) (rest := [.long ((31 : Int64) * z_8)]) hx hb hml hown hts hl.1 (k_fO l D cyC cyI cyO Z C TR SN HI Y P R BB rt sg pw rd u w h r v tu tw su sw g (nI i) 7 hq) bV_X6_ownerOf wml_RL_32 ⟨rfl, rfl⟩ ⟨Nat.le_of_ble_eq_true rfl, Nat.le_of_ble_eq_true rfl, Nat.zero_le _, Nat.zero_le _⟩ [0, 1, 2, 3, 4, 5, 6, 7] rfl rfl hP hK 0 rfl rfl rfl rfl rfl (Nat.le_of_ble_eq_true rfl) dL_look_153 ?_
                  refine lv_i2l (v := (((fO u w (nI i) 7) : Int32).toInt64)) hx hb dL_look_156 rfl ?_
                  refine lv_ladd hx hb dL_look_157 ?_
                  refine lv_lstore_n (lv' := [(1, .long (((31 : Int64) * z_8) + (((fO u w (nI i) 7) : Int32).toInt64))), (0, .ref (Z 0)), (3, .int (nI i)), (4, .int (nI 4))]) hx hb dL_look_158 rfl hl (by decide) rfl (fun ls hl => ?_)
                  refine lv_iinc (v := (nI (i + 1))) (lv' := [(3, .int (nI (i + 1))), (1, .long (((31 : Int64) * z_8) + (((fO u w (nI i) 7) : Int32).toInt64))), (0, .ref (Z 0)), (4, .int (nI 4))]) hx hb dL_look_159 hl (k := 2) rfl (nI_succ i).symm (by decide) rfl (fun ls hl => ?_)
                  refine lv_goto (tgt := 109) hx hb dL_look_162 (by decide) ?_
                  have e8 : pL_look_L109 rt sg pw rd u w h r v tu tw su sw g (i + 1) = (((31 : Int64) * z_8) + (((fO u w (nI i) 7) : Int32).toInt64)) := by rw [pL_look_L109_s] <;> simp only [← hz_1, ← hz_3, ← hz_8]
                  exact ih_109 (i + 1) (by omega) ls (by rw [e8]; exact lv_sub hl [2, 1, 0] rfl)
                | succ k ih_117 =>
                  intro i1 hi1 ls hl
                  have hlt1 : i1 < 4 := by omega
                  refine lv_iload hx hb dL_look_117 (lv_at hl 3 rfl) ?_
                  refine lv_iconst (v := 4) hx hb dL_look_119 (by decide) ?_
                  refine lv_icmp_ge (tgt := 144) hx hb dL_look_120 (by decide) (fun c_10 => absurd c_10 (nle_of (C := 4) (N := 4) (by decide) hlt1 (by decide))) (fun c_10 => ?_)
                  refine lv_ldc2 (v := (31 : Int64)) hx hb hown (hts _ wcL_RL_11) dL_look_123 ?_
                  refine lv_lload_n hx hb dL_look_126 rfl (lv_at hl 1 rfl) ?_
                  refine lv_lmul hx hb dL_look_127 ?_
                  refine lv_aload_n hx hb dL_look_128 rfl (lv_at hl 0 rfl) ?_
                  refine lv_iload_n hx hb dL_look_129 rfl (lv_at hl 2 rfl) ?_
                  refine lv_iload hx hb dL_look_130 (lv_at hl 3 rfl) ?_
                  refine rVB (bl := [wRt Z C TR SN HI Y P R rt, wPd cyC P sg pw, wRd R P rd, wC cyI C u w, wHM cyI cyO HI BB h r v, wC cyI TR tu tw, wC cyI SN su sw, wWy cyI Y g]) (WSb := [wRt Z C TR SN HI Y P R rt, wPd cyC P sg pw, wRd R P rd, wC cyI C u w, wHM cyI cyO HI BB h r v, wC cyI TR tu tw, wC cyI SN su sw, wWy cyI Y g]) (As := [.int (nI i), .int (nI i1)]) (rest := [.long ((31 : Int64) * (pL_look_L117 rt sg pw rd u w h r v tu tw su sw g i (pL_look_L109 rt sg pw rd u w h r v tu tw su sw g i) i1))]) hx hb hml hown hts hl.1 (k_fO l D cyC cyI cyO Z C TR SN HI Y P R BB rt sg pw rd u w h r v tu tw su sw g (nI i) (nI i1) hq) bV_X6_ownerOf wml_RL_32 ⟨rfl, rfl⟩ ⟨Nat.le_of_ble_eq_true rfl, Nat.le_of_ble_eq_true rfl, Nat.zero_le _, Nat.zero_le _⟩ [0, 1, 2, 3, 4, 5, 6, 7] rfl rfl hP hK 0 rfl rfl rfl rfl rfl (Nat.le_of_ble_eq_true rfl) dL_look_132 ?_
                  refine lv_i2l (v := (((fO u w (nI i) (nI i1)) : Int32).toInt64)) hx hb dL_look_135 rfl ?_
                  refine lv_ladd hx hb dL_look_136 ?_
                  refine lv_lstore_n (lv' := [(1, .long (((31 : Int64) * (pL_look_L117 rt sg pw rd u w h r v tu tw su sw g i (pL_look_L109 rt sg pw rd u w h r v tu tw su sw g i) i1)) + (((fO u w (nI i) (nI i1)) : Int32).toInt64))), (0, .ref (Z 0)), (3, .int (nI i)), (4, .int (nI i1))]) hx hb dL_look_137 rfl hl (by decide) rfl (fun ls hl => ?_)
                  refine lv_iinc (v := (nI (i1 + 1))) (lv' := [(4, .int (nI (i1 + 1))), (1, .long (((31 : Int64) * (pL_look_L117 rt sg pw rd u w h r v tu tw su sw g i (pL_look_L109 rt sg pw rd u w h r v tu tw su sw g i) i1)) + (((fO u w (nI i) (nI i1)) : Int32).toInt64))), (0, .ref (Z 0)), (3, .int (nI i))]) hx hb dL_look_138 hl (k := 3) rfl (nI_succ i1).symm (by decide) rfl (fun ls hl => ?_)
                  refine lv_goto (tgt := 117) hx hb dL_look_141 (by decide) ?_
                  have e8 : pL_look_L117 rt sg pw rd u w h r v tu tw su sw g i (pL_look_L109 rt sg pw rd u w h r v tu tw su sw g i) (i1 + 1) = (((31 : Int64) * (pL_look_L117 rt sg pw rd u w h r v tu tw su sw g i (pL_look_L109 rt sg pw rd u w h r v tu tw su sw g i) i1)) + (((fO u w (nI i) (nI i1)) : Int32).toInt64)) := by rw [pL_look_L117_s] <;> simp only [← hz_1, ← hz_3]
                  exact ih_117 (i1 + 1) (by omega) ls (by rw [e8]; exact lv_sub hl [2, 1, 3, 0] rfl)
              exact key_117 4 0 (Nat.zero_add 4) ls (lv_sub hl [1, 2, 3, 0] rfl)
          have e7 : pL_look_L109 rt sg pw rd u w h r v tu tw su sw g 0 = z_3 := by rw [pL_look_L109_0]; simp only [← hz_1, ← hz_3]
          exact key_109 4 0 (Nat.zero_add 4) ls (by rw [e7]; exact lv_sub hl [1, 2, 0] rfl)
        | succ k ih_57 =>
          intro i hi ls hl
          have hlt : i < 28 := by omega
          refine lv_iload_n hx hb dL_look_57 rfl (lv_at hl 2 rfl) ?_
          refine lv_bipush (v := 28) hx hb dL_look_58 (by decide) ?_
          refine lv_icmp_ge (tgt := 107) hx hb dL_look_60 (by decide) (fun c_11 => absurd c_11 (nle_of (C := 28) (N := 28) (by decide) hlt (by decide))) (fun c_11 => ?_)
          refine lv_iconst (v := 0) hx hb dL_look_63 (by decide) ?_
          refine lv_istore (lv' := [(4, .int 0), (0, .ref (Z 0)), (1, .long (pL_look_L57 rt sg pw rd u w h r v tu tw su sw g i)), (3, .int (nI i))]) hx hb dL_look_64 hl (by decide) rfl (fun ls hl => ?_)
          by_cases c_12 : (pL_bridge (nI i)) = 0
          · refine lv_iload hx hb dL_look_66 (lv_at hl 0 rfl) ?_
            refine lv_bipush (v := 6) hx hb dL_look_68 (by decide) ?_
            refine lv_icmp_ge (tgt := 101) hx hb dL_look_70 (by decide) (fun c_13 => absurd c_13 (by decide)) (fun c_13 => ?_)
            refine lv_iload_n hx hb dL_look_73 rfl (lv_at hl 3 rfl) ?_
            refine rS (As := [.int (nI i)]) (rest := []) hx hb hml hown hts hl.1 (kL_bridge l D cyC cyI cyO (nI i)) bS_L_bridge  wml_RL_23 ⟨rfl, rfl⟩ ⟨Nat.le_of_ble_eq_true rfl, Nat.le_of_ble_eq_true rfl, Nat.zero_le _, Nat.zero_le _⟩ [] rfl hP hK rfl rfl (Nat.le_of_ble_eq_true rfl) dL_look_74 ?_
            refine lv_if_eq (tgt := 101) hx hb dL_look_77 (by decide) (fun c_14 => ?_) (fun c_14 => absurd c_12 c_14)
            refine lv_iinc (v := (nI (i + 1))) (lv' := [(3, .int (nI (i + 1))), (4, .int 0), (0, .ref (Z 0)), (1, .long (pL_look_L57 rt sg pw rd u w h r v tu tw su sw g i))]) hx hb dL_look_101 hl (k := 3) rfl (nI_succ i).symm (by decide) rfl (fun ls hl => ?_)
            refine lv_goto (tgt := 57) hx hb dL_look_104 (by decide) ?_
            have e8 : pL_look_L57 rt sg pw rd u w h r v tu tw su sw g (i + 1) = (pL_look_L57 rt sg pw rd u w h r v tu tw su sw g i) := by rw [pL_look_L57_s] <;> simp only [← hz_1, if_pos c_12]
            exact ih_57 (i + 1) (by omega) ls (by rw [e8]; exact lv_sub hl [2, 3, 0] rfl)
          · have key_66 : ∀ k i1 : Nat, i1 + k = 6 → ∀ (ls : Array Slot), lv_has ls 5 [(0, .ref (Z 0)), (1, .long (pL_look_L66 rt sg pw rd u w h r v tu tw su sw g i (pL_look_L57 rt sg pw rd u w h r v tu tw su sw g i) i1)), (3, .int (nI i)), (4, .int (nI i1))] → W p l e (headSpec (Ty yL_look cL_look 5 (some .long)) ({ frames := 6, cells := 0, slots := 0, locals := 137 } : Room)).room s m ([.ref (Z 0)] : List Value).toArray below meth cd s.heap [] 0 0 (MQ below (vp_Sl (fun x => x = (pL_look rt sg pw rd u w h r v tu tw su sw g))) ([.ref (Z 0)] : List Value).toArray s 0 0 (fun _ => False)) (F0 m 66 ls []) := by
              intro k
              induction k with
              | zero =>
                intro i1 hi1 ls hl
                obtain rfl : i1 = 6 := hi1
                obtain ⟨z_15, hz_15⟩ : ∃ q, q = (pL_look_L66 rt sg pw rd u w h r v tu tw su sw g i (pL_look_L57 rt sg pw rd u w h r v tu tw su sw g i) 6) := ⟨_, rfl⟩
                rw [← hz_15] at hl
                refine lv_iload hx hb dL_look_66 (lv_at hl 3 rfl) ?_
                refine lv_bipush (v := 6) hx hb dL_look_68 (by decide) ?_
                refine lv_icmp_ge (tgt := 101) hx hb dL_look_70 (by decide) (fun c_16 => ?_) (fun c_16 => absurd (le_of (C := 6) (N := 6) (by decide)) c_16)
                refine lv_iinc (v := (nI (i + 1))) (lv' := [(3, .int (nI (i + 1))), (0, .ref (Z 0)), (1, .long z_15), (4, .int (nI 6))]) hx hb dL_look_101 hl (k := 2) rfl (nI_succ i).symm (by decide) rfl (fun ls hl => ?_)
                refine lv_goto (tgt := 57) hx hb dL_look_104 (by decide) ?_
                have e8 : pL_look_L57 rt sg pw rd u w h r v tu tw su sw g (i + 1) = z_15 := by rw [pL_look_L57_s] <;> simp only [← hz_1, ← hz_15, if_neg c_12]
                exact ih_57 (i + 1) (by omega) ls (by rw [e8]; exact lv_sub hl [1, 2, 0] rfl)
              | succ k ih_66 =>
                intro i1 hi1 ls hl
                have hlt1 : i1 < 6 := by omega
                refine lv_iload hx hb dL_look_66 (lv_at hl 3 rfl) ?_
                refine lv_bipush (v := 6) hx hb dL_look_68 (by decide) ?_
                refine lv_icmp_ge (tgt := 101) hx hb dL_look_70 (by decide) (fun c_17 => absurd c_17 (nle_of (C := 6) (N := 6) (by decide) hlt1 (by decide))) (fun c_17 => ?_)
                refine lv_iload_n hx hb dL_look_73 rfl (lv_at hl 2 rfl) ?_
                refine rS (As := [.int (nI i)]) (rest := []) hx hb hml hown hts hl.1 (kL_bridge l D cyC cyI cyO (nI i)) bS_L_bridge  wml_RL_23 ⟨rfl, rfl⟩ ⟨Nat.le_of_ble_eq_true rfl, Nat.le_of_ble_eq_true rfl, Nat.zero_le _, Nat.zero_le _⟩ [] rfl hP hK rfl rfl (Nat.le_of_ble_eq_true rfl) dL_look_74 ?_
                refine lv_if_eq (tgt := 101) hx hb dL_look_77 (by decide) (fun c_18 => absurd c_18 c_12) (fun c_18 => ?_)
                refine lv_ldc2 (v := (31 : Int64)) hx hb hown (hts _ wcL_RL_11) dL_look_80 ?_
                refine lv_lload_n hx hb dL_look_83 rfl (lv_at hl 1 rfl) ?_
                refine lv_lmul hx hb dL_look_84 ?_
                refine lv_aload_n hx hb dL_look_85 rfl (lv_at hl 0 rfl) ?_
                refine lv_iload_n hx hb dL_look_86 rfl (lv_at hl 2 rfl) ?_
                refine lv_iload hx hb dL_look_87 (lv_at hl 3 rfl) ?_
                refine rVB (bl := [wRt Z C TR SN HI Y P R rt, wPd cyC P sg pw, wRd R P rd, wC cyI C u w, wHM cyI cyO HI BB h r v, wC cyI TR tu tw, wC cyI SN su sw, wWy cyI Y g]) (WSb := [wRt Z C TR SN HI Y P R rt, wPd cyC P sg pw, wRd R P rd, wC cyI C u w, wHM cyI cyO HI BB h r v, wC cyI TR tu tw, wC cyI SN su sw, wWy cyI Y g]) (As := [.int (nI i), .int (nI i1)]) (rest := [.long ((31 : Int64) * (pL_look_L66 rt sg pw rd u w h r v tu tw su sw g i (pL_look_L57 rt sg pw rd u w h r v tu tw su sw g i) i1))]) hx hb hml hown hts hl.1 (k_fG l D cyC cyI cyO Z C TR SN HI Y P R BB rt sg pw rd u w h r v tu tw su sw g (nI i) (nI i1) hq) bV_X6_gangway wml_RL_29 ⟨rfl, rfl⟩ ⟨Nat.le_of_ble_eq_true rfl, Nat.le_of_ble_eq_true rfl, Nat.zero_le _, Nat.zero_le _⟩ [0, 1, 2, 3, 4, 5, 6, 7] rfl rfl hP hK 0 rfl rfl rfl rfl rfl (Nat.le_of_ble_eq_true rfl) dL_look_89 ?_
                refine lv_i2l (v := (((fG u w (nI i) (nI i1)) : Int32).toInt64)) hx hb dL_look_92 rfl ?_
                refine lv_ladd hx hb dL_look_93 ?_
                refine lv_lstore_n (lv' := [(1, .long (((31 : Int64) * (pL_look_L66 rt sg pw rd u w h r v tu tw su sw g i (pL_look_L57 rt sg pw rd u w h r v tu tw su sw g i) i1)) + (((fG u w (nI i) (nI i1)) : Int32).toInt64))), (0, .ref (Z 0)), (3, .int (nI i)), (4, .int (nI i1))]) hx hb dL_look_94 rfl hl (by decide) rfl (fun ls hl => ?_)
                refine lv_iinc (v := (nI (i1 + 1))) (lv' := [(4, .int (nI (i1 + 1))), (1, .long (((31 : Int64) * (pL_look_L66 rt sg pw rd u w h r v tu tw su sw g i (pL_look_L57 rt sg pw rd u w h r v tu tw su sw g i) i1)) + (((fG u w (nI i) (nI i1)) : Int32).toInt64))), (0, .ref (Z 0)), (3, .int (nI i))]) hx hb dL_look_95 hl (k := 3) rfl (nI_succ i1).symm (by decide) rfl (fun ls hl => ?_)
                refine lv_goto (tgt := 66) hx hb dL_look_98 (by decide) ?_
                have e8 : pL_look_L66 rt sg pw rd u w h r v tu tw su sw g i (pL_look_L57 rt sg pw rd u w h r v tu tw su sw g i) (i1 + 1) = (((31 : Int64) * (pL_look_L66 rt sg pw rd u w h r v tu tw su sw g i (pL_look_L57 rt sg pw rd u w h r v tu tw su sw g i) i1)) + (((fG u w (nI i) (nI i1)) : Int32).toInt64)) := by rw [pL_look_L66_s] <;> simp only [← hz_1, if_neg c_12]
                exact ih_66 (i1 + 1) (by omega) ls (by rw [e8]; exact lv_sub hl [2, 1, 3, 0] rfl)
            exact key_66 6 0 (Nat.zero_add 6) ls (lv_sub hl [1, 2, 3, 0] rfl)
      have e7 : pL_look_L57 rt sg pw rd u w h r v tu tw su sw g 0 = z_1 := by rw [pL_look_L57_0]; simp only [← hz_1]
      exact key_57 28 0 (Nat.zero_add 28) ls (by rw [e7]; exact lv_sub hl [1, 2, 0] rfl)
    | succ k ih_6 =>
      intro i hi ls hl
      have hlt : i < 16 := by omega
      refine lv_iload_n hx hb dL_look_6 rfl (lv_at hl 2 rfl) ?_
      refine lv_bipush (v := 16) hx hb dL_look_7 (by decide) ?_
      refine lv_icmp_ge (tgt := 55) hx hb dL_look_9 (by decide) (fun c_19 => absurd c_19 (nle_of (C := 16) (N := 16) (by decide) hlt (by decide))) (fun c_19 => ?_)
      refine lv_ldc2 (v := (31 : Int64)) hx hb hown (hts _ wcL_RL_11) dL_look_12 ?_
      refine lv_ldc2 (v := (31 : Int64)) hx hb hown (hts _ wcL_RL_11) dL_look_15 ?_
      refine lv_ldc2 (v := (31 : Int64)) hx hb hown (hts _ wcL_RL_11) dL_look_18 ?_
      refine lv_lload_n hx hb dL_look_21 rfl (lv_at hl 1 rfl) ?_
      refine lv_lmul hx hb dL_look_22 ?_
      refine lv_aload_n hx hb dL_look_23 rfl (lv_at hl 0 rfl) ?_
      refine lv_iload_n hx hb dL_look_24 rfl (lv_at hl 2 rfl) ?_
      refine rVB (bl := [wRt Z C TR SN HI Y P R rt, wPd cyC P sg pw, wRd R P rd, wC cyI C u w, wHM cyI cyO HI BB h r v, wC cyI TR tu tw, wC cyI SN su sw, wWy cyI Y g]) (WSb := [wRt Z C TR SN HI Y P R rt, wPd cyC P sg pw, wRd R P rd, wC cyI C u w, wHM cyI cyO HI BB h r v, wC cyI TR tu tw, wC cyI SN su sw, wWy cyI Y g]) (As := [.int (nI i)]) (rest := [.long ((31 : Int64) * (pL_look_L6 rt sg pw rd u w h r v tu tw su sw g i)), .long (31 : Int64), .long (31 : Int64)]) hx hb hml hown hts hl.1 (k_fC l D cyC cyI cyO Z C TR SN HI Y P R BB rt sg pw rd u w h r v tu tw su sw g (nI i) hq (vp_in_nI (Nat.lt_of_lt_of_le hlt (by decide)) (by decide))) bV_X6_count wml_RL_13 ⟨rfl, rfl⟩ ⟨Nat.le_of_ble_eq_true rfl, Nat.le_of_ble_eq_true rfl, Nat.zero_le _, Nat.zero_le _⟩ [0, 1, 2, 3, 4, 5, 6, 7] rfl rfl hP hK 0 rfl rfl rfl rfl rfl (Nat.le_of_ble_eq_true rfl) dL_look_25 ?_
      refine lv_i2l (v := (((fC u w (nI i)) : Int32).toInt64)) hx hb dL_look_28 rfl ?_
      refine lv_ladd hx hb dL_look_29 ?_
      refine lv_lmul hx hb dL_look_30 ?_
      refine lv_aload_n hx hb dL_look_31 rfl (lv_at hl 0 rfl) ?_
      refine lv_iload_n hx hb dL_look_32 rfl (lv_at hl 2 rfl) ?_
      refine lv_iconst (v := 0) hx hb dL_look_33 (by decide) ?_
      refine rVB (bl := [wRt Z C TR SN HI Y P R rt, wPd cyC P sg pw, wRd R P rd, wC cyI C u w, wHM cyI cyO HI BB h r v, wC cyI TR tu tw, wC cyI SN su sw, wWy cyI Y g]) (WSb := [wRt Z C TR SN HI Y P R rt, wPd cyC P sg pw, wRd R P rd, wC cyI C u w, wHM cyI cyO HI BB h r v, wC cyI TR tu tw, wC cyI SN su sw, wWy cyI Y g]) (As := [.int (nI i), .int 0]) (rest := [.long ((31 : Int64) * (((31 : Int64) * (pL_look_L6 rt sg pw rd u w h r v tu tw su sw g i)) + (((fC u w (nI i)) : Int32).toInt64))), .long (31 : Int64)]) hx hb hml hown hts hl.1 (k_fR l D cyC cyI cyO Z C TR SN HI Y P R BB rt sg pw rd u w h r v tu tw su sw g (nI i) 0 hq) bV_X6_roof wml_RL_19 ⟨rfl, rfl⟩ ⟨Nat.le_of_ble_eq_true rfl, Nat.le_of_ble_eq_true rfl, Nat.zero_le _, Nat.zero_le _⟩ [0, 1, 2, 3, 4, 5, 6, 7] rfl rfl hP hK 0 rfl rfl rfl rfl rfl (Nat.le_of_ble_eq_true rfl) dL_look_34 ?_
      refine lv_i2l (v := (((fR u w (nI i) 0) : Int32).toInt64)) hx hb dL_look_37 rfl ?_
      refine lv_ladd hx hb dL_look_38 ?_
      refine lv_lmul hx hb dL_look_39 ?_
      refine lv_aload_n hx hb dL_look_40 rfl (lv_at hl 0 rfl) ?_
      refine lv_iload_n hx hb dL_look_41 rfl (lv_at hl 2 rfl) ?_
      refine lv_iconst (v := 3) hx hb dL_look_42 (by decide) ?_
      refine rVB (bl := [wRt Z C TR SN HI Y P R rt, wPd cyC P sg pw, wRd R P rd, wC cyI C u w, wHM cyI cyO HI BB h r v, wC cyI TR tu tw, wC cyI SN su sw, wWy cyI Y g]) (WSb := [wRt Z C TR SN HI Y P R rt, wPd cyC P sg pw, wRd R P rd, wC cyI C u w, wHM cyI cyO HI BB h r v, wC cyI TR tu tw, wC cyI SN su sw, wWy cyI Y g]) (As := [.int (nI i), .int 3]) (rest := [.long ((31 : Int64) * (((31 : Int64) * (((31 : Int64) * (pL_look_L6 rt sg pw rd u w h r v tu tw su sw g i)) + (((fC u w (nI i)) : Int32).toInt64))) + (((fR u w (nI i) 0) : Int32).toInt64)))]) hx hb hml hown hts hl.1 (k_fR l D cyC cyI cyO Z C TR SN HI Y P R BB rt sg pw rd u w h r v tu tw su sw g (nI i) 3 hq) bV_X6_roof wml_RL_19 ⟨rfl, rfl⟩ ⟨Nat.le_of_ble_eq_true rfl, Nat.le_of_ble_eq_true rfl, Nat.zero_le _, Nat.zero_le _⟩ [0, 1, 2, 3, 4, 5, 6, 7] rfl rfl hP hK 0 rfl rfl rfl rfl rfl (Nat.le_of_ble_eq_true rfl) dL_look_43 ?_
      refine lv_i2l (v := (((fR u w (nI i) 3) : Int32).toInt64)) hx hb dL_look_46 rfl ?_
      refine lv_ladd hx hb dL_look_47 ?_
      refine lv_lstore_n (lv' := [(1, .long (((31 : Int64) * (((31 : Int64) * (((31 : Int64) * (pL_look_L6 rt sg pw rd u w h r v tu tw su sw g i)) + (((fC u w (nI i)) : Int32).toInt64))) + (((fR u w (nI i) 0) : Int32).toInt64))) + (((fR u w (nI i) 3) : Int32).toInt64))), (0, .ref (Z 0)), (3, .int (nI i))]) hx hb dL_look_48 rfl hl (by decide) rfl (fun ls hl => ?_)
      refine lv_iinc (v := (nI (i + 1))) (lv' := [(3, .int (nI (i + 1))), (1, .long (((31 : Int64) * (((31 : Int64) * (((31 : Int64) * (pL_look_L6 rt sg pw rd u w h r v tu tw su sw g i)) + (((fC u w (nI i)) : Int32).toInt64))) + (((fR u w (nI i) 0) : Int32).toInt64))) + (((fR u w (nI i) 3) : Int32).toInt64))), (0, .ref (Z 0))]) hx hb dL_look_49 hl (k := 2) rfl (nI_succ i).symm (by decide) rfl (fun ls hl => ?_)
      refine lv_goto (tgt := 6) hx hb dL_look_52 (by decide) ?_
      have e8 : pL_look_L6 rt sg pw rd u w h r v tu tw su sw g (i + 1) = (((31 : Int64) * (((31 : Int64) * (((31 : Int64) * (pL_look_L6 rt sg pw rd u w h r v tu tw su sw g i)) + (((fC u w (nI i)) : Int32).toInt64))) + (((fR u w (nI i) 0) : Int32).toInt64))) + (((fR u w (nI i) 3) : Int32).toInt64)) := by rw [pL_look_L6_s]
      exact ih_6 (i + 1) (by omega) ls (by rw [e8]; exact lv_sub hl [2, 1, 0] rfl)
  exact key_6 16 0 (Nat.zero_add 16) ls (lv_sub hl [2, 1, 0] rfl)
theorem bS_L_look : BS yL_look cL_look 5 (some .long) 1 := ⟨wcd_L_look, wst_L_look, win_RL, by decide +kernel⟩
