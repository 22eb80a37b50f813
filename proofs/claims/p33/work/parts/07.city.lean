def pX0_hasLine (u : (Nat → Nat → Int32)) (w : (Nat → Int32)) (a1 : Int32) : Int32 := (if ((u 1) (a1).toNatClampNeg) = (-1) then 0 else 1)
set_option maxHeartbeats 4000000 in
set_option maxRecDepth 100000 in
theorem kX0_hasLine (l : Launch) (D : va_G) (cyC cyI cyO : ClassId) (A : Nat → Nat) (u : (Nat → Nat → Int32)) (w : (Nat → Int32)) (a1 : Int32) (h1 : vp_in a1 28) : RO l yX0_hasLine (Ty yX0_hasLine cX0_hasLine 2 (some .boolean)) ({ frames := 0, cells := 0, slots := 0, locals := 0 } : Room) D cyC cyI cyO (wC cyI A u w) [.ref (A 0), .int a1] (pX0_hasLine u w a1) := by
  refine Met.ofW (cc := cX0_hasLine) (maxL := 2) (ret := (some .boolean)) (by decide) rfl ?_
  intro p e s m args below meth cd s₁ B hml hv
  obtain ⟨rfl, hP, hK⟩ := hv
  have hx := B.exec
  have hb := B.bytes
  have hr := B.returns
  have hts : ∀ w ∈ TB, w.before ([.ref (A 0), .int a1] : List Value).toArray s = true := fun w h => atoms_spec (ws := (Ty yX0_hasLine cX0_hasLine 2 (some .boolean))) B.pre w (List.mem_cons_of_mem _ h)
  have hown : s.vm.findClass RX0 = some m.cls := findClass_of_methodNamed B.named
  have hlocks := B.notSynchronized
  have hl := lv_entry ([.ref (A 0), .int a1]) (n := 2) (Nat.le_of_ble_eq_true rfl)
  rw [lg_entry_eq]
  generalize (lg_sl ([.ref (A 0), .int a1]) ++ List.replicate (2 - (lg_sl ([.ref (A 0), .int a1])).length) Slot.unset).toArray = ls at hl ⊢
  have hl : lv_has ls 2 [(0, .ref (A 0)), (1, .int a1)] := hl
  refine lv_aload_n hx hb dX0_hasLine_0 rfl (lv_at hl 0 rfl) ?_
  refine va_get (D := D) (ci := 0) (v := .ref (A 2)) (C := RX0) (T := TX0) (N := 19) hx hb hts inT_X0 hown hK.1 hP 0 rfl rfl 1 (by decide) (hts _ wfl_RX0_15) (fun _ h9 => h9) rfl dX0_hasLine_1 ?_
  refine lv_iload_n hx hb dX0_hasLine_4 rfl (lv_at hl 1 rfl) ?_
  refine va_iald (D := D) (f := (u 1)) hx hb hK.1 hP 2 1 rfl rfl h1 dX0_hasLine_5 ?_
  refine lv_iconst (v := (-1)) hx hb dX0_hasLine_6 (by decide) ?_
  refine lv_icmp_eq (tgt := 14) hx hb dX0_hasLine_7 (by decide) (fun c_1 => ?_) (fun c_1 => ?_)
  · refine lv_iconst (v := 0) hx hb dX0_hasLine_14 (by decide) ?_
    have e9 : 0 = (pX0_hasLine u w a1) := by simp only [pX0_hasLine, if_pos c_1]
    exact W.zret (ty := .boolean) (v := 0) hx hb hr (by rfl) (fun t ht hW => ⟨_, rfl, e9, ht⟩) (fun _ h => absurd h List.not_mem_nil) dX0_hasLine_15
  · refine lv_iconst (v := 1) hx hb dX0_hasLine_10 (by decide) ?_
    refine lv_goto (tgt := 15) hx hb dX0_hasLine_11 (by decide) ?_
    have e9 : 1 = (pX0_hasLine u w a1) := by simp only [pX0_hasLine, if_neg c_1]
    exact W.zret (ty := .boolean) (v := 1) hx hb hr (by rfl) (fun t ht hW => ⟨_, rfl, e9, ht⟩) (fun _ h => absurd h List.not_mem_nil) dX0_hasLine_15
theorem z_X0_hasLine (u : (Nat → Nat → Int32)) (w : (Nat → Int32)) (a1 : Int32) : (pX0_hasLine u w a1) = 0 ∨ (pX0_hasLine u w a1) = 1 := by
  unfold pX0_hasLine
  (repeat' split) <;> first | with_reducible exact Or.inl rfl | with_reducible exact Or.inr rfl
theorem bV_X0_hasLine : BV RX0 yX0_hasLine cX0_hasLine 2 (some .boolean) 1 := ⟨wcd_X0_hasLine, wim_X0_hasLine, wse_X0_hasLine, win_RX0, by decide +kernel⟩
def pX0_isThere (u : (Nat → Nat → Int32)) (w : (Nat → Int32)) (a1 : Int32) : Int32 := (if ((u 0) (a1).toNatClampNeg) ≤ 0 then 0 else 1)
set_option maxHeartbeats 4000000 in
set_option maxRecDepth 100000 in
theorem kX0_isThere (l : Launch) (D : va_G) (cyC cyI cyO : ClassId) (A : Nat → Nat) (u : (Nat → Nat → Int32)) (w : (Nat → Int32)) (a1 : Int32) (h1 : vp_in a1 28) : RO l yX0_isThere (Ty yX0_isThere cX0_isThere 2 (some .boolean)) ({ frames := 0, cells := 0, slots := 0, locals := 0 } : Room) D cyC cyI cyO (wC cyI A u w) [.ref (A 0), .int a1] (pX0_isThere u w a1) := by
  refine Met.ofW (cc := cX0_isThere) (maxL := 2) (ret := (some .boolean)) (by decide) rfl ?_
  intro p e s m args below meth cd s₁ B hml hv
  obtain ⟨rfl, hP, hK⟩ := hv
  have hx := B.exec
  have hb := B.bytes
  have hr := B.returns
  have hts : ∀ w ∈ TB, w.before ([.ref (A 0), .int a1] : List Value).toArray s = true := fun w h => atoms_spec (ws := (Ty yX0_isThere cX0_isThere 2 (some .boolean))) B.pre w (List.mem_cons_of_mem _ h)
  have hown : s.vm.findClass RX0 = some m.cls := findClass_of_methodNamed B.named
  have hlocks := B.notSynchronized
  have hl := lv_entry ([.ref (A 0), .int a1]) (n := 2) (Nat.le_of_ble_eq_true rfl)
  rw [lg_entry_eq]
  generalize (lg_sl ([.ref (A 0), .int a1]) ++ List.replicate (2 - (lg_sl ([.ref (A 0), .int a1])).length) Slot.unset).toArray = ls at hl ⊢
  have hl : lv_has ls 2 [(0, .ref (A 0)), (1, .int a1)] := hl
  refine lv_aload_n hx hb dX0_isThere_0 rfl (lv_at hl 0 rfl) ?_
  refine va_get (D := D) (ci := 0) (v := .ref (A 1)) (C := RX0) (T := TX0) (N := 19) hx hb hts inT_X0 hown hK.1 hP 0 rfl rfl 0 (by decide) (hts _ wfl_RX0_9) (fun _ h9 => h9) rfl dX0_isThere_1 ?_
  refine lv_iload_n hx hb dX0_isThere_4 rfl (lv_at hl 1 rfl) ?_
  refine va_iald (D := D) (f := (u 0)) hx hb hK.1 hP 1 1 rfl rfl h1 dX0_isThere_5 ?_
  refine lv_if_le (tgt := 13) hx hb dX0_isThere_6 (by decide) (fun c_1 => ?_) (fun c_1 => ?_)
  · refine lv_iconst (v := 0) hx hb dX0_isThere_13 (by decide) ?_
    have e9 : 0 = (pX0_isThere u w a1) := by simp only [pX0_isThere, if_pos c_1]
    exact W.zret (ty := .boolean) (v := 0) hx hb hr (by rfl) (fun t ht hW => ⟨_, rfl, e9, ht⟩) (fun _ h => absurd h List.not_mem_nil) dX0_isThere_14
  · refine lv_iconst (v := 1) hx hb dX0_isThere_9 (by decide) ?_
    refine lv_goto (tgt := 14) hx hb dX0_isThere_10 (by decide) ?_
    have e9 : 1 = (pX0_isThere u w a1) := by simp only [pX0_isThere, if_neg c_1]
    exact W.zret (ty := .boolean) (v := 1) hx hb hr (by rfl) (fun t ht hW => ⟨_, rfl, e9, ht⟩) (fun _ h => absurd h List.not_mem_nil) dX0_isThere_14
theorem z_X0_isThere (u : (Nat → Nat → Int32)) (w : (Nat → Int32)) (a1 : Int32) : (pX0_isThere u w a1) = 0 ∨ (pX0_isThere u w a1) = 1 := by
  unfold pX0_isThere
  (repeat' split) <;> first | with_reducible exact Or.inl rfl | with_reducible exact Or.inr rfl
theorem bV_X0_isThere : BV RX0 yX0_isThere cX0_isThere 2 (some .boolean) 1 := ⟨wcd_X0_isThere, wim_X0_isThere, wse_X0_isThere, win_RX0, by decide +kernel⟩
def pX0_smokeBlown_L4 (u : (Nat → Nat → Int32)) (w : (Nat → Int32)) (a1 : Int32) : Nat → Int32 := fo (fun i x_i => (if (pX6_isIn (w 9) (nI i)) = 0 then x_i else (x_i ||| (pX4_roofAndNext (nI i) a1 (w 12))))) 0
theorem pX0_smokeBlown_L4_s (u : (Nat → Nat → Int32)) (w : (Nat → Int32)) (a1 : Int32) (i : Nat) : pX0_smokeBlown_L4 u w a1 (i + 1) = (if (pX6_isIn (w 9) (nI i)) = 0 then (pX0_smokeBlown_L4 u w a1 i) else ((pX0_smokeBlown_L4 u w a1 i) ||| (pX4_roofAndNext (nI i) a1 (w 12)))) := rfl
theorem pX0_smokeBlown_L4_0 (u : (Nat → Nat → Int32)) (w : (Nat → Int32)) (a1 : Int32) : pX0_smokeBlown_L4 u w a1 0 = 0 := rfl
def pX0_smokeBlown (u : (Nat → Nat → Int32)) (w : (Nat → Int32)) (a1 : Int32) : Int32 := (pX0_smokeBlown_L4 u w a1 16)
set_option maxHeartbeats 4000000 in
set_option maxRecDepth 100000 in
theorem kX0_smokeBlown (l : Launch) (D : va_G) (cyC cyI cyO : ClassId) (A : Nat → Nat) (u : (Nat → Nat → Int32)) (w : (Nat → Int32)) (a1 : Int32) (hq : (w 12) < 4) : RO l yX0_smokeBlown (Ty yX0_smokeBlown cX0_smokeBlown 4 (some .int)) ({ frames := 2, cells := 0, slots := 0, locals := 46 } : Room) D cyC cyI cyO (wC cyI A u w) [.ref (A 0), .int a1] (pX0_smokeBlown u w a1) := by
  refine Met.ofW (cc := cX0_smokeBlown) (maxL := 4) (ret := (some .int)) (by decide) rfl ?_
  intro p e s m args below meth cd s₁ B hml hv
  obtain ⟨rfl, hP, hK⟩ := hv
  have hx := B.exec
  have hb := B.bytes
  have hr := B.returns
  have hts : ∀ w ∈ TB, w.before ([.ref (A 0), .int a1] : List Value).toArray s = true := fun w h => atoms_spec (ws := (Ty yX0_smokeBlown cX0_smokeBlown 4 (some .int))) B.pre w (List.mem_cons_of_mem _ h)
  have hown : s.vm.findClass RX0 = some m.cls := findClass_of_methodNamed B.named
  have hlocks := B.notSynchronized
  have hl := lv_entry ([.ref (A 0), .int a1]) (n := 4) (Nat.le_of_ble_eq_true rfl)
  rw [lg_entry_eq]
  generalize (lg_sl ([.ref (A 0), .int a1]) ++ List.replicate (4 - (lg_sl ([.ref (A 0), .int a1])).length) Slot.unset).toArray = ls at hl ⊢
  have hl : lv_has ls 4 [(0, .ref (A 0)), (1, .int a1)] := hl
  refine lv_iconst (v := 0) hx hb dX0_smokeBlown_0 (by decide) ?_
  refine lv_istore_n (lv' := [(2, .int 0), (0, .ref (A 0)), (1, .int a1)]) hx hb dX0_smokeBlown_1 rfl hl (by decide) rfl (fun ls hl => ?_)
  refine lv_iconst (v := 0) hx hb dX0_smokeBlown_2 (by decide) ?_
  refine lv_istore_n (lv' := [(3, .int 0), (2, .int 0), (0, .ref (A 0)), (1, .int a1)]) hx hb dX0_smokeBlown_3 rfl hl (by decide) rfl (fun ls hl => ?_)
  have key_4 : ∀ k i : Nat, i + k = 16 → ∀ (ls : Array Slot), lv_has ls 4 [(0, .ref (A 0)), (1, .int a1), (2, .int (pX0_smokeBlown_L4 u w a1 i)), (3, .int (nI i))] → W p l e (headSpec (Ty yX0_smokeBlown cX0_smokeBlown 4 (some .int)) ({ frames := 2, cells := 0, slots := 0, locals := 46 } : Room)).room s m ([.ref (A 0), .int a1] : List Value).toArray below meth cd s.heap [] 0 0 (MQ below (vp_Si (fun x => x = (pX0_smokeBlown u w a1))) ([.ref (A 0), .int a1] : List Value).toArray s 0 0 (fun _ => False)) (F0 m 4 ls []) := by
    intro k
    induction k with
    | zero =>
      intro i hi ls hl
      obtain rfl : i = 16 := hi
      obtain ⟨z_1, hz_1⟩ : ∃ q, q = (pX0_smokeBlown_L4 u w a1 16) := ⟨_, rfl⟩
      rw [← hz_1] at hl
      refine lv_iload_n hx hb dX0_smokeBlown_4 rfl (lv_at hl 3 rfl) ?_
      refine lv_bipush (v := 16) hx hb dX0_smokeBlown_5 (by decide) ?_
      refine lv_icmp_ge (tgt := 39) hx hb dX0_smokeBlown_7 (by decide) (fun c_2 => ?_) (fun c_2 => absurd (le_of (C := 16) (N := 16) (by decide)) c_2)
      refine lv_iload_n hx hb dX0_smokeBlown_39 rfl (lv_at hl 2 rfl) ?_
      have e9 : z_1 = (pX0_smokeBlown u w a1) := by simp only [pX0_smokeBlown, ← hz_1]
      exact W.iret (v := z_1) hx hb hr (fun t ht hW => ⟨_, rfl, e9, ht⟩) (fun _ h => absurd h List.not_mem_nil) dX0_smokeBlown_40
    | succ k ih_4 =>
      intro i hi ls hl
      have hlt : i < 16 := by omega
      refine lv_iload_n hx hb dX0_smokeBlown_4 rfl (lv_at hl 3 rfl) ?_
      refine lv_bipush (v := 16) hx hb dX0_smokeBlown_5 (by decide) ?_
      refine lv_icmp_ge (tgt := 39) hx hb dX0_smokeBlown_7 (by decide) (fun c_3 => absurd c_3 (nle_of (C := 16) (N := 16) (by decide) hlt (by decide))) (fun c_3 => ?_)
      refine lv_aload_n hx hb dX0_smokeBlown_10 rfl (lv_at hl 0 rfl) ?_
      refine va_get (D := D) (ci := 0) (v := .int (w 9)) (C := RX0) (T := TX0) (N := 19) hx hb hts inT_X0 hown hK.1 hP 0 rfl rfl 9 (by decide) (hts _ wfl_RX0_68) (fun _ h9 => h9) rfl dX0_smokeBlown_11 ?_
      refine lv_iload_n hx hb dX0_smokeBlown_14 rfl (lv_at hl 3 rfl) ?_
      refine rN (As := [.int (w 9), .int (nI i)]) (rest := []) hx hb hml hown hts hl.1 (kX6_isIn l D cyC cyI cyO (w 9) (nI i)) bS_X6_isIn  hK.2.1 ⟨rfl, rfl⟩ ⟨Nat.le_of_ble_eq_true rfl, Nat.le_of_ble_eq_true rfl, Nat.zero_le _, Nat.zero_le _⟩ [] rfl hP hK rfl rfl (Nat.le_of_ble_eq_true rfl) dX0_smokeBlown_15 ?_
      refine lv_if_eq (tgt := 33) hx hb dX0_smokeBlown_18 (by decide) (fun c_4 => ?_) (fun c_4 => ?_)
      · refine lv_iinc (v := (nI (i + 1))) (lv' := [(3, .int (nI (i + 1))), (0, .ref (A 0)), (1, .int a1), (2, .int (pX0_smokeBlown_L4 u w a1 i))]) hx hb dX0_smokeBlown_33 hl (k := 3) rfl (nI_succ i).symm (by decide) rfl (fun ls hl => ?_)
        refine lv_goto (tgt := 4) hx hb dX0_smokeBlown_36 (by decide) ?_
        have e8 : pX0_smokeBlown_L4 u w a1 (i + 1) = (pX0_smokeBlown_L4 u w a1 i) := by rw [pX0_smokeBlown_L4_s] <;> simp only [if_pos c_4]
        exact ih_4 (i + 1) (by omega) ls (by rw [e8]; exact lv_sub hl [1, 2, 3, 0] rfl)
      · refine lv_iload_n hx hb dX0_smokeBlown_21 rfl (lv_at hl 2 rfl) ?_
        refine lv_iload_n hx hb dX0_smokeBlown_22 rfl (lv_at hl 3 rfl) ?_
        refine lv_iload_n hx hb dX0_smokeBlown_23 rfl (lv_at hl 1 rfl) ?_
        refine lv_aload_n hx hb dX0_smokeBlown_24 rfl (lv_at hl 0 rfl) ?_
        refine va_get (D := D) (ci := 0) (v := .int (w 12)) (C := RX0) (T := TX0) (N := 19) hx hb hts inT_X0 hown hK.1 hP 0 rfl rfl 12 (by decide) (hts _ wfl_RX0_40) (fun _ h9 => h9) rfl dX0_smokeBlown_25 ?_
        refine rS (As := [.int (nI i), .int a1, .int (w 12)]) (rest := [.int (pX0_smokeBlown_L4 u w a1 i)]) hx hb hml hown hts hl.1 (kX4_roofAndNext l D cyC cyI cyO (nI i) a1 (w 12) hq) bS_X4_roofAndNext  wml_RX0_96 ⟨rfl, rfl⟩ ⟨Nat.le_of_ble_eq_true rfl, Nat.le_of_ble_eq_true rfl, Nat.zero_le _, Nat.zero_le _⟩ [] rfl hP hK rfl rfl (Nat.le_of_ble_eq_true rfl) dX0_smokeBlown_28 ?_
        refine lv_ior hx hb dX0_smokeBlown_31 ?_
        refine lv_istore_n (lv' := [(2, .int ((pX0_smokeBlown_L4 u w a1 i) ||| (pX4_roofAndNext (nI i) a1 (w 12)))), (0, .ref (A 0)), (1, .int a1), (3, .int (nI i))]) hx hb dX0_smokeBlown_32 rfl hl (by decide) rfl (fun ls hl => ?_)
        refine lv_iinc (v := (nI (i + 1))) (lv' := [(3, .int (nI (i + 1))), (2, .int ((pX0_smokeBlown_L4 u w a1 i) ||| (pX4_roofAndNext (nI i) a1 (w 12)))), (0, .ref (A 0)), (1, .int a1)]) hx hb dX0_smokeBlown_33 hl (k := 3) rfl (nI_succ i).symm (by decide) rfl (fun ls hl => ?_)
        refine lv_goto (tgt := 4) hx hb dX0_smokeBlown_36 (by decide) ?_
        have e8 : pX0_smokeBlown_L4 u w a1 (i + 1) = ((pX0_smokeBlown_L4 u w a1 i) ||| (pX4_roofAndNext (nI i) a1 (w 12))) := by rw [pX0_smokeBlown_L4_s] <;> simp only [if_neg c_4]
        exact ih_4 (i + 1) (by omega) ls (by rw [e8]; exact lv_sub hl [2, 3, 1, 0] rfl)
  exact key_4 16 0 (Nat.zero_add 16) ls (lv_sub hl [2, 3, 1, 0] rfl)
theorem bV_X0_smokeBlown : BV RX0 yX0_smokeBlown cX0_smokeBlown 4 (some .int) 1 := ⟨wcd_X0_smokeBlown, wim_X0_smokeBlown, wse_X0_smokeBlown, win_RX0, by decide +kernel⟩
def pX0_chimneysSmoking_L4 (u : (Nat → Nat → Int32)) (w : (Nat → Int32)) (a1 : Int32) : Nat → Int32 := fo (fun i x_i => (if (pX6_isIn (w 9) (nI i)) = 0 then x_i else (if (pX6_isIn (pX4_roofAndNext (nI i) (w 11) (w 12)) a1) = 0 then x_i else (x_i + (1 : Int32))))) 0
theorem pX0_chimneysSmoking_L4_s (u : (Nat → Nat → Int32)) (w : (Nat → Int32)) (a1 : Int32) (i : Nat) : pX0_chimneysSmoking_L4 u w a1 (i + 1) = (if (pX6_isIn (w 9) (nI i)) = 0 then (pX0_chimneysSmoking_L4 u w a1 i) else (if (pX6_isIn (pX4_roofAndNext (nI i) (w 11) (w 12)) a1) = 0 then (pX0_chimneysSmoking_L4 u w a1 i) else ((pX0_chimneysSmoking_L4 u w a1 i) + (1 : Int32)))) := rfl
theorem pX0_chimneysSmoking_L4_0 (u : (Nat → Nat → Int32)) (w : (Nat → Int32)) (a1 : Int32) : pX0_chimneysSmoking_L4 u w a1 0 = 0 := rfl
def pX0_chimneysSmoking (u : (Nat → Nat → Int32)) (w : (Nat → Int32)) (a1 : Int32) : Int32 := (pX0_chimneysSmoking_L4 u w a1 16)
set_option maxHeartbeats 4000000 in
set_option maxRecDepth 100000 in
theorem kX0_chimneysSmoking (l : Launch) (D : va_G) (cyC cyI cyO : ClassId) (A : Nat → Nat) (u : (Nat → Nat → Int32)) (w : (Nat → Int32)) (a1 : Int32) (hq : (w 12) < 4) : RO l yX0_chimneysSmoking (Ty yX0_chimneysSmoking cX0_chimneysSmoking 4 (some .int)) ({ frames := 2, cells := 0, slots := 0, locals := 46 } : Room) D cyC cyI cyO (wC cyI A u w) [.ref (A 0), .int a1] (pX0_chimneysSmoking u w a1) := by
  refine Met.ofW (cc := cX0_chimneysSmoking) (maxL := 4) (ret := (some .int)) (by decide) rfl ?_
  intro p e s m args below meth cd s₁ B hml hv
  obtain ⟨rfl, hP, hK⟩ := hv
  have hx := B.exec
  have hb := B.bytes
  have hr := B.returns
  have hts : ∀ w ∈ TB, w.before ([.ref (A 0), .int a1] : List Value).toArray s = true := fun w h => atoms_spec (ws := (Ty yX0_chimneysSmoking cX0_chimneysSmoking 4 (some .int))) B.pre w (List.mem_cons_of_mem _ h)
  have hown : s.vm.findClass RX0 = some m.cls := findClass_of_methodNamed B.named
  have hlocks := B.notSynchronized
  have hl := lv_entry ([.ref (A 0), .int a1]) (n := 4) (Nat.le_of_ble_eq_true rfl)
  rw [lg_entry_eq]
  generalize (lg_sl ([.ref (A 0), .int a1]) ++ List.replicate (4 - (lg_sl ([.ref (A 0), .int a1])).length) Slot.unset).toArray = ls at hl ⊢
  have hl : lv_has ls 4 [(0, .ref (A 0)), (1, .int a1)] := hl
  refine lv_iconst (v := 0) hx hb dX0_chimneysSmoking_0 (by decide) ?_
  refine lv_istore_n (lv' := [(2, .int 0), (0, .ref (A 0)), (1, .int a1)]) hx hb dX0_chimneysSmoking_1 rfl hl (by decide) rfl (fun ls hl => ?_)
  refine lv_iconst (v := 0) hx hb dX0_chimneysSmoking_2 (by decide) ?_
  refine lv_istore_n (lv' := [(3, .int 0), (2, .int 0), (0, .ref (A 0)), (1, .int a1)]) hx hb dX0_chimneysSmoking_3 rfl hl (by decide) rfl (fun ls hl => ?_)
  have key_4 : ∀ k i : Nat, i + k = 16 → ∀ (ls : Array Slot), lv_has ls 4 [(0, .ref (A 0)), (1, .int a1), (2, .int (pX0_chimneysSmoking_L4 u w a1 i)), (3, .int (nI i))] → W p l e (headSpec (Ty yX0_chimneysSmoking cX0_chimneysSmoking 4 (some .int)) ({ frames := 2, cells := 0, slots := 0, locals := 46 } : Room)).room s m ([.ref (A 0), .int a1] : List Value).toArray below meth cd s.heap [] 0 0 (MQ below (vp_Si (fun x => x = (pX0_chimneysSmoking u w a1))) ([.ref (A 0), .int a1] : List Value).toArray s 0 0 (fun _ => False)) (F0 m 4 ls []) := by
    intro k
    induction k with
    | zero =>
      intro i hi ls hl
      obtain rfl : i = 16 := hi
      obtain ⟨z_1, hz_1⟩ : ∃ q, q = (pX0_chimneysSmoking_L4 u w a1 16) := ⟨_, rfl⟩
      rw [← hz_1] at hl
      refine lv_iload_n hx hb dX0_chimneysSmoking_4 rfl (lv_at hl 3 rfl) ?_
      refine lv_bipush (v := 16) hx hb dX0_chimneysSmoking_5 (by decide) ?_
      refine lv_icmp_ge (tgt := 49) hx hb dX0_chimneysSmoking_7 (by decide) (fun c_2 => ?_) (fun c_2 => absurd (le_of (C := 16) (N := 16) (by decide)) c_2)
      refine lv_iload_n hx hb dX0_chimneysSmoking_49 rfl (lv_at hl 2 rfl) ?_
      have e9 : z_1 = (pX0_chimneysSmoking u w a1) := by simp only [pX0_chimneysSmoking, ← hz_1]
      exact W.iret (v := z_1) hx hb hr (fun t ht hW => ⟨_, rfl, e9, ht⟩) (fun _ h => absurd h List.not_mem_nil) dX0_chimneysSmoking_50
    | succ k ih_4 =>
      intro i hi ls hl
      have hlt : i < 16 := by omega
      refine lv_iload_n hx hb dX0_chimneysSmoking_4 rfl (lv_at hl 3 rfl) ?_
      refine lv_bipush (v := 16) hx hb dX0_chimneysSmoking_5 (by decide) ?_
      refine lv_icmp_ge (tgt := 49) hx hb dX0_chimneysSmoking_7 (by decide) (fun c_3 => absurd c_3 (nle_of (C := 16) (N := 16) (by decide) hlt (by decide))) (fun c_3 => ?_)
      refine lv_aload_n hx hb dX0_chimneysSmoking_10 rfl (lv_at hl 0 rfl) ?_
      refine va_get (D := D) (ci := 0) (v := .int (w 9)) (C := RX0) (T := TX0) (N := 19) hx hb hts inT_X0 hown hK.1 hP 0 rfl rfl 9 (by decide) (hts _ wfl_RX0_68) (fun _ h9 => h9) rfl dX0_chimneysSmoking_11 ?_
      refine lv_iload_n hx hb dX0_chimneysSmoking_14 rfl (lv_at hl 3 rfl) ?_
      refine rN (As := [.int (w 9), .int (nI i)]) (rest := []) hx hb hml hown hts hl.1 (kX6_isIn l D cyC cyI cyO (w 9) (nI i)) bS_X6_isIn  hK.2.1 ⟨rfl, rfl⟩ ⟨Nat.le_of_ble_eq_true rfl, Nat.le_of_ble_eq_true rfl, Nat.zero_le _, Nat.zero_le _⟩ [] rfl hP hK rfl rfl (Nat.le_of_ble_eq_true rfl) dX0_chimneysSmoking_15 ?_
      refine lv_if_eq (tgt := 43) hx hb dX0_chimneysSmoking_18 (by decide) (fun c_4 => ?_) (fun c_4 => ?_)
      · refine lv_iinc (v := (nI (i + 1))) (lv' := [(3, .int (nI (i + 1))), (0, .ref (A 0)), (1, .int a1), (2, .int (pX0_chimneysSmoking_L4 u w a1 i))]) hx hb dX0_chimneysSmoking_43 hl (k := 3) rfl (nI_succ i).symm (by decide) rfl (fun ls hl => ?_)
        refine lv_goto (tgt := 4) hx hb dX0_chimneysSmoking_46 (by decide) ?_
        have e8 : pX0_chimneysSmoking_L4 u w a1 (i + 1) = (pX0_chimneysSmoking_L4 u w a1 i) := by rw [pX0_chimneysSmoking_L4_s] <;> simp only [if_pos c_4]
        exact ih_4 (i + 1) (by omega) ls (by rw [e8]; exact lv_sub hl [1, 2, 3, 0] rfl)
      · refine lv_iload_n hx hb dX0_chimneysSmoking_21 rfl (lv_at hl 3 rfl) ?_
        refine lv_aload_n hx hb dX0_chimneysSmoking_22 rfl (lv_at hl 0 rfl) ?_
        refine va_get (D := D) (ci := 0) (v := .int (w 11)) (C := RX0) (T := TX0) (N := 19) hx hb hts inT_X0 hown hK.1 hP 0 rfl rfl 11 (by decide) (hts _ wfl_RX0_36) (fun _ h9 => h9) rfl dX0_chimneysSmoking_23 ?_
        refine lv_aload_n hx hb dX0_chimneysSmoking_26 rfl (lv_at hl 0 rfl) ?_
        refine va_get (D := D) (ci := 0) (v := .int (w 12)) (C := RX0) (T := TX0) (N := 19) hx hb hts inT_X0 hown hK.1 hP 0 rfl rfl 12 (by decide) (hts _ wfl_RX0_40) (fun _ h9 => h9) rfl dX0_chimneysSmoking_27 ?_
        refine rS (As := [.int (nI i), .int (w 11), .int (w 12)]) (rest := []) hx hb hml hown hts hl.1 (kX4_roofAndNext l D cyC cyI cyO (nI i) (w 11) (w 12) hq) bS_X4_roofAndNext  wml_RX0_96 ⟨rfl, rfl⟩ ⟨Nat.le_of_ble_eq_true rfl, Nat.le_of_ble_eq_true rfl, Nat.zero_le _, Nat.zero_le _⟩ [] rfl hP hK rfl rfl (Nat.le_of_ble_eq_true rfl) dX0_chimneysSmoking_30 ?_
        refine lv_iload_n hx hb dX0_chimneysSmoking_33 rfl (lv_at hl 1 rfl) ?_
        refine rN (As := [.int (pX4_roofAndNext (nI i) (w 11) (w 12)), .int a1]) (rest := []) hx hb hml hown hts hl.1 (kX6_isIn l D cyC cyI cyO (pX4_roofAndNext (nI i) (w 11) (w 12)) a1) bS_X6_isIn  hK.2.1 ⟨rfl, rfl⟩ ⟨Nat.le_of_ble_eq_true rfl, Nat.le_of_ble_eq_true rfl, Nat.zero_le _, Nat.zero_le _⟩ [] rfl hP hK rfl rfl (Nat.le_of_ble_eq_true rfl) dX0_chimneysSmoking_34 ?_
        refine lv_if_eq (tgt := 43) hx hb dX0_chimneysSmoking_37 (by decide) (fun c_5 => ?_) (fun c_5 => ?_)
        · refine lv_iinc (v := (nI (i + 1))) (lv' := [(3, .int (nI (i + 1))), (0, .ref (A 0)), (1, .int a1), (2, .int (pX0_chimneysSmoking_L4 u w a1 i))]) hx hb dX0_chimneysSmoking_43 hl (k := 3) rfl (nI_succ i).symm (by decide) rfl (fun ls hl => ?_)
          refine lv_goto (tgt := 4) hx hb dX0_chimneysSmoking_46 (by decide) ?_
          have e8 : pX0_chimneysSmoking_L4 u w a1 (i + 1) = (pX0_chimneysSmoking_L4 u w a1 i) := by rw [pX0_chimneysSmoking_L4_s] <;> simp only [if_neg c_4, if_pos c_5]
          exact ih_4 (i + 1) (by omega) ls (by rw [e8]; exact lv_sub hl [1, 2, 3, 0] rfl)
        · refine lv_iinc (v := ((pX0_chimneysSmoking_L4 u w a1 i) + (1 : Int32))) (lv' := [(2, .int ((pX0_chimneysSmoking_L4 u w a1 i) + (1 : Int32))), (0, .ref (A 0)), (1, .int a1), (3, .int (nI i))]) hx hb dX0_chimneysSmoking_40 hl (k := 2) rfl rfl (by decide) rfl (fun ls hl => ?_)
          refine lv_iinc (v := (nI (i + 1))) (lv' := [(3, .int (nI (i + 1))), (2, .int ((pX0_chimneysSmoking_L4 u w a1 i) + (1 : Int32))), (0, .ref (A 0)), (1, .int a1)]) hx hb dX0_chimneysSmoking_43 hl (k := 3) rfl (nI_succ i).symm (by decide) rfl (fun ls hl => ?_)
          refine lv_goto (tgt := 4) hx hb dX0_chimneysSmoking_46 (by decide) ?_
          have e8 : pX0_chimneysSmoking_L4 u w a1 (i + 1) = ((pX0_chimneysSmoking_L4 u w a1 i) + (1 : Int32)) := by rw [pX0_chimneysSmoking_L4_s] <;> simp only [if_neg c_4, if_neg c_5]
          exact ih_4 (i + 1) (by omega) ls (by rw [e8]; exact lv_sub hl [2, 3, 1, 0] rfl)
  exact key_4 16 0 (Nat.zero_add 16) ls (lv_sub hl [2, 3, 1, 0] rfl)
theorem bV_X0_chimneysSmoking : BV RX0 yX0_chimneysSmoking cX0_chimneysSmoking 4 (some .int) 1 := ⟨wcd_X0_chimneysSmoking, wim_X0_chimneysSmoking, wse_X0_chimneysSmoking, win_RX0, by decide +kernel⟩
def pX0_windsSmoking_L4 (u : (Nat → Nat → Int32)) (w : (Nat → Int32)) (a1 : Int32) : Nat → Int32 := fo (fun i x_i => (if ((pX0_smokeBlown u w (nI i)) &&& (pX4_roofsOf a1)) = 0 then x_i else (x_i + (1 : Int32)))) 0
theorem pX0_windsSmoking_L4_s (u : (Nat → Nat → Int32)) (w : (Nat → Int32)) (a1 : Int32) (i : Nat) : pX0_windsSmoking_L4 u w a1 (i + 1) = (if ((pX0_smokeBlown u w (nI i)) &&& (pX4_roofsOf a1)) = 0 then (pX0_windsSmoking_L4 u w a1 i) else ((pX0_windsSmoking_L4 u w a1 i) + (1 : Int32))) := rfl
theorem pX0_windsSmoking_L4_0 (u : (Nat → Nat → Int32)) (w : (Nat → Int32)) (a1 : Int32) : pX0_windsSmoking_L4 u w a1 0 = 0 := rfl
def pX0_windsSmoking (u : (Nat → Nat → Int32)) (w : (Nat → Int32)) (a1 : Int32) : Int32 := (pX0_windsSmoking_L4 u w a1 4)
set_option maxHeartbeats 4000000 in
set_option maxRecDepth 100000 in
theorem kX0_windsSmoking (l : Launch) (D : va_G) (cyC cyI cyO : ClassId) (A : Nat → Nat) (u : (Nat → Nat → Int32)) (w : (Nat → Int32)) (a1 : Int32) (hq : (w 12) < 4) : RO l yX0_windsSmoking (Ty yX0_windsSmoking cX0_windsSmoking 4 (some .int)) ({ frames := 3, cells := 0, slots := 0, locals := 69 } : Room) D cyC cyI cyO (wC cyI A u w) [.ref (A 0), .int a1] (pX0_windsSmoking u w a1) := by
  refine Met.ofW (cc := cX0_windsSmoking) (maxL := 4) (ret := (some .int)) (by decide) rfl ?_
  intro p e s m args below meth cd s₁ B hml hv
  obtain ⟨rfl, hP, hK⟩ := hv
  have hx := B.exec
  have hb := B.bytes
  have hr := B.returns
  have hts : ∀ w ∈ TB, w.before ([.ref (A 0), .int a1] : List Value).toArray s = true := fun w h => atoms_spec (ws := (Ty yX0_windsSmoking cX0_windsSmoking 4 (some .int))) B.pre w (List.mem_cons_of_mem _ h)
  have hown : s.vm.findClass RX0 = some m.cls := findClass_of_methodNamed B.named
  have hlocks := B.notSynchronized
  have hl := lv_entry ([.ref (A 0), .int a1]) (n := 4) (Nat.le_of_ble_eq_true rfl)
  rw [lg_entry_eq]
  generalize (lg_sl ([.ref (A 0), .int a1]) ++ List.replicate (4 - (lg_sl ([.ref (A 0), .int a1])).length) Slot.unset).toArray = ls at hl ⊢
  have hl : lv_has ls 4 [(0, .ref (A 0)), (1, .int a1)] := hl
  refine lv_iconst (v := 0) hx hb dX0_windsSmoking_0 (by decide) ?_
  refine lv_istore_n (lv' := [(2, .int 0), (0, .ref (A 0)), (1, .int a1)]) hx hb dX0_windsSmoking_1 rfl hl (by decide) rfl (fun ls hl => ?_)
  refine lv_iconst (v := 0) hx hb dX0_windsSmoking_2 (by decide) ?_
  refine lv_istore_n (lv' := [(3, .int 0), (2, .int 0), (0, .ref (A 0)), (1, .int a1)]) hx hb dX0_windsSmoking_3 rfl hl (by decide) rfl (fun ls hl => ?_)
  have key_4 : ∀ k i : Nat, i + k = 4 → ∀ (ls : Array Slot), lv_has ls 4 [(0, .ref (A 0)), (1, .int a1), (2, .int (pX0_windsSmoking_L4 u w a1 i)), (3, .int (nI i))] → W p l e (headSpec (Ty yX0_windsSmoking cX0_windsSmoking 4 (some .int)) ({ frames := 3, cells := 0, slots := 0, locals := 69 } : Room)).room s m ([.ref (A 0), .int a1] : List Value).toArray below meth cd s.heap [] 0 0 (MQ below (vp_Si (fun x => x = (pX0_windsSmoking u w a1))) ([.ref (A 0), .int a1] : List Value).toArray s 0 0 (fun _ => False)) (F0 m 4 ls []) := by
    intro k
    induction k with
    | zero =>
      intro i hi ls hl
      obtain rfl : i = 4 := hi
      obtain ⟨z_1, hz_1⟩ : ∃ q, q = (pX0_windsSmoking_L4 u w a1 4) := ⟨_, rfl⟩
      rw [← hz_1] at hl
      refine lv_iload_n hx hb dX0_windsSmoking_4 rfl (lv_at hl 3 rfl) ?_
      refine lv_iconst (v := 4) hx hb dX0_windsSmoking_5 (by decide) ?_
      refine lv_icmp_ge (tgt := 31) hx hb dX0_windsSmoking_6 (by decide) (fun c_2 => ?_) (fun c_2 => absurd (le_of (C := 4) (N := 4) (by decide)) c_2)
      refine lv_iload_n hx hb dX0_windsSmoking_31 rfl (lv_at hl 2 rfl) ?_
      have e9 : z_1 = (pX0_windsSmoking u w a1) := by simp only [pX0_windsSmoking, ← hz_1]
      exact W.iret (v := z_1) hx hb hr (fun t ht hW => ⟨_, rfl, e9, ht⟩) (fun _ h => absurd h List.not_mem_nil) dX0_windsSmoking_32
    | succ k ih_4 =>
      intro i hi ls hl
      have hlt : i < 4 := by omega
      refine lv_iload_n hx hb dX0_windsSmoking_4 rfl (lv_at hl 3 rfl) ?_
      refine lv_iconst (v := 4) hx hb dX0_windsSmoking_5 (by decide) ?_
      refine lv_icmp_ge (tgt := 31) hx hb dX0_windsSmoking_6 (by decide) (fun c_3 => absurd c_3 (nle_of (C := 4) (N := 4) (by decide) hlt (by decide))) (fun c_3 => ?_)
      refine lv_aload_n hx hb dX0_windsSmoking_9 rfl (lv_at hl 0 rfl) ?_
      refine lv_iload_n hx hb dX0_windsSmoking_10 rfl (lv_at hl 3 rfl) ?_
      refine rV (As := [.int (nI i)]) (rest := []) hx hb hml hown hts hl.1 (kX0_smokeBlown l D cyC cyI cyO A u w (nI i) hq) bV_X0_smokeBlown  wml_RX0_100 ⟨rfl, rfl⟩ ⟨Nat.le_of_ble_eq_true rfl, Nat.le_of_ble_eq_true rfl, Nat.zero_le _, Nat.zero_le _⟩ [0, 1, 2, 3, 4, 5, 6, 7, 8] rfl hP hK 0 rfl rfl rfl rfl rfl (Nat.le_of_ble_eq_true rfl) dX0_windsSmoking_11 ?_
      refine lv_iload_n hx hb dX0_windsSmoking_14 rfl (lv_at hl 1 rfl) ?_
      refine rS (As := [.int a1]) (rest := [.int (pX0_smokeBlown u w (nI i))]) hx hb hml hown hts hl.1 (kX4_roofsOf l D cyC cyI cyO a1) bS_X4_roofsOf  wml_RX0_104 ⟨rfl, rfl⟩ ⟨Nat.le_of_ble_eq_true rfl, Nat.le_of_ble_eq_true rfl, Nat.zero_le _, Nat.zero_le _⟩ [] rfl hP hK rfl rfl (Nat.le_of_ble_eq_true rfl) dX0_windsSmoking_15 ?_
      refine lv_iand hx hb dX0_windsSmoking_18 ?_
      refine lv_if_eq (tgt := 25) hx hb dX0_windsSmoking_19 (by decide) (fun c_4 => ?_) (fun c_4 => ?_)
      · refine lv_iinc (v := (nI (i + 1))) (lv' := [(3, .int (nI (i + 1))), (0, .ref (A 0)), (1, .int a1), (2, .int (pX0_windsSmoking_L4 u w a1 i))]) hx hb dX0_windsSmoking_25 hl (k := 3) rfl (nI_succ i).symm (by decide) rfl (fun ls hl => ?_)
        refine lv_goto (tgt := 4) hx hb dX0_windsSmoking_28 (by decide) ?_
        have e8 : pX0_windsSmoking_L4 u w a1 (i + 1) = (pX0_windsSmoking_L4 u w a1 i) := by rw [pX0_windsSmoking_L4_s] <;> simp only [if_pos c_4]
        exact ih_4 (i + 1) (by omega) ls (by rw [e8]; exact lv_sub hl [1, 2, 3, 0] rfl)
      · refine lv_iinc (v := ((pX0_windsSmoking_L4 u w a1 i) + (1 : Int32))) (lv' := [(2, .int ((pX0_windsSmoking_L4 u w a1 i) + (1 : Int32))), (0, .ref (A 0)), (1, .int a1), (3, .int (nI i))]) hx hb dX0_windsSmoking_22 hl (k := 2) rfl rfl (by decide) rfl (fun ls hl => ?_)
        refine lv_iinc (v := (nI (i + 1))) (lv' := [(3, .int (nI (i + 1))), (2, .int ((pX0_windsSmoking_L4 u w a1 i) + (1 : Int32))), (0, .ref (A 0)), (1, .int a1)]) hx hb dX0_windsSmoking_25 hl (k := 3) rfl (nI_succ i).symm (by decide) rfl (fun ls hl => ?_)
        refine lv_goto (tgt := 4) hx hb dX0_windsSmoking_28 (by decide) ?_
        have e8 : pX0_windsSmoking_L4 u w a1 (i + 1) = ((pX0_windsSmoking_L4 u w a1 i) + (1 : Int32)) := by rw [pX0_windsSmoking_L4_s] <;> simp only [if_neg c_4]
        exact ih_4 (i + 1) (by omega) ls (by rw [e8]; exact lv_sub hl [2, 3, 1, 0] rfl)
  exact key_4 4 0 (Nat.zero_add 4) ls (lv_sub hl [2, 3, 1, 0] rfl)
theorem bV_X0_windsSmoking : BV RX0 yX0_windsSmoking cX0_windsSmoking 4 (some .int) 1 := ⟨wcd_X0_windsSmoking, wim_X0_windsSmoking, wse_X0_windsSmoking, win_RX0, by decide +kernel⟩
def pX0_isNearCoop (u : (Nat → Nat → Int32)) (w : (Nat → Int32)) (a1 : Int32) : Int32 := (if ((w 10) &&& ((pX4_roofAndNeighbours (pX4_lesserRoof a1)) ||| (pX4_roofAndNeighbours (pX4_greaterRoof a1)))) = 0 then 0 else 1)
set_option maxHeartbeats 4000000 in
set_option maxRecDepth 100000 in
theorem kX0_isNearCoop (l : Launch) (D : va_G) (cyC cyI cyO : ClassId) (A : Nat → Nat) (u : (Nat → Nat → Int32)) (w : (Nat → Int32)) (a1 : Int32) : RO l yX0_isNearCoop (Ty yX0_isNearCoop cX0_isNearCoop 3 (some .boolean)) ({ frames := 2, cells := 0, slots := 0, locals := 44 } : Room) D cyC cyI cyO (wC cyI A u w) [.ref (A 0), .int a1] (pX0_isNearCoop u w a1) := by
  refine Met.ofW (cc := cX0_isNearCoop) (maxL := 3) (ret := (some .boolean)) (by decide) rfl ?_
  intro p e s m args below meth cd s₁ B hml hv
  obtain ⟨rfl, hP, hK⟩ := hv
  have hx := B.exec
  have hb := B.bytes
  have hr := B.returns
  have hts : ∀ w ∈ TB, w.before ([.ref (A 0), .int a1] : List Value).toArray s = true := fun w h => atoms_spec (ws := (Ty yX0_isNearCoop cX0_isNearCoop 3 (some .boolean))) B.pre w (List.mem_cons_of_mem _ h)
  have hown : s.vm.findClass RX0 = some m.cls := findClass_of_methodNamed B.named
  have hlocks := B.notSynchronized
  have hl := lv_entry ([.ref (A 0), .int a1]) (n := 3) (Nat.le_of_ble_eq_true rfl)
  rw [lg_entry_eq]
  generalize (lg_sl ([.ref (A 0), .int a1]) ++ List.replicate (3 - (lg_sl ([.ref (A 0), .int a1])).length) Slot.unset).toArray = ls at hl ⊢
  have hl : lv_has ls 3 [(0, .ref (A 0)), (1, .int a1)] := hl
  refine lv_iload_n hx hb dX0_isNearCoop_0 rfl (lv_at hl 1 rfl) ?_
  refine rS (As := [.int a1]) (rest := []) hx hb hml hown hts hl.1 (kX4_lesserRoof l D cyC cyI cyO a1) bS_X4_lesserRoof  wml_RX0_107 ⟨rfl, rfl⟩ ⟨Nat.le_of_ble_eq_true rfl, Nat.le_of_ble_eq_true rfl, Nat.zero_le _, Nat.zero_le _⟩ [] rfl hP hK rfl rfl (Nat.le_of_ble_eq_true rfl) dX0_isNearCoop_1 ?_
  refine rS (As := [.int (pX4_lesserRoof a1)]) (rest := []) hx hb hml hown hts hl.1 (kX4_roofAndNeighbours l D cyC cyI cyO (pX4_lesserRoof a1)) bS_X4_roofAndNeighbours  wml_RX0_110 ⟨rfl, rfl⟩ ⟨Nat.le_of_ble_eq_true rfl, Nat.le_of_ble_eq_true rfl, Nat.zero_le _, Nat.zero_le _⟩ [] rfl hP hK rfl rfl (Nat.le_of_ble_eq_true rfl) dX0_isNearCoop_4 ?_
  refine lv_iload_n hx hb dX0_isNearCoop_7 rfl (lv_at hl 1 rfl) ?_
  refine rS (As := [.int a1]) (rest := [.int (pX4_roofAndNeighbours (pX4_lesserRoof a1))]) hx hb hml hown hts hl.1 (kX4_greaterRoof l D cyC cyI cyO a1) bS_X4_greaterRoof  wml_RX0_113 ⟨rfl, rfl⟩ ⟨Nat.le_of_ble_eq_true rfl, Nat.le_of_ble_eq_true rfl, Nat.zero_le _, Nat.zero_le _⟩ [] rfl hP hK rfl rfl (Nat.le_of_ble_eq_true rfl) dX0_isNearCoop_8 ?_
  refine rS (As := [.int (pX4_greaterRoof a1)]) (rest := [.int (pX4_roofAndNeighbours (pX4_lesserRoof a1))]) hx hb hml hown hts hl.1 (kX4_roofAndNeighbours l D cyC cyI cyO (pX4_greaterRoof a1)) bS_X4_roofAndNeighbours  wml_RX0_110 ⟨rfl, rfl⟩ ⟨Nat.le_of_ble_eq_true rfl, Nat.le_of_ble_eq_true rfl, Nat.zero_le _, Nat.zero_le _⟩ [] rfl hP hK rfl rfl (Nat.le_of_ble_eq_true rfl) dX0_isNearCoop_11 ?_
  refine lv_ior hx hb dX0_isNearCoop_14 ?_
  refine lv_istore_n (lv' := [(2, .int ((pX4_roofAndNeighbours (pX4_lesserRoof a1)) ||| (pX4_roofAndNeighbours (pX4_greaterRoof a1)))), (0, .ref (A 0)), (1, .int a1)]) hx hb dX0_isNearCoop_15 rfl hl (by decide) rfl (fun ls hl => ?_)
  refine lv_aload_n hx hb dX0_isNearCoop_16 rfl (lv_at hl 1 rfl) ?_
  refine va_get (D := D) (ci := 0) (v := .int (w 10)) (C := RX0) (T := TX0) (N := 19) hx hb hts inT_X0 hown hK.1 hP 0 rfl rfl 10 (by decide) (hts _ wfl_RX0_71) (fun _ h9 => h9) rfl dX0_isNearCoop_17 ?_
  refine lv_iload_n hx hb dX0_isNearCoop_20 rfl (lv_at hl 0 rfl) ?_
  refine lv_iand hx hb dX0_isNearCoop_21 ?_
  refine lv_if_eq (tgt := 29) hx hb dX0_isNearCoop_22 (by decide) (fun c_1 => ?_) (fun c_1 => ?_)
  · refine lv_iconst (v := 0) hx hb dX0_isNearCoop_29 (by decide) ?_
    have e9 : 0 = (pX0_isNearCoop u w a1) := by simp only [pX0_isNearCoop, if_pos c_1]
    exact W.zret (ty := .boolean) (v := 0) hx hb hr (by rfl) (fun t ht hW => ⟨_, rfl, e9, ht⟩) (fun _ h => absurd h List.not_mem_nil) dX0_isNearCoop_30
  · refine lv_iconst (v := 1) hx hb dX0_isNearCoop_25 (by decide) ?_
    refine lv_goto (tgt := 30) hx hb dX0_isNearCoop_26 (by decide) ?_
    have e9 : 1 = (pX0_isNearCoop u w a1) := by simp only [pX0_isNearCoop, if_neg c_1]
    exact W.zret (ty := .boolean) (v := 1) hx hb hr (by rfl) (fun t ht hW => ⟨_, rfl, e9, ht⟩) (fun _ h => absurd h List.not_mem_nil) dX0_isNearCoop_30
theorem z_X0_isNearCoop (u : (Nat → Nat → Int32)) (w : (Nat → Int32)) (a1 : Int32) : (pX0_isNearCoop u w a1) = 0 ∨ (pX0_isNearCoop u w a1) = 1 := by
  unfold pX0_isNearCoop
  (repeat' split) <;> first | with_reducible exact Or.inl rfl | with_reducible exact Or.inr rfl
theorem bV_X0_isNearCoop : BV RX0 yX0_isNearCoop cX0_isNearCoop 3 (some .boolean) 1 := ⟨wcd_X0_isNearCoop, wim_X0_isNearCoop, wse_X0_isNearCoop, win_RX0, by decide +kernel⟩
def pX0_reasonNotToHang (u : (Nat → Nat → Int32)) (w : (Nat → Int32)) (a1 : Int32) (a2 : Int32) : Int32 := (if (pX0_isThere u w a2) = 0 then 1 else (if (pX0_hasLine u w a2) = 0 then (if (((u 5) (a1).toNatClampNeg) &&& (pX4_roofsOf a2)) = (pX4_roofsOf a2) then (if ((pX0_smokeBlown u w (w 11)) &&& (pX4_roofsOf a2)) = 0 then (if (pX6_isIn (w 8) a1) = 0 then (if (pX0_isNearCoop u w a2) = 0 then 0 else 5) else 0) else 4) else 3) else 2))
set_option maxHeartbeats 4000000 in
set_option maxRecDepth 100000 in
theorem kX0_reasonNotToHang (l : Launch) (D : va_G) (cyC cyI cyO : ClassId) (A : Nat → Nat) (u : (Nat → Nat → Int32)) (w : (Nat → Int32)) (a1 : Int32) (a2 : Int32) (ho : vp_in a1 4) (hg : vp_in a2 28) (hq : (w 12) < 4) : RO l yX0_reasonNotToHang (Ty yX0_reasonNotToHang cX0_reasonNotToHang 4 (some .int)) ({ frames := 3, cells := 0, slots := 0, locals := 69 } : Room) D cyC cyI cyO (wC cyI A u w) [.ref (A 0), .int a1, .int a2] (pX0_reasonNotToHang u w a1 a2) := by
  refine Met.ofW (cc := cX0_reasonNotToHang) (maxL := 4) (ret := (some .int)) (by decide) rfl ?_
  intro p e s m args below meth cd s₁ B hml hv
  obtain ⟨rfl, hP, hK⟩ := hv
  have hx := B.exec
  have hb := B.bytes
  have hr := B.returns
  have hts : ∀ w ∈ TB, w.before ([.ref (A 0), .int a1, .int a2] : List Value).toArray s = true := fun w h => atoms_spec (ws := (Ty yX0_reasonNotToHang cX0_reasonNotToHang 4 (some .int))) B.pre w (List.mem_cons_of_mem _ h)
  have hown : s.vm.findClass RX0 = some m.cls := findClass_of_methodNamed B.named
  have hlocks := B.notSynchronized
  have hl := lv_entry ([.ref (A 0), .int a1, .int a2]) (n := 4) (Nat.le_of_ble_eq_true rfl)
  rw [lg_entry_eq]
  generalize (lg_sl ([.ref (A 0), .int a1, .int a2]) ++ List.replicate (4 - (lg_sl ([.ref (A 0), .int a1, .int a2])).length) Slot.unset).toArray = ls at hl ⊢
  have hl : lv_has ls 4 [(0, .ref (A 0)), (1, .int a1), (2, .int a2)] := hl
  refine lv_iload_n hx hb dX0_reasonNotToHang_0 rfl (lv_at hl 2 rfl) ?_
  refine rS (As := [.int a2]) (rest := []) hx hb hml hown hts hl.1 (kX4_roofsOf l D cyC cyI cyO a2) bS_X4_roofsOf  wml_RX0_104 ⟨rfl, rfl⟩ ⟨Nat.le_of_ble_eq_true rfl, Nat.le_of_ble_eq_true rfl, Nat.zero_le _, Nat.zero_le _⟩ [] rfl hP hK rfl rfl (Nat.le_of_ble_eq_true rfl) dX0_reasonNotToHang_1 ?_
  refine lv_istore_n (lv' := [(3, .int (pX4_roofsOf a2)), (0, .ref (A 0)), (1, .int a1), (2, .int a2)]) hx hb dX0_reasonNotToHang_4 rfl hl (by decide) rfl (fun ls hl => ?_)
  refine lv_aload_n hx hb dX0_reasonNotToHang_5 rfl (lv_at hl 1 rfl) ?_
  refine lv_iload_n hx hb dX0_reasonNotToHang_6 rfl (lv_at hl 3 rfl) ?_
  refine rV (As := [.int a2]) (rest := []) hx hb hml hown hts hl.1 (kX0_isThere l D cyC cyI cyO A u w a2 hg) bV_X0_isThere  wml_RX0_116 ⟨rfl, rfl⟩ ⟨Nat.le_of_ble_eq_true rfl, Nat.le_of_ble_eq_true rfl, Nat.zero_le _, Nat.zero_le _⟩ [0, 1, 2, 3, 4, 5, 6, 7, 8] rfl hP hK 0 rfl rfl rfl rfl rfl (Nat.le_of_ble_eq_true rfl) dX0_reasonNotToHang_7 ?_
  refine lv_if_ne (tgt := 15) hx hb dX0_reasonNotToHang_10 (by decide) (fun c_1 => ?_) (fun c_1 => ?_)
  · refine lv_aload_n hx hb dX0_reasonNotToHang_15 rfl (lv_at hl 1 rfl) ?_
    refine lv_iload_n hx hb dX0_reasonNotToHang_16 rfl (lv_at hl 3 rfl) ?_
    refine rV (As := [.int a2]) (rest := []) hx hb hml hown hts hl.1 (kX0_hasLine l D cyC cyI cyO A u w a2 hg) bV_X0_hasLine  wml_RX0_89 ⟨rfl, rfl⟩ ⟨Nat.le_of_ble_eq_true rfl, Nat.le_of_ble_eq_true rfl, Nat.zero_le _, Nat.zero_le _⟩ [0, 1, 2, 3, 4, 5, 6, 7, 8] rfl hP hK 0 rfl rfl rfl rfl rfl (Nat.le_of_ble_eq_true rfl) dX0_reasonNotToHang_17 ?_
    refine lv_if_eq (tgt := 25) hx hb dX0_reasonNotToHang_20 (by decide) (fun c_2 => ?_) (fun c_2 => ?_)
    · refine lv_aload_n hx hb dX0_reasonNotToHang_25 rfl (lv_at hl 1 rfl) ?_
      refine va_get (D := D) (ci := 0) (v := .ref (A 6)) (C := RX0) (T := TX0) (N := 19) hx hb hts inT_X0 hown hK.1 hP 0 rfl rfl 5 (by decide) (hts _ wfl_RX0_27) (fun _ h9 => h9) rfl dX0_reasonNotToHang_26 ?_
      refine lv_iload_n hx hb dX0_reasonNotToHang_29 rfl (lv_at hl 2 rfl) ?_
      refine va_iald (D := D) (f := (u 5)) hx hb hK.1 hP 6 1 rfl rfl ho dX0_reasonNotToHang_30 ?_
      refine lv_iload_n hx hb dX0_reasonNotToHang_31 rfl (lv_at hl 0 rfl) ?_
      refine lv_iand hx hb dX0_reasonNotToHang_32 ?_
      refine lv_iload_n hx hb dX0_reasonNotToHang_33 rfl (lv_at hl 0 rfl) ?_
      refine lv_icmp_eq (tgt := 39) hx hb dX0_reasonNotToHang_34 (by decide) (fun c_3 => ?_) (fun c_3 => ?_)
      · refine lv_aload_n hx hb dX0_reasonNotToHang_39 rfl (lv_at hl 1 rfl) ?_
        refine lv_aload_n hx hb dX0_reasonNotToHang_40 rfl (lv_at hl 1 rfl) ?_
        refine va_get (D := D) (ci := 0) (v := .int (w 11)) (C := RX0) (T := TX0) (N := 19) hx hb hts inT_X0 hown hK.1 hP 0 rfl rfl 11 (by decide) (hts _ wfl_RX0_36) (fun _ h9 => h9) rfl dX0_reasonNotToHang_41 ?_
        refine rV (As := [.int (w 11)]) (rest := []) hx hb hml hown hts hl.1 (kX0_smokeBlown l D cyC cyI cyO A u w (w 11) hq) bV_X0_smokeBlown  wml_RX0_100 ⟨rfl, rfl⟩ ⟨Nat.le_of_ble_eq_true rfl, Nat.le_of_ble_eq_true rfl, Nat.zero_le _, Nat.zero_le _⟩ [0, 1, 2, 3, 4, 5, 6, 7, 8] rfl hP hK 0 rfl rfl rfl rfl rfl (Nat.le_of_ble_eq_true rfl) dX0_reasonNotToHang_44 ?_
        refine lv_iload_n hx hb dX0_reasonNotToHang_47 rfl (lv_at hl 0 rfl) ?_
        refine lv_iand hx hb dX0_reasonNotToHang_48 ?_
        refine lv_if_eq (tgt := 54) hx hb dX0_reasonNotToHang_49 (by decide) (fun c_4 => ?_) (fun c_4 => ?_)
        · refine lv_aload_n hx hb dX0_reasonNotToHang_54 rfl (lv_at hl 1 rfl) ?_
          refine va_get (D := D) (ci := 0) (v := .int (w 8)) (C := RX0) (T := TX0) (N := 19) hx hb hts inT_X0 hown hK.1 hP 0 rfl rfl 8 (by decide) (hts _ wfl_RX0_65) (fun _ h9 => h9) rfl dX0_reasonNotToHang_55 ?_
          refine lv_iload_n hx hb dX0_reasonNotToHang_58 rfl (lv_at hl 2 rfl) ?_
          refine rN (As := [.int (w 8), .int a1]) (rest := []) hx hb hml hown hts hl.1 (kX6_isIn l D cyC cyI cyO (w 8) a1) bS_X6_isIn  hK.2.1 ⟨rfl, rfl⟩ ⟨Nat.le_of_ble_eq_true rfl, Nat.le_of_ble_eq_true rfl, Nat.zero_le _, Nat.zero_le _⟩ [] rfl hP hK rfl rfl (Nat.le_of_ble_eq_true rfl) dX0_reasonNotToHang_59 ?_
          refine lv_if_ne (tgt := 75) hx hb dX0_reasonNotToHang_62 (by decide) (fun c_5 => ?_) (fun c_5 => ?_)
          · refine lv_iconst (v := 0) hx hb dX0_reasonNotToHang_75 (by decide) ?_
            have e9 : 0 = (pX0_reasonNotToHang u w a1 a2) := by simp only [pX0_reasonNotToHang, if_neg c_1, if_pos c_2, if_pos c_3, if_pos c_4, if_neg c_5]
            exact W.iret (v := 0) hx hb hr (fun t ht hW => ⟨_, rfl, e9, ht⟩) (fun _ h => absurd h List.not_mem_nil) dX0_reasonNotToHang_76
          · refine lv_aload_n hx hb dX0_reasonNotToHang_65 rfl (lv_at hl 1 rfl) ?_
            refine lv_iload_n hx hb dX0_reasonNotToHang_66 rfl (lv_at hl 3 rfl) ?_
            refine rV (As := [.int a2]) (rest := []) hx hb hml hown hts hl.1 (kX0_isNearCoop l D cyC cyI cyO A u w a2) bV_X0_isNearCoop  wml_RX0_119 ⟨rfl, rfl⟩ ⟨Nat.le_of_ble_eq_true rfl, Nat.le_of_ble_eq_true rfl, Nat.zero_le _, Nat.zero_le _⟩ [0, 1, 2, 3, 4, 5, 6, 7, 8] rfl hP hK 0 rfl rfl rfl rfl rfl (Nat.le_of_ble_eq_true rfl) dX0_reasonNotToHang_67 ?_
            refine lv_if_eq (tgt := 75) hx hb dX0_reasonNotToHang_70 (by decide) (fun c_6 => ?_) (fun c_6 => ?_)
            · refine lv_iconst (v := 0) hx hb dX0_reasonNotToHang_75 (by decide) ?_
              have e9 : 0 = (pX0_reasonNotToHang u w a1 a2) := by simp only [pX0_reasonNotToHang, if_neg c_1, if_pos c_2, if_pos c_3, if_pos c_4, if_pos c_5, if_pos c_6]
              exact W.iret (v := 0) hx hb hr (fun t ht hW => ⟨_, rfl, e9, ht⟩) (fun _ h => absurd h List.not_mem_nil) dX0_reasonNotToHang_76
            · refine lv_iconst (v := 5) hx hb dX0_reasonNotToHang_73 (by decide) ?_
              have e9 : 5 = (pX0_reasonNotToHang u w a1 a2) := by simp only [pX0_reasonNotToHang, if_neg c_1, if_pos c_2, if_pos c_3, if_pos c_4, if_pos c_5, if_neg c_6]
              exact W.iret (v := 5) hx hb hr (fun t ht hW => ⟨_, rfl, e9, ht⟩) (fun _ h => absurd h List.not_mem_nil) dX0_reasonNotToHang_74
        · refine lv_iconst (v := 4) hx hb dX0_reasonNotToHang_52 (by decide) ?_
          have e9 : 4 = (pX0_reasonNotToHang u w a1 a2) := by simp only [pX0_reasonNotToHang, if_neg c_1, if_pos c_2, if_pos c_3, if_neg c_4]
          exact W.iret (v := 4) hx hb hr (fun t ht hW => ⟨_, rfl, e9, ht⟩) (fun _ h => absurd h List.not_mem_nil) dX0_reasonNotToHang_53
      · refine lv_iconst (v := 3) hx hb dX0_reasonNotToHang_37 (by decide) ?_
        have e9 : 3 = (pX0_reasonNotToHang u w a1 a2) := by simp only [pX0_reasonNotToHang, if_neg c_1, if_pos c_2, if_neg c_3]
        exact W.iret (v := 3) hx hb hr (fun t ht hW => ⟨_, rfl, e9, ht⟩) (fun _ h => absurd h List.not_mem_nil) dX0_reasonNotToHang_38
    · refine lv_iconst (v := 2) hx hb dX0_reasonNotToHang_23 (by decide) ?_
      have e9 : 2 = (pX0_reasonNotToHang u w a1 a2) := by simp only [pX0_reasonNotToHang, if_neg c_1, if_neg c_2]
      exact W.iret (v := 2) hx hb hr (fun t ht hW => ⟨_, rfl, e9, ht⟩) (fun _ h => absurd h List.not_mem_nil) dX0_reasonNotToHang_24
  · refine lv_iconst (v := 1) hx hb dX0_reasonNotToHang_13 (by decide) ?_
    have e9 : 1 = (pX0_reasonNotToHang u w a1 a2) := by simp only [pX0_reasonNotToHang, if_pos c_1]
    exact W.iret (v := 1) hx hb hr (fun t ht hW => ⟨_, rfl, e9, ht⟩) (fun _ h => absurd h List.not_mem_nil) dX0_reasonNotToHang_14
theorem bV_X0_reasonNotToHang : BV RX0 yX0_reasonNotToHang cX0_reasonNotToHang 4 (some .int) 2 := ⟨wcd_X0_reasonNotToHang, wim_X0_reasonNotToHang, wse_X0_reasonNotToHang, win_RX0, by decide +kernel⟩
def pX0_standsAt (u : (Nat → Nat → Int32)) (w : (Nat → Int32)) (a1 : Int32) (a2 : Int32) : Int32 := (pX6_isIn (pX4_roofsOf a2) ((u 6) (a1).toNatClampNeg))
set_option maxHeartbeats 4000000 in
set_option maxRecDepth 100000 in
theorem kX0_standsAt (l : Launch) (D : va_G) (cyC cyI cyO : ClassId) (A : Nat → Nat) (u : (Nat → Nat → Int32)) (w : (Nat → Int32)) (a1 : Int32) (a2 : Int32) (ho : vp_in a1 4) : RO l yX0_standsAt (Ty yX0_standsAt cX0_standsAt 3 (some .boolean)) ({ frames := 3, cells := 0, slots := 0, locals := 60 } : Room) D cyC cyI cyO (wC cyI A u w) [.ref (A 0), .int a1, .int a2] (pX0_standsAt u w a1 a2) := by
  refine Met.ofW (cc := cX0_standsAt) (maxL := 3) (ret := (some .boolean)) (by decide) rfl ?_
  intro p e s m args below meth cd s₁ B hml hv
  obtain ⟨rfl, hP, hK⟩ := hv
  have hx := B.exec
  have hb := B.bytes
  have hr := B.returns
  have hts : ∀ w ∈ TB, w.before ([.ref (A 0), .int a1, .int a2] : List Value).toArray s = true := fun w h => atoms_spec (ws := (Ty yX0_standsAt cX0_standsAt 3 (some .boolean))) B.pre w (List.mem_cons_of_mem _ h)
  have hown : s.vm.findClass RX0 = some m.cls := findClass_of_methodNamed B.named
  have hlocks := B.notSynchronized
  have hl := lv_entry ([.ref (A 0), .int a1, .int a2]) (n := 3) (Nat.le_of_ble_eq_true rfl)
  rw [lg_entry_eq]
  generalize (lg_sl ([.ref (A 0), .int a1, .int a2]) ++ List.replicate (3 - (lg_sl ([.ref (A 0), .int a1, .int a2])).length) Slot.unset).toArray = ls at hl ⊢
  have hl : lv_has ls 3 [(0, .ref (A 0)), (1, .int a1), (2, .int a2)] := hl
  refine lv_iload_n hx hb dX0_standsAt_0 rfl (lv_at hl 2 rfl) ?_
  refine rS (As := [.int a2]) (rest := []) hx hb hml hown hts hl.1 (kX4_roofsOf l D cyC cyI cyO a2) bS_X4_roofsOf  wml_RX0_104 ⟨rfl, rfl⟩ ⟨Nat.le_of_ble_eq_true rfl, Nat.le_of_ble_eq_true rfl, Nat.zero_le _, Nat.zero_le _⟩ [] rfl hP hK rfl rfl (Nat.le_of_ble_eq_true rfl) dX0_standsAt_1 ?_
  refine lv_aload_n hx hb dX0_standsAt_4 rfl (lv_at hl 0 rfl) ?_
  refine va_get (D := D) (ci := 0) (v := .ref (A 7)) (C := RX0) (T := TX0) (N := 19) hx hb hts inT_X0 hown hK.1 hP 0 rfl rfl 6 (by decide) (hts _ wfl_RX0_30) (fun _ h9 => h9) rfl dX0_standsAt_5 ?_
  refine lv_iload_n hx hb dX0_standsAt_8 rfl (lv_at hl 1 rfl) ?_
  refine va_iald (D := D) (f := (u 6)) hx hb hK.1 hP 7 1 rfl rfl ho dX0_standsAt_9 ?_
  refine rN (As := [.int (pX4_roofsOf a2), .int ((u 6) (a1).toNatClampNeg)]) (rest := []) hx hb hml hown hts hl.1 (kX6_isIn l D cyC cyI cyO (pX4_roofsOf a2) ((u 6) (a1).toNatClampNeg)) bS_X6_isIn  hK.2.1 ⟨rfl, rfl⟩ ⟨Nat.le_of_ble_eq_true rfl, Nat.le_of_ble_eq_true rfl, Nat.zero_le _, Nat.zero_le _⟩ [] rfl hP hK rfl rfl (Nat.le_of_ble_eq_true rfl) dX0_standsAt_10 ?_
  have e9 : (pX6_isIn (pX4_roofsOf a2) ((u 6) (a1).toNatClampNeg)) = (pX0_standsAt u w a1 a2) := rfl
  exact W.zret (ty := .boolean) (v := (pX6_isIn (pX4_roofsOf a2) ((u 6) (a1).toNatClampNeg))) hx hb hr (nz (z_X6_isIn (pX4_roofsOf a2) ((u 6) (a1).toNatClampNeg))) (fun t ht hW => ⟨_, rfl, e9, ht⟩) (fun _ h => absurd h List.not_mem_nil) dX0_standsAt_13
theorem z_X0_standsAt (u : (Nat → Nat → Int32)) (w : (Nat → Int32)) (a1 : Int32) (a2 : Int32) : (pX0_standsAt u w a1 a2) = 0 ∨ (pX0_standsAt u w a1 a2) = 1 := by
  unfold pX0_standsAt
  (repeat' split) <;> first | with_reducible exact z_X6_isIn _ _ | with_reducible exact Or.inl rfl | with_reducible exact Or.inr rfl
theorem bV_X0_standsAt : BV RX0 yX0_standsAt cX0_standsAt 3 (some .boolean) 2 := ⟨wcd_X0_standsAt, wim_X0_standsAt, wse_X0_standsAt, win_RX0, by decide +kernel⟩
def pX0_reasonNotToWalk (u : (Nat → Nat → Int32)) (w : (Nat → Int32)) (a1 : Int32) (a2 : Int32) (a3 : Int32) : Int32 := (if (pX0_isThere u w a2) = 0 then 1 else (if ((u 4) (a1).toNatClampNeg) ≤ ((u 0) (a2).toNatClampNeg) then (if (pX0_hasLine u w a2) = 0 then (if (pX6_isIn ((u 5) (a1).toNatClampNeg) a3) = 0 then 3 else 0) else (if ((u 1) (a2).toNatClampNeg) = a1 then (if (pX6_isIn ((u 5) (a1).toNatClampNeg) a3) = 0 then 3 else 0) else 9)) else 8))
set_option maxHeartbeats 4000000 in
set_option maxRecDepth 100000 in
theorem kX0_reasonNotToWalk (l : Launch) (D : va_G) (cyC cyI cyO : ClassId) (A : Nat → Nat) (u : (Nat → Nat → Int32)) (w : (Nat → Int32)) (a1 : Int32) (a2 : Int32) (a3 : Int32) (ho : vp_in a1 4) (hg : vp_in a2 28) : RO l yX0_reasonNotToWalk (Ty yX0_reasonNotToWalk cX0_reasonNotToWalk 4 (some .int)) ({ frames := 1, cells := 0, slots := 0, locals := 21 } : Room) D cyC cyI cyO (wC cyI A u w) [.ref (A 0), .int a1, .int a2, .int a3] (pX0_reasonNotToWalk u w a1 a2 a3) := by
  refine Met.ofW (cc := cX0_reasonNotToWalk) (maxL := 4) (ret := (some .int)) (by decide) rfl ?_
  intro p e s m args below meth cd s₁ B hml hv
  obtain ⟨rfl, hP, hK⟩ := hv
  have hx := B.exec
  have hb := B.bytes
  have hr := B.returns
  have hts : ∀ w ∈ TB, w.before ([.ref (A 0), .int a1, .int a2, .int a3] : List Value).toArray s = true := fun w h => atoms_spec (ws := (Ty yX0_reasonNotToWalk cX0_reasonNotToWalk 4 (some .int))) B.pre w (List.mem_cons_of_mem _ h)
  have hown : s.vm.findClass RX0 = some m.cls := findClass_of_methodNamed B.named
  have hlocks := B.notSynchronized
  have hl := lv_entry ([.ref (A 0), .int a1, .int a2, .int a3]) (n := 4) (Nat.le_of_ble_eq_true rfl)
  rw [lg_entry_eq]
  generalize (lg_sl ([.ref (A 0), .int a1, .int a2, .int a3]) ++ List.replicate (4 - (lg_sl ([.ref (A 0), .int a1, .int a2, .int a3])).length) Slot.unset).toArray = ls at hl ⊢
  have hl : lv_has ls 4 [(0, .ref (A 0)), (1, .int a1), (2, .int a2), (3, .int a3)] := hl
  refine lv_aload_n hx hb dX0_reasonNotToWalk_0 rfl (lv_at hl 0 rfl) ?_
  refine lv_iload_n hx hb dX0_reasonNotToWalk_1 rfl (lv_at hl 2 rfl) ?_
  refine rV (As := [.int a2]) (rest := []) hx hb hml hown hts hl.1 (kX0_isThere l D cyC cyI cyO A u w a2 hg) bV_X0_isThere  wml_RX0_116 ⟨rfl, rfl⟩ ⟨Nat.le_of_ble_eq_true rfl, Nat.le_of_ble_eq_true rfl, Nat.zero_le _, Nat.zero_le _⟩ [0, 1, 2, 3, 4, 5, 6, 7, 8] rfl hP hK 0 rfl rfl rfl rfl rfl (Nat.le_of_ble_eq_true rfl) dX0_reasonNotToWalk_2 ?_
  refine lv_if_ne (tgt := 10) hx hb dX0_reasonNotToWalk_5 (by decide) (fun c_1 => ?_) (fun c_1 => ?_)
  · refine lv_aload_n hx hb dX0_reasonNotToWalk_10 rfl (lv_at hl 0 rfl) ?_
    refine va_get (D := D) (ci := 0) (v := .ref (A 1)) (C := RX0) (T := TX0) (N := 19) hx hb hts inT_X0 hown hK.1 hP 0 rfl rfl 0 (by decide) (hts _ wfl_RX0_9) (fun _ h9 => h9) rfl dX0_reasonNotToWalk_11 ?_
    refine lv_iload_n hx hb dX0_reasonNotToWalk_14 rfl (lv_at hl 2 rfl) ?_
    refine va_iald (D := D) (f := (u 0)) hx hb hK.1 hP 1 1 rfl rfl hg dX0_reasonNotToWalk_15 ?_
    refine lv_aload_n hx hb dX0_reasonNotToWalk_16 rfl (lv_at hl 0 rfl) ?_
    refine va_get (D := D) (ci := 0) (v := .ref (A 5)) (C := RX0) (T := TX0) (N := 19) hx hb hts inT_X0 hown hK.1 hP 0 rfl rfl 4 (by decide) (hts _ wfl_RX0_24) (fun _ h9 => h9) rfl dX0_reasonNotToWalk_17 ?_
    refine lv_iload_n hx hb dX0_reasonNotToWalk_20 rfl (lv_at hl 1 rfl) ?_
    refine va_iald (D := D) (f := (u 4)) hx hb hK.1 hP 5 1 rfl rfl ho dX0_reasonNotToWalk_21 ?_
    refine lv_icmp_ge (tgt := 28) hx hb dX0_reasonNotToWalk_22 (by decide) (fun c_2 => ?_) (fun c_2 => ?_)
    · refine lv_aload_n hx hb dX0_reasonNotToWalk_28 rfl (lv_at hl 0 rfl) ?_
      refine lv_iload_n hx hb dX0_reasonNotToWalk_29 rfl (lv_at hl 2 rfl) ?_
      refine rV (As := [.int a2]) (rest := []) hx hb hml hown hts hl.1 (kX0_hasLine l D cyC cyI cyO A u w a2 hg) bV_X0_hasLine  wml_RX0_89 ⟨rfl, rfl⟩ ⟨Nat.le_of_ble_eq_true rfl, Nat.le_of_ble_eq_true rfl, Nat.zero_le _, Nat.zero_le _⟩ [0, 1, 2, 3, 4, 5, 6, 7, 8] rfl hP hK 0 rfl rfl rfl rfl rfl (Nat.le_of_ble_eq_true rfl) dX0_reasonNotToWalk_30 ?_
      refine lv_if_eq (tgt := 49) hx hb dX0_reasonNotToWalk_33 (by decide) (fun c_3 => ?_) (fun c_3 => ?_)
      · refine lv_aload_n hx hb dX0_reasonNotToWalk_49 rfl (lv_at hl 0 rfl) ?_
        refine va_get (D := D) (ci := 0) (v := .ref (A 6)) (C := RX0) (T := TX0) (N := 19) hx hb hts inT_X0 hown hK.1 hP 0 rfl rfl 5 (by decide) (hts _ wfl_RX0_27) (fun _ h9 => h9) rfl dX0_reasonNotToWalk_50 ?_
        refine lv_iload_n hx hb dX0_reasonNotToWalk_53 rfl (lv_at hl 1 rfl) ?_
        refine va_iald (D := D) (f := (u 5)) hx hb hK.1 hP 6 1 rfl rfl ho dX0_reasonNotToWalk_54 ?_
        refine lv_iload_n hx hb dX0_reasonNotToWalk_55 rfl (lv_at hl 3 rfl) ?_
        refine rN (As := [.int ((u 5) (a1).toNatClampNeg), .int a3]) (rest := []) hx hb hml hown hts hl.1 (kX6_isIn l D cyC cyI cyO ((u 5) (a1).toNatClampNeg) a3) bS_X6_isIn  hK.2.1 ⟨rfl, rfl⟩ ⟨Nat.le_of_ble_eq_true rfl, Nat.le_of_ble_eq_true rfl, Nat.zero_le _, Nat.zero_le _⟩ [] rfl hP hK rfl rfl (Nat.le_of_ble_eq_true rfl) dX0_reasonNotToWalk_56 ?_
        refine lv_if_ne (tgt := 64) hx hb dX0_reasonNotToWalk_59 (by decide) (fun c_4 => ?_) (fun c_4 => ?_)
        · refine lv_iconst (v := 0) hx hb dX0_reasonNotToWalk_64 (by decide) ?_
          have e9 : 0 = (pX0_reasonNotToWalk u w a1 a2 a3) := by simp only [pX0_reasonNotToWalk, if_neg c_1, if_pos c_2, if_pos c_3, if_neg c_4]
          exact W.iret (v := 0) hx hb hr (fun t ht hW => ⟨_, rfl, e9, ht⟩) (fun _ h => absurd h List.not_mem_nil) dX0_reasonNotToWalk_65
        · refine lv_iconst (v := 3) hx hb dX0_reasonNotToWalk_62 (by decide) ?_
          have e9 : 3 = (pX0_reasonNotToWalk u w a1 a2 a3) := by simp only [pX0_reasonNotToWalk, if_neg c_1, if_pos c_2, if_pos c_3, if_pos c_4]
          exact W.iret (v := 3) hx hb hr (fun t ht hW => ⟨_, rfl, e9, ht⟩) (fun _ h => absurd h List.not_mem_nil) dX0_reasonNotToWalk_63
      · refine lv_aload_n hx hb dX0_reasonNotToWalk_36 rfl (lv_at hl 0 rfl) ?_
        refine va_get (D := D) (ci := 0) (v := .ref (A 2)) (C := RX0) (T := TX0) (N := 19) hx hb hts inT_X0 hown hK.1 hP 0 rfl rfl 1 (by decide) (hts _ wfl_RX0_15) (fun _ h9 => h9) rfl dX0_reasonNotToWalk_37 ?_
        refine lv_iload_n hx hb dX0_reasonNotToWalk_40 rfl (lv_at hl 2 rfl) ?_
        refine va_iald (D := D) (f := (u 1)) hx hb hK.1 hP 2 1 rfl rfl hg dX0_reasonNotToWalk_41 ?_
        refine lv_iload_n hx hb dX0_reasonNotToWalk_42 rfl (lv_at hl 1 rfl) ?_
        refine lv_icmp_eq (tgt := 49) hx hb dX0_reasonNotToWalk_43 (by decide) (fun c_5 => ?_) (fun c_5 => ?_)
        · refine lv_aload_n hx hb dX0_reasonNotToWalk_49 rfl (lv_at hl 0 rfl) ?_
          refine va_get (D := D) (ci := 0) (v := .ref (A 6)) (C := RX0) (T := TX0) (N := 19) hx hb hts inT_X0 hown hK.1 hP 0 rfl rfl 5 (by decide) (hts _ wfl_RX0_27) (fun _ h9 => h9) rfl dX0_reasonNotToWalk_50 ?_
          refine lv_iload_n hx hb dX0_reasonNotToWalk_53 rfl (lv_at hl 1 rfl) ?_
          refine va_iald (D := D) (f := (u 5)) hx hb hK.1 hP 6 1 rfl rfl ho dX0_reasonNotToWalk_54 ?_
          refine lv_iload_n hx hb dX0_reasonNotToWalk_55 rfl (lv_at hl 3 rfl) ?_
          refine rN (As := [.int ((u 5) (a1).toNatClampNeg), .int a3]) (rest := []) hx hb hml hown hts hl.1 (kX6_isIn l D cyC cyI cyO ((u 5) (a1).toNatClampNeg) a3) bS_X6_isIn  hK.2.1 ⟨rfl, rfl⟩ ⟨Nat.le_of_ble_eq_true rfl, Nat.le_of_ble_eq_true rfl, Nat.zero_le _, Nat.zero_le _⟩ [] rfl hP hK rfl rfl (Nat.le_of_ble_eq_true rfl) dX0_reasonNotToWalk_56 ?_
          refine lv_if_ne (tgt := 64) hx hb dX0_reasonNotToWalk_59 (by decide) (fun c_6 => ?_) (fun c_6 => ?_)
          · refine lv_iconst (v := 0) hx hb dX0_reasonNotToWalk_64 (by decide) ?_
            have e9 : 0 = (pX0_reasonNotToWalk u w a1 a2 a3) := by simp only [pX0_reasonNotToWalk, if_neg c_1, if_pos c_2, if_neg c_3, if_pos c_5, if_neg c_6]
            exact W.iret (v := 0) hx hb hr (fun t ht hW => ⟨_, rfl, e9, ht⟩) (fun _ h => absurd h List.not_mem_nil) dX0_reasonNotToWalk_65
          · refine lv_iconst (v := 3) hx hb dX0_reasonNotToWalk_62 (by decide) ?_
            have e9 : 3 = (pX0_reasonNotToWalk u w a1 a2 a3) := by simp only [pX0_reasonNotToWalk, if_neg c_1, if_pos c_2, if_neg c_3, if_pos c_5, if_pos c_6]
            exact W.iret (v := 3) hx hb hr (fun t ht hW => ⟨_, rfl, e9, ht⟩) (fun _ h => absurd h List.not_mem_nil) dX0_reasonNotToWalk_63
        · refine lv_bipush (v := 9) hx hb dX0_reasonNotToWalk_46 (by decide) ?_
          have e9 : 9 = (pX0_reasonNotToWalk u w a1 a2 a3) := by simp only [pX0_reasonNotToWalk, if_neg c_1, if_pos c_2, if_neg c_3, if_neg c_5]
          exact W.iret (v := 9) hx hb hr (fun t ht hW => ⟨_, rfl, e9, ht⟩) (fun _ h => absurd h List.not_mem_nil) dX0_reasonNotToWalk_48
    · refine lv_bipush (v := 8) hx hb dX0_reasonNotToWalk_25 (by decide) ?_
      have e9 : 8 = (pX0_reasonNotToWalk u w a1 a2 a3) := by simp only [pX0_reasonNotToWalk, if_neg c_1, if_neg c_2]
      exact W.iret (v := 8) hx hb hr (fun t ht hW => ⟨_, rfl, e9, ht⟩) (fun _ h => absurd h List.not_mem_nil) dX0_reasonNotToWalk_27
  · refine lv_iconst (v := 1) hx hb dX0_reasonNotToWalk_8 (by decide) ?_
    have e9 : 1 = (pX0_reasonNotToWalk u w a1 a2 a3) := by simp only [pX0_reasonNotToWalk, if_pos c_1]
    exact W.iret (v := 1) hx hb hr (fun t ht hW => ⟨_, rfl, e9, ht⟩) (fun _ h => absurd h List.not_mem_nil) dX0_reasonNotToWalk_9
theorem bV_X0_reasonNotToWalk : BV RX0 yX0_reasonNotToWalk cX0_reasonNotToWalk 4 (some .int) 3 := ⟨wcd_X0_reasonNotToWalk, wim_X0_reasonNotToWalk, wse_X0_reasonNotToWalk, win_RX0, by decide +kernel⟩
def pX0_allLines_L4 (u : (Nat → Nat → Int32)) (w : (Nat → Int32)) : Nat → Int32 := fo (fun i x_i => (if (pX0_hasLine u w (nI i)) = 0 then x_i else (x_i ||| ((1 : Int32) <<< ((nI i) &&& 31))))) 0
theorem pX0_allLines_L4_s (u : (Nat → Nat → Int32)) (w : (Nat → Int32)) (i : Nat) : pX0_allLines_L4 u w (i + 1) = (if (pX0_hasLine u w (nI i)) = 0 then (pX0_allLines_L4 u w i) else ((pX0_allLines_L4 u w i) ||| ((1 : Int32) <<< ((nI i) &&& 31)))) := rfl
theorem pX0_allLines_L4_0 (u : (Nat → Nat → Int32)) (w : (Nat → Int32)) : pX0_allLines_L4 u w 0 = 0 := rfl
def pX0_allLines (u : (Nat → Nat → Int32)) (w : (Nat → Int32)) : Int32 := (pX0_allLines_L4 u w 28)
set_option maxHeartbeats 4000000 in
set_option maxRecDepth 100000 in
theorem kX0_allLines (l : Launch) (D : va_G) (cyC cyI cyO : ClassId) (A : Nat → Nat) (u : (Nat → Nat → Int32)) (w : (Nat → Int32)) : RO l yX0_allLines (Ty yX0_allLines cX0_allLines 3 (some .int)) ({ frames := 1, cells := 0, slots := 0, locals := 21 } : Room) D cyC cyI cyO (wC cyI A u w) [.ref (A 0)] (pX0_allLines u w) := by
  refine Met.ofW (cc := cX0_allLines) (maxL := 3) (ret := (some .int)) (by decide) rfl ?_
  intro p e s m args below meth cd s₁ B hml hv
  obtain ⟨rfl, hP, hK⟩ := hv
  have hx := B.exec
  have hb := B.bytes
  have hr := B.returns
  have hts : ∀ w ∈ TB, w.before ([.ref (A 0)] : List Value).toArray s = true := fun w h => atoms_spec (ws := (Ty yX0_allLines cX0_allLines 3 (some .int))) B.pre w (List.mem_cons_of_mem _ h)
  have hown : s.vm.findClass RX0 = some m.cls := findClass_of_methodNamed B.named
  have hlocks := B.notSynchronized
  have hl := lv_entry ([.ref (A 0)]) (n := 3) (Nat.le_of_ble_eq_true rfl)
  rw [lg_entry_eq]
  generalize (lg_sl ([.ref (A 0)]) ++ List.replicate (3 - (lg_sl ([.ref (A 0)])).length) Slot.unset).toArray = ls at hl ⊢
  have hl : lv_has ls 3 [(0, .ref (A 0))] := hl
  refine lv_iconst (v := 0) hx hb dX0_allLines_0 (by decide) ?_
  refine lv_istore_n (lv' := [(1, .int 0), (0, .ref (A 0))]) hx hb dX0_allLines_1 rfl hl (by decide) rfl (fun ls hl => ?_)
  refine lv_iconst (v := 0) hx hb dX0_allLines_2 (by decide) ?_
  refine lv_istore_n (lv' := [(2, .int 0), (1, .int 0), (0, .ref (A 0))]) hx hb dX0_allLines_3 rfl hl (by decide) rfl (fun ls hl => ?_)
  have key_4 : ∀ k i : Nat, i + k = 28 → ∀ (ls : Array Slot), lv_has ls 3 [(0, .ref (A 0)), (1, .int (pX0_allLines_L4 u w i)), (2, .int (nI i))] → W p l e (headSpec (Ty yX0_allLines cX0_allLines 3 (some .int)) ({ frames := 1, cells := 0, slots := 0, locals := 21 } : Room)).room s m ([.ref (A 0)] : List Value).toArray below meth cd s.heap [] 0 0 (MQ below (vp_Si (fun x => x = (pX0_allLines u w))) ([.ref (A 0)] : List Value).toArray s 0 0 (fun _ => False)) (F0 m 4 ls []) := by
    intro k
    induction k with
    | zero =>
      intro i hi ls hl
      obtain rfl : i = 28 := hi
      obtain ⟨z_1, hz_1⟩ : ∃ q, q = (pX0_allLines_L4 u w 28) := ⟨_, rfl⟩
      rw [← hz_1] at hl
      refine lv_iload_n hx hb dX0_allLines_4 rfl (lv_at hl 2 rfl) ?_
      refine lv_bipush (v := 28) hx hb dX0_allLines_5 (by decide) ?_
      refine lv_icmp_ge (tgt := 30) hx hb dX0_allLines_7 (by decide) (fun c_2 => ?_) (fun c_2 => absurd (le_of (C := 28) (N := 28) (by decide)) c_2)
      refine lv_iload_n hx hb dX0_allLines_30 rfl (lv_at hl 1 rfl) ?_
      have e9 : z_1 = (pX0_allLines u w) := by simp only [pX0_allLines, ← hz_1]
      exact W.iret (v := z_1) hx hb hr (fun t ht hW => ⟨_, rfl, e9, ht⟩) (fun _ h => absurd h List.not_mem_nil) dX0_allLines_31
    | succ k ih_4 =>
      intro i hi ls hl
      have hlt : i < 28 := by omega
      refine lv_iload_n hx hb dX0_allLines_4 rfl (lv_at hl 2 rfl) ?_
      refine lv_bipush (v := 28) hx hb dX0_allLines_5 (by decide) ?_
      refine lv_icmp_ge (tgt := 30) hx hb dX0_allLines_7 (by decide) (fun c_3 => absurd c_3 (nle_of (C := 28) (N := 28) (by decide) hlt (by decide))) (fun c_3 => ?_)
      refine lv_aload_n hx hb dX0_allLines_10 rfl (lv_at hl 0 rfl) ?_
      refine lv_iload_n hx hb dX0_allLines_11 rfl (lv_at hl 2 rfl) ?_
      refine rV (As := [.int (nI i)]) (rest := []) hx hb hml hown hts hl.1 (kX0_hasLine l D cyC cyI cyO A u w (nI i) (vp_in_nI (Nat.lt_of_lt_of_le hlt (by decide)) (by decide))) bV_X0_hasLine  wml_RX0_89 ⟨rfl, rfl⟩ ⟨Nat.le_of_ble_eq_true rfl, Nat.le_of_ble_eq_true rfl, Nat.zero_le _, Nat.zero_le _⟩ [0, 1, 2, 3, 4, 5, 6, 7, 8] rfl hP hK 0 rfl rfl rfl rfl rfl (Nat.le_of_ble_eq_true rfl) dX0_allLines_12 ?_
      refine lv_if_eq (tgt := 24) hx hb dX0_allLines_15 (by decide) (fun c_4 => ?_) (fun c_4 => ?_)
      · refine lv_iinc (v := (nI (i + 1))) (lv' := [(2, .int (nI (i + 1))), (0, .ref (A 0)), (1, .int (pX0_allLines_L4 u w i))]) hx hb dX0_allLines_24 hl (k := 2) rfl (nI_succ i).symm (by decide) rfl (fun ls hl => ?_)
        refine lv_goto (tgt := 4) hx hb dX0_allLines_27 (by decide) ?_
        have e8 : pX0_allLines_L4 u w (i + 1) = (pX0_allLines_L4 u w i) := by rw [pX0_allLines_L4_s] <;> simp only [if_pos c_4]
        exact ih_4 (i + 1) (by omega) ls (by rw [e8]; exact lv_sub hl [1, 2, 0] rfl)
      · refine lv_iload_n hx hb dX0_allLines_18 rfl (lv_at hl 1 rfl) ?_
        refine lv_iconst (v := 1) hx hb dX0_allLines_19 (by decide) ?_
        refine lv_iload_n hx hb dX0_allLines_20 rfl (lv_at hl 2 rfl) ?_
        refine lv_ishl hx hb dX0_allLines_21 ?_
        refine lv_ior hx hb dX0_allLines_22 ?_
        refine lv_istore_n (lv' := [(1, .int ((pX0_allLines_L4 u w i) ||| ((1 : Int32) <<< ((nI i) &&& 31)))), (0, .ref (A 0)), (2, .int (nI i))]) hx hb dX0_allLines_23 rfl hl (by decide) rfl (fun ls hl => ?_)
        refine lv_iinc (v := (nI (i + 1))) (lv' := [(2, .int (nI (i + 1))), (1, .int ((pX0_allLines_L4 u w i) ||| ((1 : Int32) <<< ((nI i) &&& 31)))), (0, .ref (A 0))]) hx hb dX0_allLines_24 hl (k := 2) rfl (nI_succ i).symm (by decide) rfl (fun ls hl => ?_)
        refine lv_goto (tgt := 4) hx hb dX0_allLines_27 (by decide) ?_
        have e8 : pX0_allLines_L4 u w (i + 1) = ((pX0_allLines_L4 u w i) ||| ((1 : Int32) <<< ((nI i) &&& 31))) := by rw [pX0_allLines_L4_s] <;> simp only [if_neg c_4]
        exact ih_4 (i + 1) (by omega) ls (by rw [e8]; exact lv_sub hl [2, 1, 0] rfl)
  exact key_4 28 0 (Nat.zero_add 28) ls (lv_sub hl [2, 1, 0] rfl)
theorem bV_X0_allLines : BV RX0 yX0_allLines cX0_allLines 3 (some .int) 0 := ⟨wcd_X0_allLines, wim_X0_allLines, wse_X0_allLines, win_RX0, by decide +kernel⟩
def pX0_cleanLines_L4 (u : (Nat → Nat → Int32)) (w : (Nat → Int32)) : Nat → Int32 := fo (fun i x_i => (if (pX0_hasLine u w (nI i)) = 0 then x_i else (if ((u 2) i) = 0 then (if ((u 3) i) = 0 then (x_i ||| ((1 : Int32) <<< ((nI i) &&& 31))) else x_i) else x_i))) 0
theorem pX0_cleanLines_L4_s (u : (Nat → Nat → Int32)) (w : (Nat → Int32)) (i : Nat) : pX0_cleanLines_L4 u w (i + 1) = (if (pX0_hasLine u w (nI i)) = 0 then (pX0_cleanLines_L4 u w i) else (if ((u 2) i) = 0 then (if ((u 3) i) = 0 then ((pX0_cleanLines_L4 u w i) ||| ((1 : Int32) <<< ((nI i) &&& 31))) else (pX0_cleanLines_L4 u w i)) else (pX0_cleanLines_L4 u w i))) := rfl
theorem pX0_cleanLines_L4_0 (u : (Nat → Nat → Int32)) (w : (Nat → Int32)) : pX0_cleanLines_L4 u w 0 = 0 := rfl
def pX0_cleanLines (u : (Nat → Nat → Int32)) (w : (Nat → Int32)) : Int32 := (pX0_cleanLines_L4 u w 28)
set_option maxHeartbeats 4000000 in
set_option maxRecDepth 100000 in
theorem kX0_cleanLines (l : Launch) (D : va_G) (cyC cyI cyO : ClassId) (A : Nat → Nat) (u : (Nat → Nat → Int32)) (w : (Nat → Int32)) : RO l yX0_cleanLines (Ty yX0_cleanLines cX0_cleanLines 3 (some .int)) ({ frames := 1, cells := 0, slots := 0, locals := 21 } : Room) D cyC cyI cyO (wC cyI A u w) [.ref (A 0)] (pX0_cleanLines u w) := by
  refine Met.ofW (cc := cX0_cleanLines) (maxL := 3) (ret := (some .int)) (by decide) rfl ?_
  intro p e s m args below meth cd s₁ B hml hv
  obtain ⟨rfl, hP, hK⟩ := hv
  have hx := B.exec
  have hb := B.bytes
  have hr := B.returns
  have hts : ∀ w ∈ TB, w.before ([.ref (A 0)] : List Value).toArray s = true := fun w h => atoms_spec (ws := (Ty yX0_cleanLines cX0_cleanLines 3 (some .int))) B.pre w (List.mem_cons_of_mem _ h)
  have hown : s.vm.findClass RX0 = some m.cls := findClass_of_methodNamed B.named
  have hlocks := B.notSynchronized
  have hl := lv_entry ([.ref (A 0)]) (n := 3) (Nat.le_of_ble_eq_true rfl)
  rw [lg_entry_eq]
  generalize (lg_sl ([.ref (A 0)]) ++ List.replicate (3 - (lg_sl ([.ref (A 0)])).length) Slot.unset).toArray = ls at hl ⊢
  have hl : lv_has ls 3 [(0, .ref (A 0))] := hl
  refine lv_iconst (v := 0) hx hb dX0_cleanLines_0 (by decide) ?_
  refine lv_istore_n (lv' := [(1, .int 0), (0, .ref (A 0))]) hx hb dX0_cleanLines_1 rfl hl (by decide) rfl (fun ls hl => ?_)
  refine lv_iconst (v := 0) hx hb dX0_cleanLines_2 (by decide) ?_
  refine lv_istore_n (lv' := [(2, .int 0), (1, .int 0), (0, .ref (A 0))]) hx hb dX0_cleanLines_3 rfl hl (by decide) rfl (fun ls hl => ?_)
  have key_4 : ∀ k i : Nat, i + k = 28 → ∀ (ls : Array Slot), lv_has ls 3 [(0, .ref (A 0)), (1, .int (pX0_cleanLines_L4 u w i)), (2, .int (nI i))] → W p l e (headSpec (Ty yX0_cleanLines cX0_cleanLines 3 (some .int)) ({ frames := 1, cells := 0, slots := 0, locals := 21 } : Room)).room s m ([.ref (A 0)] : List Value).toArray below meth cd s.heap [] 0 0 (MQ below (vp_Si (fun x => x = (pX0_cleanLines u w))) ([.ref (A 0)] : List Value).toArray s 0 0 (fun _ => False)) (F0 m 4 ls []) := by
    intro k
    induction k with
    | zero =>
      intro i hi ls hl
      obtain rfl : i = 28 := hi
      obtain ⟨z_1, hz_1⟩ : ∃ q, q = (pX0_cleanLines_L4 u w 28) := ⟨_, rfl⟩
      rw [← hz_1] at hl
      refine lv_iload_n hx hb dX0_cleanLines_4 rfl (lv_at hl 2 rfl) ?_
      refine lv_bipush (v := 28) hx hb dX0_cleanLines_5 (by decide) ?_
      refine lv_icmp_ge (tgt := 48) hx hb dX0_cleanLines_7 (by decide) (fun c_2 => ?_) (fun c_2 => absurd (le_of (C := 28) (N := 28) (by decide)) c_2)
      refine lv_iload_n hx hb dX0_cleanLines_48 rfl (lv_at hl 1 rfl) ?_
      have e9 : z_1 = (pX0_cleanLines u w) := by simp only [pX0_cleanLines, ← hz_1]
      exact W.iret (v := z_1) hx hb hr (fun t ht hW => ⟨_, rfl, e9, ht⟩) (fun _ h => absurd h List.not_mem_nil) dX0_cleanLines_49
    | succ k ih_4 =>
      intro i hi ls hl
      have hlt : i < 28 := by omega
      refine lv_iload_n hx hb dX0_cleanLines_4 rfl (lv_at hl 2 rfl) ?_
      refine lv_bipush (v := 28) hx hb dX0_cleanLines_5 (by decide) ?_
      refine lv_icmp_ge (tgt := 48) hx hb dX0_cleanLines_7 (by decide) (fun c_3 => absurd c_3 (nle_of (C := 28) (N := 28) (by decide) hlt (by decide))) (fun c_3 => ?_)
      refine lv_aload_n hx hb dX0_cleanLines_10 rfl (lv_at hl 0 rfl) ?_
      refine lv_iload_n hx hb dX0_cleanLines_11 rfl (lv_at hl 2 rfl) ?_
      refine rV (As := [.int (nI i)]) (rest := []) hx hb hml hown hts hl.1 (kX0_hasLine l D cyC cyI cyO A u w (nI i) (vp_in_nI (Nat.lt_of_lt_of_le hlt (by decide)) (by decide))) bV_X0_hasLine  wml_RX0_89 ⟨rfl, rfl⟩ ⟨Nat.le_of_ble_eq_true rfl, Nat.le_of_ble_eq_true rfl, Nat.zero_le _, Nat.zero_le _⟩ [0, 1, 2, 3, 4, 5, 6, 7, 8] rfl hP hK 0 rfl rfl rfl rfl rfl (Nat.le_of_ble_eq_true rfl) dX0_cleanLines_12 ?_
      refine lv_if_eq (tgt := 42) hx hb dX0_cleanLines_15 (by decide) (fun c_4 => ?_) (fun c_4 => ?_)
      · refine lv_iinc (v := (nI (i + 1))) (lv' := [(2, .int (nI (i + 1))), (0, .ref (A 0)), (1, .int (pX0_cleanLines_L4 u w i))]) hx hb dX0_cleanLines_42 hl (k := 2) rfl (nI_succ i).symm (by decide) rfl (fun ls hl => ?_)
        refine lv_goto (tgt := 4) hx hb dX0_cleanLines_45 (by decide) ?_
        have e8 : pX0_cleanLines_L4 u w (i + 1) = (pX0_cleanLines_L4 u w i) := by rw [pX0_cleanLines_L4_s] <;> simp only [if_pos c_4]
        exact ih_4 (i + 1) (by omega) ls (by rw [e8]; exact lv_sub hl [1, 2, 0] rfl)
      · refine lv_aload_n hx hb dX0_cleanLines_18 rfl (lv_at hl 0 rfl) ?_
        refine va_get (D := D) (ci := 0) (v := .ref (A 3)) (C := RX0) (T := TX0) (N := 19) hx hb hts inT_X0 hown hK.1 hP 0 rfl rfl 2 (by decide) (hts _ wfl_RX0_18) (fun _ h9 => h9) rfl dX0_cleanLines_19 ?_
        refine lv_iload_n hx hb dX0_cleanLines_22 rfl (lv_at hl 2 rfl) ?_
        refine va_iald (D := D) (f := (u 2)) hx hb hK.1 hP 3 1 rfl rfl (vp_in_nI (Nat.lt_of_lt_of_le hlt (by decide)) (by decide)) dX0_cleanLines_23 ?_
        refine W.eq (g2 := F0 m _ ls [.int ((u 2) i)]) (by rw [nI_clamp (Nat.lt_trans hlt (by decide))] <;> rfl) ?_
        refine lv_if_ne (tgt := 42) hx hb dX0_cleanLines_24 (by decide) (fun c_5 => ?_) (fun c_5 => ?_)
        · refine lv_iinc (v := (nI (i + 1))) (lv' := [(2, .int (nI (i + 1))), (0, .ref (A 0)), (1, .int (pX0_cleanLines_L4 u w i))]) hx hb dX0_cleanLines_42 hl (k := 2) rfl (nI_succ i).symm (by decide) rfl (fun ls hl => ?_)
          refine lv_goto (tgt := 4) hx hb dX0_cleanLines_45 (by decide) ?_
          have e8 : pX0_cleanLines_L4 u w (i + 1) = (pX0_cleanLines_L4 u w i) := by rw [pX0_cleanLines_L4_s] <;> simp only [if_neg c_4, if_neg c_5]
          exact ih_4 (i + 1) (by omega) ls (by rw [e8]; exact lv_sub hl [1, 2, 0] rfl)
        · refine lv_aload_n hx hb dX0_cleanLines_27 rfl (lv_at hl 0 rfl) ?_
          refine va_get (D := D) (ci := 0) (v := .ref (A 4)) (C := RX0) (T := TX0) (N := 19) hx hb hts inT_X0 hown hK.1 hP 0 rfl rfl 3 (by decide) (hts _ wfl_RX0_21) (fun _ h9 => h9) rfl dX0_cleanLines_28 ?_
          refine lv_iload_n hx hb dX0_cleanLines_31 rfl (lv_at hl 2 rfl) ?_
          refine va_iald (D := D) (f := (u 3)) hx hb hK.1 hP 4 1 rfl rfl (vp_in_nI (Nat.lt_of_lt_of_le hlt (by decide)) (by decide)) dX0_cleanLines_32 ?_
          refine W.eq (g2 := F0 m _ ls [.int ((u 3) i)]) (by rw [nI_clamp (Nat.lt_trans hlt (by decide))] <;> rfl) ?_
          refine lv_if_ne (tgt := 42) hx hb dX0_cleanLines_33 (by decide) (fun c_6 => ?_) (fun c_6 => ?_)
          · refine lv_iinc (v := (nI (i + 1))) (lv' := [(2, .int (nI (i + 1))), (0, .ref (A 0)), (1, .int (pX0_cleanLines_L4 u w i))]) hx hb dX0_cleanLines_42 hl (k := 2) rfl (nI_succ i).symm (by decide) rfl (fun ls hl => ?_)
            refine lv_goto (tgt := 4) hx hb dX0_cleanLines_45 (by decide) ?_
            have e8 : pX0_cleanLines_L4 u w (i + 1) = (pX0_cleanLines_L4 u w i) := by rw [pX0_cleanLines_L4_s] <;> simp only [if_neg c_4, if_pos c_5, if_neg c_6]
            exact ih_4 (i + 1) (by omega) ls (by rw [e8]; exact lv_sub hl [1, 2, 0] rfl)
          · refine lv_iload_n hx hb dX0_cleanLines_36 rfl (lv_at hl 1 rfl) ?_
            refine lv_iconst (v := 1) hx hb dX0_cleanLines_37 (by decide) ?_
            refine lv_iload_n hx hb dX0_cleanLines_38 rfl (lv_at hl 2 rfl) ?_
            refine lv_ishl hx hb dX0_cleanLines_39 ?_
            refine lv_ior hx hb dX0_cleanLines_40 ?_
            refine lv_istore_n (lv' := [(1, .int ((pX0_cleanLines_L4 u w i) ||| ((1 : Int32) <<< ((nI i) &&& 31)))), (0, .ref (A 0)), (2, .int (nI i))]) hx hb dX0_cleanLines_41 rfl hl (by decide) rfl (fun ls hl => ?_)
            refine lv_iinc (v := (nI (i + 1))) (lv' := [(2, .int (nI (i + 1))), (1, .int ((pX0_cleanLines_L4 u w i) ||| ((1 : Int32) <<< ((nI i) &&& 31)))), (0, .ref (A 0))]) hx hb dX0_cleanLines_42 hl (k := 2) rfl (nI_succ i).symm (by decide) rfl (fun ls hl => ?_)
            refine lv_goto (tgt := 4) hx hb dX0_cleanLines_45 (by decide) ?_
            have e8 : pX0_cleanLines_L4 u w (i + 1) = ((pX0_cleanLines_L4 u w i) ||| ((1 : Int32) <<< ((nI i) &&& 31))) := by rw [pX0_cleanLines_L4_s] <;> simp only [if_neg c_4, if_pos c_5, if_pos c_6]
            exact ih_4 (i + 1) (by omega) ls (by rw [e8]; exact lv_sub hl [2, 1, 0] rfl)
  exact key_4 28 0 (Nat.zero_add 28) ls (lv_sub hl [2, 1, 0] rfl)
theorem bV_X0_cleanLines : BV RX0 yX0_cleanLines cX0_cleanLines 3 (some .int) 0 := ⟨wcd_X0_cleanLines, wim_X0_cleanLines, wse_X0_cleanLines, win_RX0, by decide +kernel⟩
def pX0_linesOf_L4 (u : (Nat → Nat → Int32)) (w : (Nat → Int32)) (a1 : Int32) : Nat → Int32 := fo (fun i x_i => (if ((u 1) i) = a1 then (x_i ||| ((1 : Int32) <<< ((nI i) &&& 31))) else x_i)) 0
theorem pX0_linesOf_L4_s (u : (Nat → Nat → Int32)) (w : (Nat → Int32)) (a1 : Int32) (i : Nat) : pX0_linesOf_L4 u w a1 (i + 1) = (if ((u 1) i) = a1 then ((pX0_linesOf_L4 u w a1 i) ||| ((1 : Int32) <<< ((nI i) &&& 31))) else (pX0_linesOf_L4 u w a1 i)) := rfl
theorem pX0_linesOf_L4_0 (u : (Nat → Nat → Int32)) (w : (Nat → Int32)) (a1 : Int32) : pX0_linesOf_L4 u w a1 0 = 0 := rfl
def pX0_linesOf (u : (Nat → Nat → Int32)) (w : (Nat → Int32)) (a1 : Int32) : Int32 := (pX0_linesOf_L4 u w a1 28)
set_option maxHeartbeats 4000000 in
set_option maxRecDepth 100000 in
theorem kX0_linesOf (l : Launch) (D : va_G) (cyC cyI cyO : ClassId) (A : Nat → Nat) (u : (Nat → Nat → Int32)) (w : (Nat → Int32)) (a1 : Int32) : RO l yX0_linesOf (Ty yX0_linesOf cX0_linesOf 4 (some .int)) ({ frames := 0, cells := 0, slots := 0, locals := 0 } : Room) D cyC cyI cyO (wC cyI A u w) [.ref (A 0), .int a1] (pX0_linesOf u w a1) := by
  refine Met.ofW (cc := cX0_linesOf) (maxL := 4) (ret := (some .int)) (by decide) rfl ?_
  intro p e s m args below meth cd s₁ B hml hv
  obtain ⟨rfl, hP, hK⟩ := hv
  have hx := B.exec
  have hb := B.bytes
  have hr := B.returns
  have hts : ∀ w ∈ TB, w.before ([.ref (A 0), .int a1] : List Value).toArray s = true := fun w h => atoms_spec (ws := (Ty yX0_linesOf cX0_linesOf 4 (some .int))) B.pre w (List.mem_cons_of_mem _ h)
  have hown : s.vm.findClass RX0 = some m.cls := findClass_of_methodNamed B.named
  have hlocks := B.notSynchronized
  have hl := lv_entry ([.ref (A 0), .int a1]) (n := 4) (Nat.le_of_ble_eq_true rfl)
  rw [lg_entry_eq]
  generalize (lg_sl ([.ref (A 0), .int a1]) ++ List.replicate (4 - (lg_sl ([.ref (A 0), .int a1])).length) Slot.unset).toArray = ls at hl ⊢
  have hl : lv_has ls 4 [(0, .ref (A 0)), (1, .int a1)] := hl
  refine lv_iconst (v := 0) hx hb dX0_linesOf_0 (by decide) ?_
  refine lv_istore_n (lv' := [(2, .int 0), (0, .ref (A 0)), (1, .int a1)]) hx hb dX0_linesOf_1 rfl hl (by decide) rfl (fun ls hl => ?_)
  refine lv_iconst (v := 0) hx hb dX0_linesOf_2 (by decide) ?_
  refine lv_istore_n (lv' := [(3, .int 0), (2, .int 0), (0, .ref (A 0)), (1, .int a1)]) hx hb dX0_linesOf_3 rfl hl (by decide) rfl (fun ls hl => ?_)
  have key_4 : ∀ k i : Nat, i + k = 28 → ∀ (ls : Array Slot), lv_has ls 4 [(0, .ref (A 0)), (1, .int a1), (2, .int (pX0_linesOf_L4 u w a1 i)), (3, .int (nI i))] → W p l e (headSpec (Ty yX0_linesOf cX0_linesOf 4 (some .int)) ({ frames := 0, cells := 0, slots := 0, locals := 0 } : Room)).room s m ([.ref (A 0), .int a1] : List Value).toArray below meth cd s.heap [] 0 0 (MQ below (vp_Si (fun x => x = (pX0_linesOf u w a1))) ([.ref (A 0), .int a1] : List Value).toArray s 0 0 (fun _ => False)) (F0 m 4 ls []) := by
    intro k
    induction k with
    | zero =>
      intro i hi ls hl
      obtain rfl : i = 28 := hi
      obtain ⟨z_1, hz_1⟩ : ∃ q, q = (pX0_linesOf_L4 u w a1 28) := ⟨_, rfl⟩
      rw [← hz_1] at hl
      refine lv_iload_n hx hb dX0_linesOf_4 rfl (lv_at hl 3 rfl) ?_
      refine lv_bipush (v := 28) hx hb dX0_linesOf_5 (by decide) ?_
      refine lv_icmp_ge (tgt := 32) hx hb dX0_linesOf_7 (by decide) (fun c_2 => ?_) (fun c_2 => absurd (le_of (C := 28) (N := 28) (by decide)) c_2)
      refine lv_iload_n hx hb dX0_linesOf_32 rfl (lv_at hl 2 rfl) ?_
      have e9 : z_1 = (pX0_linesOf u w a1) := by simp only [pX0_linesOf, ← hz_1]
      exact W.iret (v := z_1) hx hb hr (fun t ht hW => ⟨_, rfl, e9, ht⟩) (fun _ h => absurd h List.not_mem_nil) dX0_linesOf_33
    | succ k ih_4 =>
      intro i hi ls hl
      have hlt : i < 28 := by omega
      refine lv_iload_n hx hb dX0_linesOf_4 rfl (lv_at hl 3 rfl) ?_
      refine lv_bipush (v := 28) hx hb dX0_linesOf_5 (by decide) ?_
      refine lv_icmp_ge (tgt := 32) hx hb dX0_linesOf_7 (by decide) (fun c_3 => absurd c_3 (nle_of (C := 28) (N := 28) (by decide) hlt (by decide))) (fun c_3 => ?_)
      refine lv_aload_n hx hb dX0_linesOf_10 rfl (lv_at hl 0 rfl) ?_
      refine va_get (D := D) (ci := 0) (v := .ref (A 2)) (C := RX0) (T := TX0) (N := 19) hx hb hts inT_X0 hown hK.1 hP 0 rfl rfl 1 (by decide) (hts _ wfl_RX0_15) (fun _ h9 => h9) rfl dX0_linesOf_11 ?_
      refine lv_iload_n hx hb dX0_linesOf_14 rfl (lv_at hl 3 rfl) ?_
      refine va_iald (D := D) (f := (u 1)) hx hb hK.1 hP 2 1 rfl rfl (vp_in_nI (Nat.lt_of_lt_of_le hlt (by decide)) (by decide)) dX0_linesOf_15 ?_
      refine W.eq (g2 := F0 m _ ls [.int ((u 1) i)]) (by rw [nI_clamp (Nat.lt_trans hlt (by decide))] <;> rfl) ?_
      refine lv_iload_n hx hb dX0_linesOf_16 rfl (lv_at hl 1 rfl) ?_
      refine lv_icmp_ne (tgt := 26) hx hb dX0_linesOf_17 (by decide) (fun c_4 => ?_) (fun c_4 => ?_)
      · refine lv_iinc (v := (nI (i + 1))) (lv' := [(3, .int (nI (i + 1))), (0, .ref (A 0)), (1, .int a1), (2, .int (pX0_linesOf_L4 u w a1 i))]) hx hb dX0_linesOf_26 hl (k := 3) rfl (nI_succ i).symm (by decide) rfl (fun ls hl => ?_)
        refine lv_goto (tgt := 4) hx hb dX0_linesOf_29 (by decide) ?_
        have e8 : pX0_linesOf_L4 u w a1 (i + 1) = (pX0_linesOf_L4 u w a1 i) := by rw [pX0_linesOf_L4_s] <;> simp only [if_neg c_4]
        exact ih_4 (i + 1) (by omega) ls (by rw [e8]; exact lv_sub hl [1, 2, 3, 0] rfl)
      · refine lv_iload_n hx hb dX0_linesOf_20 rfl (lv_at hl 2 rfl) ?_
        refine lv_iconst (v := 1) hx hb dX0_linesOf_21 (by decide) ?_
        refine lv_iload_n hx hb dX0_linesOf_22 rfl (lv_at hl 3 rfl) ?_
        refine lv_ishl hx hb dX0_linesOf_23 ?_
        refine lv_ior hx hb dX0_linesOf_24 ?_
        refine lv_istore_n (lv' := [(2, .int ((pX0_linesOf_L4 u w a1 i) ||| ((1 : Int32) <<< ((nI i) &&& 31)))), (0, .ref (A 0)), (1, .int a1), (3, .int (nI i))]) hx hb dX0_linesOf_25 rfl hl (by decide) rfl (fun ls hl => ?_)
        refine lv_iinc (v := (nI (i + 1))) (lv' := [(3, .int (nI (i + 1))), (2, .int ((pX0_linesOf_L4 u w a1 i) ||| ((1 : Int32) <<< ((nI i) &&& 31)))), (0, .ref (A 0)), (1, .int a1)]) hx hb dX0_linesOf_26 hl (k := 3) rfl (nI_succ i).symm (by decide) rfl (fun ls hl => ?_)
        refine lv_goto (tgt := 4) hx hb dX0_linesOf_29 (by decide) ?_
        have e8 : pX0_linesOf_L4 u w a1 (i + 1) = ((pX0_linesOf_L4 u w a1 i) ||| ((1 : Int32) <<< ((nI i) &&& 31))) := by rw [pX0_linesOf_L4_s] <;> simp only [if_pos c_4]
        exact ih_4 (i + 1) (by omega) ls (by rw [e8]; exact lv_sub hl [2, 3, 1, 0] rfl)
  exact key_4 28 0 (Nat.zero_add 28) ls (lv_sub hl [2, 3, 1, 0] rfl)
theorem bV_X0_linesOf : BV RX0 yX0_linesOf cX0_linesOf 4 (some .int) 1 := ⟨wcd_X0_linesOf, wim_X0_linesOf, wse_X0_linesOf, win_RX0, by decide +kernel⟩
def pX0_linesSmokedBy_L11 (u : (Nat → Nat → Int32)) (w : (Nat → Int32)) (a1 : Int32) : Nat → Int32 := fo (fun i x_i => (if (pX0_hasLine u w (nI i)) = 0 then x_i else (if ((pX0_smokeBlown u w a1) &&& (pX4_roofsOf (nI i))) = 0 then x_i else (x_i + (1 : Int32))))) 0
theorem pX0_linesSmokedBy_L11_s (u : (Nat → Nat → Int32)) (w : (Nat → Int32)) (a1 : Int32) (i : Nat) : pX0_linesSmokedBy_L11 u w a1 (i + 1) = (if (pX0_hasLine u w (nI i)) = 0 then (pX0_linesSmokedBy_L11 u w a1 i) else (if ((pX0_smokeBlown u w a1) &&& (pX4_roofsOf (nI i))) = 0 then (pX0_linesSmokedBy_L11 u w a1 i) else ((pX0_linesSmokedBy_L11 u w a1 i) + (1 : Int32)))) := rfl
theorem pX0_linesSmokedBy_L11_0 (u : (Nat → Nat → Int32)) (w : (Nat → Int32)) (a1 : Int32) : pX0_linesSmokedBy_L11 u w a1 0 = 0 := rfl
def pX0_linesSmokedBy (u : (Nat → Nat → Int32)) (w : (Nat → Int32)) (a1 : Int32) : Int32 := (pX0_linesSmokedBy_L11 u w a1 28)
set_option maxHeartbeats 4000000 in
set_option maxRecDepth 100000 in
theorem kX0_linesSmokedBy (l : Launch) (D : va_G) (cyC cyI cyO : ClassId) (A : Nat → Nat) (u : (Nat → Nat → Int32)) (w : (Nat → Int32)) (a1 : Int32) (hq : (w 12) < 4) : RO l yX0_linesSmokedBy (Ty yX0_linesSmokedBy cX0_linesSmokedBy 5 (some .int)) ({ frames := 3, cells := 0, slots := 0, locals := 69 } : Room) D cyC cyI cyO (wC cyI A u w) [.ref (A 0), .int a1] (pX0_linesSmokedBy u w a1) := by
  refine Met.ofW (cc := cX0_linesSmokedBy) (maxL := 5) (ret := (some .int)) (by decide) rfl ?_
  intro p e s m args below meth cd s₁ B hml hv
  obtain ⟨rfl, hP, hK⟩ := hv
  have hx := B.exec
  have hb := B.bytes
  have hr := B.returns
  have hts : ∀ w ∈ TB, w.before ([.ref (A 0), .int a1] : List Value).toArray s = true := fun w h => atoms_spec (ws := (Ty yX0_linesSmokedBy cX0_linesSmokedBy 5 (some .int))) B.pre w (List.mem_cons_of_mem _ h)
  have hown : s.vm.findClass RX0 = some m.cls := findClass_of_methodNamed B.named
  have hlocks := B.notSynchronized
  have hl := lv_entry ([.ref (A 0), .int a1]) (n := 5) (Nat.le_of_ble_eq_true rfl)
  rw [lg_entry_eq]
  generalize (lg_sl ([.ref (A 0), .int a1]) ++ List.replicate (5 - (lg_sl ([.ref (A 0), .int a1])).length) Slot.unset).toArray = ls at hl ⊢
  have hl : lv_has ls 5 [(0, .ref (A 0)), (1, .int a1)] := hl
  refine lv_aload_n hx hb dX0_linesSmokedBy_0 rfl (lv_at hl 0 rfl) ?_
  refine lv_iload_n hx hb dX0_linesSmokedBy_1 rfl (lv_at hl 1 rfl) ?_
  refine rV (As := [.int a1]) (rest := []) hx hb hml hown hts hl.1 (kX0_smokeBlown l D cyC cyI cyO A u w a1 hq) bV_X0_smokeBlown  wml_RX0_100 ⟨rfl, rfl⟩ ⟨Nat.le_of_ble_eq_true rfl, Nat.le_of_ble_eq_true rfl, Nat.zero_le _, Nat.zero_le _⟩ [0, 1, 2, 3, 4, 5, 6, 7, 8] rfl hP hK 0 rfl rfl rfl rfl rfl (Nat.le_of_ble_eq_true rfl) dX0_linesSmokedBy_2 ?_
  refine lv_istore_n (lv' := [(2, .int (pX0_smokeBlown u w a1)), (0, .ref (A 0)), (1, .int a1)]) hx hb dX0_linesSmokedBy_5 rfl hl (by decide) rfl (fun ls hl => ?_)
  refine lv_iconst (v := 0) hx hb dX0_linesSmokedBy_6 (by decide) ?_
  refine lv_istore_n (lv' := [(3, .int 0), (2, .int (pX0_smokeBlown u w a1)), (0, .ref (A 0)), (1, .int a1)]) hx hb dX0_linesSmokedBy_7 rfl hl (by decide) rfl (fun ls hl => ?_)
  refine lv_iconst (v := 0) hx hb dX0_linesSmokedBy_8 (by decide) ?_
  refine lv_istore (lv' := [(4, .int 0), (3, .int 0), (2, .int (pX0_smokeBlown u w a1)), (0, .ref (A 0)), (1, .int a1)]) hx hb dX0_linesSmokedBy_9 hl (by decide) rfl (fun ls hl => ?_)
  have key_11 : ∀ k i : Nat, i + k = 28 → ∀ (ls : Array Slot), lv_has ls 5 [(0, .ref (A 0)), (1, .int a1), (2, .int (pX0_smokeBlown u w a1)), (3, .int (pX0_linesSmokedBy_L11 u w a1 i)), (4, .int (nI i))] → W p l e (headSpec (Ty yX0_linesSmokedBy cX0_linesSmokedBy 5 (some .int)) ({ frames := 3, cells := 0, slots := 0, locals := 69 } : Room)).room s m ([.ref (A 0), .int a1] : List Value).toArray below meth cd s.heap [] 0 0 (MQ below (vp_Si (fun x => x = (pX0_linesSmokedBy u w a1))) ([.ref (A 0), .int a1] : List Value).toArray s 0 0 (fun _ => False)) (F0 m 11 ls []) := by
    intro k
    induction k with
    | zero =>
      intro i hi ls hl
      obtain rfl : i = 28 := hi
      obtain ⟨z_1, hz_1⟩ : ∃ q, q = (pX0_linesSmokedBy_L11 u w a1 28) := ⟨_, rfl⟩
      rw [← hz_1] at hl
      refine lv_iload hx hb dX0_linesSmokedBy_11 (lv_at hl 4 rfl) ?_
      refine lv_bipush (v := 28) hx hb dX0_linesSmokedBy_13 (by decide) ?_
      refine lv_icmp_ge (tgt := 46) hx hb dX0_linesSmokedBy_15 (by decide) (fun c_2 => ?_) (fun c_2 => absurd (le_of (C := 28) (N := 28) (by decide)) c_2)
      refine lv_iload_n hx hb dX0_linesSmokedBy_46 rfl (lv_at hl 3 rfl) ?_
      have e9 : z_1 = (pX0_linesSmokedBy u w a1) := by simp only [pX0_linesSmokedBy, ← hz_1]
      exact W.iret (v := z_1) hx hb hr (fun t ht hW => ⟨_, rfl, e9, ht⟩) (fun _ h => absurd h List.not_mem_nil) dX0_linesSmokedBy_47
    | succ k ih_11 =>
      intro i hi ls hl
      have hlt : i < 28 := by omega
      refine lv_iload hx hb dX0_linesSmokedBy_11 (lv_at hl 4 rfl) ?_
      refine lv_bipush (v := 28) hx hb dX0_linesSmokedBy_13 (by decide) ?_
      refine lv_icmp_ge (tgt := 46) hx hb dX0_linesSmokedBy_15 (by decide) (fun c_3 => absurd c_3 (nle_of (C := 28) (N := 28) (by decide) hlt (by decide))) (fun c_3 => ?_)
      refine lv_aload_n hx hb dX0_linesSmokedBy_18 rfl (lv_at hl 0 rfl) ?_
      refine lv_iload hx hb dX0_linesSmokedBy_19 (lv_at hl 4 rfl) ?_
      refine rV (As := [.int (nI i)]) (rest := []) hx hb hml hown hts hl.1 (kX0_hasLine l D cyC cyI cyO A u w (nI i) (vp_in_nI (Nat.lt_of_lt_of_le hlt (by decide)) (by decide))) bV_X0_hasLine  wml_RX0_89 ⟨rfl, rfl⟩ ⟨Nat.le_of_ble_eq_true rfl, Nat.le_of_ble_eq_true rfl, Nat.zero_le _, Nat.zero_le _⟩ [0, 1, 2, 3, 4, 5, 6, 7, 8] rfl hP hK 0 rfl rfl rfl rfl rfl (Nat.le_of_ble_eq_true rfl) dX0_linesSmokedBy_21 ?_
      refine lv_if_eq (tgt := 40) hx hb dX0_linesSmokedBy_24 (by decide) (fun c_4 => ?_) (fun c_4 => ?_)
      · refine lv_iinc (v := (nI (i + 1))) (lv' := [(4, .int (nI (i + 1))), (0, .ref (A 0)), (1, .int a1), (2, .int (pX0_smokeBlown u w a1)), (3, .int (pX0_linesSmokedBy_L11 u w a1 i))]) hx hb dX0_linesSmokedBy_40 hl (k := 4) rfl (nI_succ i).symm (by decide) rfl (fun ls hl => ?_)
        refine lv_goto (tgt := 11) hx hb dX0_linesSmokedBy_43 (by decide) ?_
        have e8 : pX0_linesSmokedBy_L11 u w a1 (i + 1) = (pX0_linesSmokedBy_L11 u w a1 i) := by rw [pX0_linesSmokedBy_L11_s] <;> simp only [if_pos c_4]
        exact ih_11 (i + 1) (by omega) ls (by rw [e8]; exact lv_sub hl [1, 2, 3, 4, 0] rfl)
      · refine lv_iload_n hx hb dX0_linesSmokedBy_27 rfl (lv_at hl 2 rfl) ?_
        refine lv_iload hx hb dX0_linesSmokedBy_28 (lv_at hl 4 rfl) ?_
        refine rS (As := [.int (nI i)]) (rest := [.int (pX0_smokeBlown u w a1)]) hx hb hml hown hts hl.1 (kX4_roofsOf l D cyC cyI cyO (nI i)) bS_X4_roofsOf  wml_RX0_104 ⟨rfl, rfl⟩ ⟨Nat.le_of_ble_eq_true rfl, Nat.le_of_ble_eq_true rfl, Nat.zero_le _, Nat.zero_le _⟩ [] rfl hP hK rfl rfl (Nat.le_of_ble_eq_true rfl) dX0_linesSmokedBy_30 ?_
        refine lv_iand hx hb dX0_linesSmokedBy_33 ?_
        refine lv_if_eq (tgt := 40) hx hb dX0_linesSmokedBy_34 (by decide) (fun c_5 => ?_) (fun c_5 => ?_)
        · refine lv_iinc (v := (nI (i + 1))) (lv' := [(4, .int (nI (i + 1))), (0, .ref (A 0)), (1, .int a1), (2, .int (pX0_smokeBlown u w a1)), (3, .int (pX0_linesSmokedBy_L11 u w a1 i))]) hx hb dX0_linesSmokedBy_40 hl (k := 4) rfl (nI_succ i).symm (by decide) rfl (fun ls hl => ?_)
          refine lv_goto (tgt := 11) hx hb dX0_linesSmokedBy_43 (by decide) ?_
          have e8 : pX0_linesSmokedBy_L11 u w a1 (i + 1) = (pX0_linesSmokedBy_L11 u w a1 i) := by rw [pX0_linesSmokedBy_L11_s] <;> simp only [if_neg c_4, if_pos c_5]
          exact ih_11 (i + 1) (by omega) ls (by rw [e8]; exact lv_sub hl [1, 2, 3, 4, 0] rfl)
        · refine lv_iinc (v := ((pX0_linesSmokedBy_L11 u w a1 i) + (1 : Int32))) (lv' := [(3, .int ((pX0_linesSmokedBy_L11 u w a1 i) + (1 : Int32))), (0, .ref (A 0)), (1, .int a1), (2, .int (pX0_smokeBlown u w a1)), (4, .int (nI i))]) hx hb dX0_linesSmokedBy_37 hl (k := 3) rfl rfl (by decide) rfl (fun ls hl => ?_)
          refine lv_iinc (v := (nI (i + 1))) (lv' := [(4, .int (nI (i + 1))), (3, .int ((pX0_linesSmokedBy_L11 u w a1 i) + (1 : Int32))), (0, .ref (A 0)), (1, .int a1), (2, .int (pX0_smokeBlown u w a1))]) hx hb dX0_linesSmokedBy_40 hl (k := 4) rfl (nI_succ i).symm (by decide) rfl (fun ls hl => ?_)
          refine lv_goto (tgt := 11) hx hb dX0_linesSmokedBy_43 (by decide) ?_
          have e8 : pX0_linesSmokedBy_L11 u w a1 (i + 1) = ((pX0_linesSmokedBy_L11 u w a1 i) + (1 : Int32)) := by rw [pX0_linesSmokedBy_L11_s] <;> simp only [if_neg c_4, if_neg c_5]
          exact ih_11 (i + 1) (by omega) ls (by rw [e8]; exact lv_sub hl [2, 3, 4, 1, 0] rfl)
  exact key_11 28 0 (Nat.zero_add 28) ls (lv_sub hl [3, 4, 2, 1, 0] rfl)
theorem bV_X0_linesSmokedBy : BV RX0 yX0_linesSmokedBy cX0_linesSmokedBy 5 (some .int) 1 := ⟨wcd_X0_linesSmokedBy, wim_X0_linesSmokedBy, wse_X0_linesSmokedBy, win_RX0, by decide +kernel⟩
def pX0_sumOverLines_3_L4 (u : (Nat → Nat → Int32)) (w : (Nat → Int32)) : Nat → Int32 := fo (fun i x_i => (if (pX0_hasLine u w (nI i)) = 0 then x_i else (x_i + ((u 2) i)))) 0
theorem pX0_sumOverLines_3_L4_s (u : (Nat → Nat → Int32)) (w : (Nat → Int32)) (i : Nat) : pX0_sumOverLines_3_L4 u w (i + 1) = (if (pX0_hasLine u w (nI i)) = 0 then (pX0_sumOverLines_3_L4 u w i) else ((pX0_sumOverLines_3_L4 u w i) + ((u 2) i))) := rfl
theorem pX0_sumOverLines_3_L4_0 (u : (Nat → Nat → Int32)) (w : (Nat → Int32)) : pX0_sumOverLines_3_L4 u w 0 = 0 := rfl
def pX0_sumOverLines_3 (u : (Nat → Nat → Int32)) (w : (Nat → Int32)) : Int32 := (pX0_sumOverLines_3_L4 u w 28)
set_option maxHeartbeats 4000000 in
set_option maxRecDepth 100000 in
theorem kX0_sumOverLines_3 (l : Launch) (D : va_G) (cyC cyI cyO : ClassId) (A : Nat → Nat) (u : (Nat → Nat → Int32)) (w : (Nat → Int32)) : RO l yX0_sumOverLines (Ty yX0_sumOverLines cX0_sumOverLines 4 (some .int)) ({ frames := 1, cells := 0, slots := 0, locals := 21 } : Room) D cyC cyI cyO (wC cyI A u w) [.ref (A 0), .ref (A 3)] (pX0_sumOverLines_3 u w) := by
  refine Met.ofW (cc := cX0_sumOverLines) (maxL := 4) (ret := (some .int)) (by decide) rfl ?_
  intro p e s m args below meth cd s₁ B hml hv
  obtain ⟨rfl, hP, hK⟩ := hv
  have hx := B.exec
  have hb := B.bytes
  have hr := B.returns
  have hts : ∀ w ∈ TB, w.before ([.ref (A 0), .ref (A 3)] : List Value).toArray s = true := fun w h => atoms_spec (ws := (Ty yX0_sumOverLines cX0_sumOverLines 4 (some .int))) B.pre w (List.mem_cons_of_mem _ h)
  have hown : s.vm.findClass RX0 = some m.cls := findClass_of_methodNamed B.named
  have hlocks := B.notSynchronized
  have hl := lv_entry ([.ref (A 0), .ref (A 3)]) (n := 4) (Nat.le_of_ble_eq_true rfl)
  rw [lg_entry_eq]
  generalize (lg_sl ([.ref (A 0), .ref (A 3)]) ++ List.replicate (4 - (lg_sl ([.ref (A 0), .ref (A 3)])).length) Slot.unset).toArray = ls at hl ⊢
  have hl : lv_has ls 4 [(0, .ref (A 0)), (1, .ref (A 3))] := hl
  refine lv_iconst (v := 0) hx hb dX0_sumOverLines_0 (by decide) ?_
  refine lv_istore_n (lv' := [(2, .int 0), (0, .ref (A 0)), (1, .ref (A 3))]) hx hb dX0_sumOverLines_1 rfl hl (by decide) rfl (fun ls hl => ?_)
  refine lv_iconst (v := 0) hx hb dX0_sumOverLines_2 (by decide) ?_
  refine lv_istore_n (lv' := [(3, .int 0), (2, .int 0), (0, .ref (A 0)), (1, .ref (A 3))]) hx hb dX0_sumOverLines_3 rfl hl (by decide) rfl (fun ls hl => ?_)
  have key_4 : ∀ k i : Nat, i + k = 28 → ∀ (ls : Array Slot), lv_has ls 4 [(0, .ref (A 0)), (1, .ref (A 3)), (2, .int (pX0_sumOverLines_3_L4 u w i)), (3, .int (nI i))] → W p l e (headSpec (Ty yX0_sumOverLines cX0_sumOverLines 4 (some .int)) ({ frames := 1, cells := 0, slots := 0, locals := 21 } : Room)).room s m ([.ref (A 0), .ref (A 3)] : List Value).toArray below meth cd s.heap [] 0 0 (MQ below (vp_Si (fun x => x = (pX0_sumOverLines_3 u w))) ([.ref (A 0), .ref (A 3)] : List Value).toArray s 0 0 (fun _ => False)) (F0 m 4 ls []) := by
    intro k
    induction k with
    | zero =>
      intro i hi ls hl
      obtain rfl : i = 28 := hi
      obtain ⟨z_1, hz_1⟩ : ∃ q, q = (pX0_sumOverLines_3_L4 u w 28) := ⟨_, rfl⟩
      rw [← hz_1] at hl
      refine lv_iload_n hx hb dX0_sumOverLines_4 rfl (lv_at hl 3 rfl) ?_
      refine lv_bipush (v := 28) hx hb dX0_sumOverLines_5 (by decide) ?_
      refine lv_icmp_ge (tgt := 36) hx hb dX0_sumOverLines_7 (by decide) (fun c_2 => ?_) (fun c_2 => absurd (le_of (C := 28) (N := 28) (by decide)) c_2)
      refine lv_iload_n hx hb dX0_sumOverLines_36 rfl (lv_at hl 2 rfl) ?_
      have e9 : z_1 = (pX0_sumOverLines_3 u w) := by simp only [pX0_sumOverLines_3, ← hz_1]
      exact W.iret (v := z_1) hx hb hr (fun t ht hW => ⟨_, rfl, e9, ht⟩) (fun _ h => absurd h List.not_mem_nil) dX0_sumOverLines_37
    | succ k ih_4 =>
      intro i hi ls hl
      have hlt : i < 28 := by omega
      refine lv_iload_n hx hb dX0_sumOverLines_4 rfl (lv_at hl 3 rfl) ?_
      refine lv_bipush (v := 28) hx hb dX0_sumOverLines_5 (by decide) ?_
      refine lv_icmp_ge (tgt := 36) hx hb dX0_sumOverLines_7 (by decide) (fun c_3 => absurd c_3 (nle_of (C := 28) (N := 28) (by decide) hlt (by decide))) (fun c_3 => ?_)
      refine lv_iload_n hx hb dX0_sumOverLines_10 rfl (lv_at hl 3 rfl) ?_
      refine lv_aload_n hx hb dX0_sumOverLines_11 rfl (lv_at hl 1 rfl) ?_
      refine va_alen (v := 28) hx hb hK.1 hP 3 1 rfl rfl rfl dX0_sumOverLines_12 ?_
      refine lv_icmp_ge (tgt := 36) hx hb dX0_sumOverLines_13 (by decide) (fun c_4 => absurd c_4 (nle_of (C := 28) (N := 28) (by decide) hlt (by decide))) (fun c_4 => ?_)
      refine lv_aload_n hx hb dX0_sumOverLines_16 rfl (lv_at hl 0 rfl) ?_
      refine lv_iload_n hx hb dX0_sumOverLines_17 rfl (lv_at hl 3 rfl) ?_
      refine rV (As := [.int (nI i)]) (rest := []) hx hb hml hown hts hl.1 (kX0_hasLine l D cyC cyI cyO A u w (nI i) (vp_in_nI (Nat.lt_of_lt_of_le hlt (by decide)) (by decide))) bV_X0_hasLine  wml_RX0_89 ⟨rfl, rfl⟩ ⟨Nat.le_of_ble_eq_true rfl, Nat.le_of_ble_eq_true rfl, Nat.zero_le _, Nat.zero_le _⟩ [0, 1, 2, 3, 4, 5, 6, 7, 8] rfl hP hK 0 rfl rfl rfl rfl rfl (Nat.le_of_ble_eq_true rfl) dX0_sumOverLines_18 ?_
      refine lv_if_eq (tgt := 30) hx hb dX0_sumOverLines_21 (by decide) (fun c_5 => ?_) (fun c_5 => ?_)
      · refine lv_iinc (v := (nI (i + 1))) (lv' := [(3, .int (nI (i + 1))), (0, .ref (A 0)), (1, .ref (A 3)), (2, .int (pX0_sumOverLines_3_L4 u w i))]) hx hb dX0_sumOverLines_30 hl (k := 3) rfl (nI_succ i).symm (by decide) rfl (fun ls hl => ?_)
        refine lv_goto (tgt := 4) hx hb dX0_sumOverLines_33 (by decide) ?_
        have e8 : pX0_sumOverLines_3_L4 u w (i + 1) = (pX0_sumOverLines_3_L4 u w i) := by rw [pX0_sumOverLines_3_L4_s] <;> simp only [if_pos c_5]
        exact ih_4 (i + 1) (by omega) ls (by rw [e8]; exact lv_sub hl [1, 2, 3, 0] rfl)
      · refine lv_iload_n hx hb dX0_sumOverLines_24 rfl (lv_at hl 2 rfl) ?_
        refine lv_aload_n hx hb dX0_sumOverLines_25 rfl (lv_at hl 1 rfl) ?_
        refine lv_iload_n hx hb dX0_sumOverLines_26 rfl (lv_at hl 3 rfl) ?_
        refine va_iald (D := D) (f := (u 2)) hx hb hK.1 hP 3 1 rfl rfl (vp_in_nI (Nat.lt_of_lt_of_le hlt (by decide)) (by decide)) dX0_sumOverLines_27 ?_
        refine W.eq (g2 := F0 m _ ls [.int ((u 2) i), .int (pX0_sumOverLines_3_L4 u w i)]) (by rw [nI_clamp (Nat.lt_trans hlt (by decide))] <;> rfl) ?_
        refine lv_iadd hx hb dX0_sumOverLines_28 ?_
        refine lv_istore_n (lv' := [(2, .int ((pX0_sumOverLines_3_L4 u w i) + ((u 2) i))), (0, .ref (A 0)), (1, .ref (A 3)), (3, .int (nI i))]) hx hb dX0_sumOverLines_29 rfl hl (by decide) rfl (fun ls hl => ?_)
        refine lv_iinc (v := (nI (i + 1))) (lv' := [(3, .int (nI (i + 1))), (2, .int ((pX0_sumOverLines_3_L4 u w i) + ((u 2) i))), (0, .ref (A 0)), (1, .ref (A 3))]) hx hb dX0_sumOverLines_30 hl (k := 3) rfl (nI_succ i).symm (by decide) rfl (fun ls hl => ?_)
        refine lv_goto (tgt := 4) hx hb dX0_sumOverLines_33 (by decide) ?_
        have e8 : pX0_sumOverLines_3_L4 u w (i + 1) = ((pX0_sumOverLines_3_L4 u w i) + ((u 2) i)) := by rw [pX0_sumOverLines_3_L4_s] <;> simp only [if_neg c_5]
        exact ih_4 (i + 1) (by omega) ls (by rw [e8]; exact lv_sub hl [2, 3, 1, 0] rfl)
  exact key_4 28 0 (Nat.zero_add 28) ls (lv_sub hl [2, 3, 1, 0] rfl)
theorem bV_X0_sumOverLines : BV RX0 yX0_sumOverLines cX0_sumOverLines 4 (some .int) 1 := ⟨wcd_X0_sumOverLines, wim_X0_sumOverLines, wse_X0_sumOverLines, win_RX0, by decide +kernel⟩
def pX0_sumOverLines_4_L4 (u : (Nat → Nat → Int32)) (w : (Nat → Int32)) : Nat → Int32 := fo (fun i x_i => (if (pX0_hasLine u w (nI i)) = 0 then x_i else (x_i + ((u 3) i)))) 0
theorem pX0_sumOverLines_4_L4_s (u : (Nat → Nat → Int32)) (w : (Nat → Int32)) (i : Nat) : pX0_sumOverLines_4_L4 u w (i + 1) = (if (pX0_hasLine u w (nI i)) = 0 then (pX0_sumOverLines_4_L4 u w i) else ((pX0_sumOverLines_4_L4 u w i) + ((u 3) i))) := rfl
theorem pX0_sumOverLines_4_L4_0 (u : (Nat → Nat → Int32)) (w : (Nat → Int32)) : pX0_sumOverLines_4_L4 u w 0 = 0 := rfl
def pX0_sumOverLines_4 (u : (Nat → Nat → Int32)) (w : (Nat → Int32)) : Int32 := (pX0_sumOverLines_4_L4 u w 28)
set_option maxHeartbeats 4000000 in
set_option maxRecDepth 100000 in
theorem kX0_sumOverLines_4 (l : Launch) (D : va_G) (cyC cyI cyO : ClassId) (A : Nat → Nat) (u : (Nat → Nat → Int32)) (w : (Nat → Int32)) : RO l yX0_sumOverLines (Ty yX0_sumOverLines cX0_sumOverLines 4 (some .int)) ({ frames := 1, cells := 0, slots := 0, locals := 21 } : Room) D cyC cyI cyO (wC cyI A u w) [.ref (A 0), .ref (A 4)] (pX0_sumOverLines_4 u w) := by
  refine Met.ofW (cc := cX0_sumOverLines) (maxL := 4) (ret := (some .int)) (by decide) rfl ?_
  intro p e s m args below meth cd s₁ B hml hv
  obtain ⟨rfl, hP, hK⟩ := hv
  have hx := B.exec
  have hb := B.bytes
  have hr := B.returns
  have hts : ∀ w ∈ TB, w.before ([.ref (A 0), .ref (A 4)] : List Value).toArray s = true := fun w h => atoms_spec (ws := (Ty yX0_sumOverLines cX0_sumOverLines 4 (some .int))) B.pre w (List.mem_cons_of_mem _ h)
  have hown : s.vm.findClass RX0 = some m.cls := findClass_of_methodNamed B.named
  have hlocks := B.notSynchronized
  have hl := lv_entry ([.ref (A 0), .ref (A 4)]) (n := 4) (Nat.le_of_ble_eq_true rfl)
  rw [lg_entry_eq]
  generalize (lg_sl ([.ref (A 0), .ref (A 4)]) ++ List.replicate (4 - (lg_sl ([.ref (A 0), .ref (A 4)])).length) Slot.unset).toArray = ls at hl ⊢
  have hl : lv_has ls 4 [(0, .ref (A 0)), (1, .ref (A 4))] := hl
  refine lv_iconst (v := 0) hx hb dX0_sumOverLines_0 (by decide) ?_
  refine lv_istore_n (lv' := [(2, .int 0), (0, .ref (A 0)), (1, .ref (A 4))]) hx hb dX0_sumOverLines_1 rfl hl (by decide) rfl (fun ls hl => ?_)
  refine lv_iconst (v := 0) hx hb dX0_sumOverLines_2 (by decide) ?_
  refine lv_istore_n (lv' := [(3, .int 0), (2, .int 0), (0, .ref (A 0)), (1, .ref (A 4))]) hx hb dX0_sumOverLines_3 rfl hl (by decide) rfl (fun ls hl => ?_)
  have key_4 : ∀ k i : Nat, i + k = 28 → ∀ (ls : Array Slot), lv_has ls 4 [(0, .ref (A 0)), (1, .ref (A 4)), (2, .int (pX0_sumOverLines_4_L4 u w i)), (3, .int (nI i))] → W p l e (headSpec (Ty yX0_sumOverLines cX0_sumOverLines 4 (some .int)) ({ frames := 1, cells := 0, slots := 0, locals := 21 } : Room)).room s m ([.ref (A 0), .ref (A 4)] : List Value).toArray below meth cd s.heap [] 0 0 (MQ below (vp_Si (fun x => x = (pX0_sumOverLines_4 u w))) ([.ref (A 0), .ref (A 4)] : List Value).toArray s 0 0 (fun _ => False)) (F0 m 4 ls []) := by
    intro k
    induction k with
    | zero =>
      intro i hi ls hl
      obtain rfl : i = 28 := hi
      obtain ⟨z_1, hz_1⟩ : ∃ q, q = (pX0_sumOverLines_4_L4 u w 28) := ⟨_, rfl⟩
      rw [← hz_1] at hl
      refine lv_iload_n hx hb dX0_sumOverLines_4 rfl (lv_at hl 3 rfl) ?_
      refine lv_bipush (v := 28) hx hb dX0_sumOverLines_5 (by decide) ?_
      refine lv_icmp_ge (tgt := 36) hx hb dX0_sumOverLines_7 (by decide) (fun c_2 => ?_) (fun c_2 => absurd (le_of (C := 28) (N := 28) (by decide)) c_2)
      refine lv_iload_n hx hb dX0_sumOverLines_36 rfl (lv_at hl 2 rfl) ?_
      have e9 : z_1 = (pX0_sumOverLines_4 u w) := by simp only [pX0_sumOverLines_4, ← hz_1]
      exact W.iret (v := z_1) hx hb hr (fun t ht hW => ⟨_, rfl, e9, ht⟩) (fun _ h => absurd h List.not_mem_nil) dX0_sumOverLines_37
    | succ k ih_4 =>
      intro i hi ls hl
      have hlt : i < 28 := by omega
      refine lv_iload_n hx hb dX0_sumOverLines_4 rfl (lv_at hl 3 rfl) ?_
      refine lv_bipush (v := 28) hx hb dX0_sumOverLines_5 (by decide) ?_
      refine lv_icmp_ge (tgt := 36) hx hb dX0_sumOverLines_7 (by decide) (fun c_3 => absurd c_3 (nle_of (C := 28) (N := 28) (by decide) hlt (by decide))) (fun c_3 => ?_)
      refine lv_iload_n hx hb dX0_sumOverLines_10 rfl (lv_at hl 3 rfl) ?_
      refine lv_aload_n hx hb dX0_sumOverLines_11 rfl (lv_at hl 1 rfl) ?_
      refine va_alen (v := 28) hx hb hK.1 hP 4 1 rfl rfl rfl dX0_sumOverLines_12 ?_
      refine lv_icmp_ge (tgt := 36) hx hb dX0_sumOverLines_13 (by decide) (fun c_4 => absurd c_4 (nle_of (C := 28) (N := 28) (by decide) hlt (by decide))) (fun c_4 => ?_)
      refine lv_aload_n hx hb dX0_sumOverLines_16 rfl (lv_at hl 0 rfl) ?_
      refine lv_iload_n hx hb dX0_sumOverLines_17 rfl (lv_at hl 3 rfl) ?_
      refine rV (As := [.int (nI i)]) (rest := []) hx hb hml hown hts hl.1 (kX0_hasLine l D cyC cyI cyO A u w (nI i) (vp_in_nI (Nat.lt_of_lt_of_le hlt (by decide)) (by decide))) bV_X0_hasLine  wml_RX0_89 ⟨rfl, rfl⟩ ⟨Nat.le_of_ble_eq_true rfl, Nat.le_of_ble_eq_true rfl, Nat.zero_le _, Nat.zero_le _⟩ [0, 1, 2, 3, 4, 5, 6, 7, 8] rfl hP hK 0 rfl rfl rfl rfl rfl (Nat.le_of_ble_eq_true rfl) dX0_sumOverLines_18 ?_
      refine lv_if_eq (tgt := 30) hx hb dX0_sumOverLines_21 (by decide) (fun c_5 => ?_) (fun c_5 => ?_)
      · refine lv_iinc (v := (nI (i + 1))) (lv' := [(3, .int (nI (i + 1))), (0, .ref (A 0)), (1, .ref (A 4)), (2, .int (pX0_sumOverLines_4_L4 u w i))]) hx hb dX0_sumOverLines_30 hl (k := 3) rfl (nI_succ i).symm (by decide) rfl (fun ls hl => ?_)
        refine lv_goto (tgt := 4) hx hb dX0_sumOverLines_33 (by decide) ?_
        have e8 : pX0_sumOverLines_4_L4 u w (i + 1) = (pX0_sumOverLines_4_L4 u w i) := by rw [pX0_sumOverLines_4_L4_s] <;> simp only [if_pos c_5]
        exact ih_4 (i + 1) (by omega) ls (by rw [e8]; exact lv_sub hl [1, 2, 3, 0] rfl)
      · refine lv_iload_n hx hb dX0_sumOverLines_24 rfl (lv_at hl 2 rfl) ?_
        refine lv_aload_n hx hb dX0_sumOverLines_25 rfl (lv_at hl 1 rfl) ?_
        refine lv_iload_n hx hb dX0_sumOverLines_26 rfl (lv_at hl 3 rfl) ?_
        refine va_iald (D := D) (f := (u 3)) hx hb hK.1 hP 4 1 rfl rfl (vp_in_nI (Nat.lt_of_lt_of_le hlt (by decide)) (by decide)) dX0_sumOverLines_27 ?_
        refine W.eq (g2 := F0 m _ ls [.int ((u 3) i), .int (pX0_sumOverLines_4_L4 u w i)]) (by rw [nI_clamp (Nat.lt_trans hlt (by decide))] <;> rfl) ?_
        refine lv_iadd hx hb dX0_sumOverLines_28 ?_
        refine lv_istore_n (lv' := [(2, .int ((pX0_sumOverLines_4_L4 u w i) + ((u 3) i))), (0, .ref (A 0)), (1, .ref (A 4)), (3, .int (nI i))]) hx hb dX0_sumOverLines_29 rfl hl (by decide) rfl (fun ls hl => ?_)
        refine lv_iinc (v := (nI (i + 1))) (lv' := [(3, .int (nI (i + 1))), (2, .int ((pX0_sumOverLines_4_L4 u w i) + ((u 3) i))), (0, .ref (A 0)), (1, .ref (A 4))]) hx hb dX0_sumOverLines_30 hl (k := 3) rfl (nI_succ i).symm (by decide) rfl (fun ls hl => ?_)
        refine lv_goto (tgt := 4) hx hb dX0_sumOverLines_33 (by decide) ?_
        have e8 : pX0_sumOverLines_4_L4 u w (i + 1) = ((pX0_sumOverLines_4_L4 u w i) + ((u 3) i)) := by rw [pX0_sumOverLines_4_L4_s] <;> simp only [if_neg c_5]
        exact ih_4 (i + 1) (by omega) ls (by rw [e8]; exact lv_sub hl [2, 3, 1, 0] rfl)
  exact key_4 28 0 (Nat.zero_add 28) ls (lv_sub hl [2, 3, 1, 0] rfl)
def pX0_standingGangways_L4 (u : (Nat → Nat → Int32)) (w : (Nat → Int32)) : Nat → Int32 := fo (fun i x_i => (if (pX0_isThere u w (nI i)) = 0 then x_i else (x_i ||| ((1 : Int32) <<< ((nI i) &&& 31))))) 0
theorem pX0_standingGangways_L4_s (u : (Nat → Nat → Int32)) (w : (Nat → Int32)) (i : Nat) : pX0_standingGangways_L4 u w (i + 1) = (if (pX0_isThere u w (nI i)) = 0 then (pX0_standingGangways_L4 u w i) else ((pX0_standingGangways_L4 u w i) ||| ((1 : Int32) <<< ((nI i) &&& 31)))) := rfl
theorem pX0_standingGangways_L4_0 (u : (Nat → Nat → Int32)) (w : (Nat → Int32)) : pX0_standingGangways_L4 u w 0 = 0 := rfl
def pX0_standingGangways (u : (Nat → Nat → Int32)) (w : (Nat → Int32)) : Int32 := (pX0_standingGangways_L4 u w 28)
set_option maxHeartbeats 4000000 in
set_option maxRecDepth 100000 in
theorem kX0_standingGangways (l : Launch) (D : va_G) (cyC cyI cyO : ClassId) (A : Nat → Nat) (u : (Nat → Nat → Int32)) (w : (Nat → Int32)) : RO l yX0_standingGangways (Ty yX0_standingGangways cX0_standingGangways 3 (some .int)) ({ frames := 1, cells := 0, slots := 0, locals := 21 } : Room) D cyC cyI cyO (wC cyI A u w) [.ref (A 0)] (pX0_standingGangways u w) := by
  refine Met.ofW (cc := cX0_standingGangways) (maxL := 3) (ret := (some .int)) (by decide) rfl ?_
  intro p e s m args below meth cd s₁ B hml hv
  obtain ⟨rfl, hP, hK⟩ := hv
  have hx := B.exec
  have hb := B.bytes
  have hr := B.returns
  have hts : ∀ w ∈ TB, w.before ([.ref (A 0)] : List Value).toArray s = true := fun w h => atoms_spec (ws := (Ty yX0_standingGangways cX0_standingGangways 3 (some .int))) B.pre w (List.mem_cons_of_mem _ h)
  have hown : s.vm.findClass RX0 = some m.cls := findClass_of_methodNamed B.named
  have hlocks := B.notSynchronized
  have hl := lv_entry ([.ref (A 0)]) (n := 3) (Nat.le_of_ble_eq_true rfl)
  rw [lg_entry_eq]
  generalize (lg_sl ([.ref (A 0)]) ++ List.replicate (3 - (lg_sl ([.ref (A 0)])).length) Slot.unset).toArray = ls at hl ⊢
  have hl : lv_has ls 3 [(0, .ref (A 0))] := hl
  refine lv_iconst (v := 0) hx hb dX0_standingGangways_0 (by decide) ?_
  refine lv_istore_n (lv' := [(1, .int 0), (0, .ref (A 0))]) hx hb dX0_standingGangways_1 rfl hl (by decide) rfl (fun ls hl => ?_)
  refine lv_iconst (v := 0) hx hb dX0_standingGangways_2 (by decide) ?_
  refine lv_istore_n (lv' := [(2, .int 0), (1, .int 0), (0, .ref (A 0))]) hx hb dX0_standingGangways_3 rfl hl (by decide) rfl (fun ls hl => ?_)
  have key_4 : ∀ k i : Nat, i + k = 28 → ∀ (ls : Array Slot), lv_has ls 3 [(0, .ref (A 0)), (1, .int (pX0_standingGangways_L4 u w i)), (2, .int (nI i))] → W p l e (headSpec (Ty yX0_standingGangways cX0_standingGangways 3 (some .int)) ({ frames := 1, cells := 0, slots := 0, locals := 21 } : Room)).room s m ([.ref (A 0)] : List Value).toArray below meth cd s.heap [] 0 0 (MQ below (vp_Si (fun x => x = (pX0_standingGangways u w))) ([.ref (A 0)] : List Value).toArray s 0 0 (fun _ => False)) (F0 m 4 ls []) := by
    intro k
    induction k with
    | zero =>
      intro i hi ls hl
      obtain rfl : i = 28 := hi
      obtain ⟨z_1, hz_1⟩ : ∃ q, q = (pX0_standingGangways_L4 u w 28) := ⟨_, rfl⟩
      rw [← hz_1] at hl
      refine lv_iload_n hx hb dX0_standingGangways_4 rfl (lv_at hl 2 rfl) ?_
      refine lv_bipush (v := 28) hx hb dX0_standingGangways_5 (by decide) ?_
      refine lv_icmp_ge (tgt := 30) hx hb dX0_standingGangways_7 (by decide) (fun c_2 => ?_) (fun c_2 => absurd (le_of (C := 28) (N := 28) (by decide)) c_2)
      refine lv_iload_n hx hb dX0_standingGangways_30 rfl (lv_at hl 1 rfl) ?_
      have e9 : z_1 = (pX0_standingGangways u w) := by simp only [pX0_standingGangways, ← hz_1]
      exact W.iret (v := z_1) hx hb hr (fun t ht hW => ⟨_, rfl, e9, ht⟩) (fun _ h => absurd h List.not_mem_nil) dX0_standingGangways_31
    | succ k ih_4 =>
      intro i hi ls hl
      have hlt : i < 28 := by omega
      refine lv_iload_n hx hb dX0_standingGangways_4 rfl (lv_at hl 2 rfl) ?_
      refine lv_bipush (v := 28) hx hb dX0_standingGangways_5 (by decide) ?_
      refine lv_icmp_ge (tgt := 30) hx hb dX0_standingGangways_7 (by decide) (fun c_3 => absurd c_3 (nle_of (C := 28) (N := 28) (by decide) hlt (by decide))) (fun c_3 => ?_)
      refine lv_aload_n hx hb dX0_standingGangways_10 rfl (lv_at hl 0 rfl) ?_
      refine lv_iload_n hx hb dX0_standingGangways_11 rfl (lv_at hl 2 rfl) ?_
      refine rV (As := [.int (nI i)]) (rest := []) hx hb hml hown hts hl.1 (kX0_isThere l D cyC cyI cyO A u w (nI i) (vp_in_nI (Nat.lt_of_lt_of_le hlt (by decide)) (by decide))) bV_X0_isThere  wml_RX0_116 ⟨rfl, rfl⟩ ⟨Nat.le_of_ble_eq_true rfl, Nat.le_of_ble_eq_true rfl, Nat.zero_le _, Nat.zero_le _⟩ [0, 1, 2, 3, 4, 5, 6, 7, 8] rfl hP hK 0 rfl rfl rfl rfl rfl (Nat.le_of_ble_eq_true rfl) dX0_standingGangways_12 ?_
      refine lv_if_eq (tgt := 24) hx hb dX0_standingGangways_15 (by decide) (fun c_4 => ?_) (fun c_4 => ?_)
      · refine lv_iinc (v := (nI (i + 1))) (lv' := [(2, .int (nI (i + 1))), (0, .ref (A 0)), (1, .int (pX0_standingGangways_L4 u w i))]) hx hb dX0_standingGangways_24 hl (k := 2) rfl (nI_succ i).symm (by decide) rfl (fun ls hl => ?_)
        refine lv_goto (tgt := 4) hx hb dX0_standingGangways_27 (by decide) ?_
        have e8 : pX0_standingGangways_L4 u w (i + 1) = (pX0_standingGangways_L4 u w i) := by rw [pX0_standingGangways_L4_s] <;> simp only [if_pos c_4]
        exact ih_4 (i + 1) (by omega) ls (by rw [e8]; exact lv_sub hl [1, 2, 0] rfl)
      · refine lv_iload_n hx hb dX0_standingGangways_18 rfl (lv_at hl 1 rfl) ?_
        refine lv_iconst (v := 1) hx hb dX0_standingGangways_19 (by decide) ?_
        refine lv_iload_n hx hb dX0_standingGangways_20 rfl (lv_at hl 2 rfl) ?_
        refine lv_ishl hx hb dX0_standingGangways_21 ?_
        refine lv_ior hx hb dX0_standingGangways_22 ?_
        refine lv_istore_n (lv' := [(1, .int ((pX0_standingGangways_L4 u w i) ||| ((1 : Int32) <<< ((nI i) &&& 31)))), (0, .ref (A 0)), (2, .int (nI i))]) hx hb dX0_standingGangways_23 rfl hl (by decide) rfl (fun ls hl => ?_)
        refine lv_iinc (v := (nI (i + 1))) (lv' := [(2, .int (nI (i + 1))), (1, .int ((pX0_standingGangways_L4 u w i) ||| ((1 : Int32) <<< ((nI i) &&& 31)))), (0, .ref (A 0))]) hx hb dX0_standingGangways_24 hl (k := 2) rfl (nI_succ i).symm (by decide) rfl (fun ls hl => ?_)
        refine lv_goto (tgt := 4) hx hb dX0_standingGangways_27 (by decide) ?_
        have e8 : pX0_standingGangways_L4 u w (i + 1) = ((pX0_standingGangways_L4 u w i) ||| ((1 : Int32) <<< ((nI i) &&& 31))) := by rw [pX0_standingGangways_L4_s] <;> simp only [if_neg c_4]
        exact ih_4 (i + 1) (by omega) ls (by rw [e8]; exact lv_sub hl [2, 1, 0] rfl)
  exact key_4 28 0 (Nat.zero_add 28) ls (lv_sub hl [2, 1, 0] rfl)
theorem bV_X0_standingGangways : BV RX0 yX0_standingGangways cX0_standingGangways 3 (some .int) 0 := ⟨wcd_X0_standingGangways, wim_X0_standingGangways, wse_X0_standingGangways, win_RX0, by decide +kernel⟩
def pX0_ownersOn_L4 (u : (Nat → Nat → Int32)) (w : (Nat → Int32)) (a1 : Int32) : Nat → Int32 := fo (fun i x_i => (if ((u 6) i) = a1 then (x_i ||| ((1 : Int32) <<< ((nI i) &&& 31))) else x_i)) 0
theorem pX0_ownersOn_L4_s (u : (Nat → Nat → Int32)) (w : (Nat → Int32)) (a1 : Int32) (i : Nat) : pX0_ownersOn_L4 u w a1 (i + 1) = (if ((u 6) i) = a1 then ((pX0_ownersOn_L4 u w a1 i) ||| ((1 : Int32) <<< ((nI i) &&& 31))) else (pX0_ownersOn_L4 u w a1 i)) := rfl
theorem pX0_ownersOn_L4_0 (u : (Nat → Nat → Int32)) (w : (Nat → Int32)) (a1 : Int32) : pX0_ownersOn_L4 u w a1 0 = 0 := rfl
def pX0_ownersOn (u : (Nat → Nat → Int32)) (w : (Nat → Int32)) (a1 : Int32) : Int32 := (pX0_ownersOn_L4 u w a1 4)
set_option maxHeartbeats 4000000 in
set_option maxRecDepth 100000 in
theorem kX0_ownersOn (l : Launch) (D : va_G) (cyC cyI cyO : ClassId) (A : Nat → Nat) (u : (Nat → Nat → Int32)) (w : (Nat → Int32)) (a1 : Int32) : RO l yX0_ownersOn (Ty yX0_ownersOn cX0_ownersOn 4 (some .int)) ({ frames := 0, cells := 0, slots := 0, locals := 0 } : Room) D cyC cyI cyO (wC cyI A u w) [.ref (A 0), .int a1] (pX0_ownersOn u w a1) := by
  refine Met.ofW (cc := cX0_ownersOn) (maxL := 4) (ret := (some .int)) (by decide) rfl ?_
  intro p e s m args below meth cd s₁ B hml hv
  obtain ⟨rfl, hP, hK⟩ := hv
  have hx := B.exec
  have hb := B.bytes
  have hr := B.returns
  have hts : ∀ w ∈ TB, w.before ([.ref (A 0), .int a1] : List Value).toArray s = true := fun w h => atoms_spec (ws := (Ty yX0_ownersOn cX0_ownersOn 4 (some .int))) B.pre w (List.mem_cons_of_mem _ h)
  have hown : s.vm.findClass RX0 = some m.cls := findClass_of_methodNamed B.named
  have hlocks := B.notSynchronized
  have hl := lv_entry ([.ref (A 0), .int a1]) (n := 4) (Nat.le_of_ble_eq_true rfl)
  rw [lg_entry_eq]
  generalize (lg_sl ([.ref (A 0), .int a1]) ++ List.replicate (4 - (lg_sl ([.ref (A 0), .int a1])).length) Slot.unset).toArray = ls at hl ⊢
  have hl : lv_has ls 4 [(0, .ref (A 0)), (1, .int a1)] := hl
  refine lv_iconst (v := 0) hx hb dX0_ownersOn_0 (by decide) ?_
  refine lv_istore_n (lv' := [(2, .int 0), (0, .ref (A 0)), (1, .int a1)]) hx hb dX0_ownersOn_1 rfl hl (by decide) rfl (fun ls hl => ?_)
  refine lv_iconst (v := 0) hx hb dX0_ownersOn_2 (by decide) ?_
  refine lv_istore_n (lv' := [(3, .int 0), (2, .int 0), (0, .ref (A 0)), (1, .int a1)]) hx hb dX0_ownersOn_3 rfl hl (by decide) rfl (fun ls hl => ?_)
  have key_4 : ∀ k i : Nat, i + k = 4 → ∀ (ls : Array Slot), lv_has ls 4 [(0, .ref (A 0)), (1, .int a1), (2, .int (pX0_ownersOn_L4 u w a1 i)), (3, .int (nI i))] → W p l e (headSpec (Ty yX0_ownersOn cX0_ownersOn 4 (some .int)) ({ frames := 0, cells := 0, slots := 0, locals := 0 } : Room)).room s m ([.ref (A 0), .int a1] : List Value).toArray below meth cd s.heap [] 0 0 (MQ below (vp_Si (fun x => x = (pX0_ownersOn u w a1))) ([.ref (A 0), .int a1] : List Value).toArray s 0 0 (fun _ => False)) (F0 m 4 ls []) := by
    intro k
    induction k with
    | zero =>
      intro i hi ls hl
      obtain rfl : i = 4 := hi
      obtain ⟨z_1, hz_1⟩ : ∃ q, q = (pX0_ownersOn_L4 u w a1 4) := ⟨_, rfl⟩
      rw [← hz_1] at hl
      refine lv_iload_n hx hb dX0_ownersOn_4 rfl (lv_at hl 3 rfl) ?_
      refine lv_iconst (v := 4) hx hb dX0_ownersOn_5 (by decide) ?_
      refine lv_icmp_ge (tgt := 31) hx hb dX0_ownersOn_6 (by decide) (fun c_2 => ?_) (fun c_2 => absurd (le_of (C := 4) (N := 4) (by decide)) c_2)
      refine lv_iload_n hx hb dX0_ownersOn_31 rfl (lv_at hl 2 rfl) ?_
      have e9 : z_1 = (pX0_ownersOn u w a1) := by simp only [pX0_ownersOn, ← hz_1]
      exact W.iret (v := z_1) hx hb hr (fun t ht hW => ⟨_, rfl, e9, ht⟩) (fun _ h => absurd h List.not_mem_nil) dX0_ownersOn_32
    | succ k ih_4 =>
      intro i hi ls hl
      have hlt : i < 4 := by omega
      refine lv_iload_n hx hb dX0_ownersOn_4 rfl (lv_at hl 3 rfl) ?_
      refine lv_iconst (v := 4) hx hb dX0_ownersOn_5 (by decide) ?_
      refine lv_icmp_ge (tgt := 31) hx hb dX0_ownersOn_6 (by decide) (fun c_3 => absurd c_3 (nle_of (C := 4) (N := 4) (by decide) hlt (by decide))) (fun c_3 => ?_)
      refine lv_aload_n hx hb dX0_ownersOn_9 rfl (lv_at hl 0 rfl) ?_
      refine va_get (D := D) (ci := 0) (v := .ref (A 7)) (C := RX0) (T := TX0) (N := 19) hx hb hts inT_X0 hown hK.1 hP 0 rfl rfl 6 (by decide) (hts _ wfl_RX0_30) (fun _ h9 => h9) rfl dX0_ownersOn_10 ?_
      refine lv_iload_n hx hb dX0_ownersOn_13 rfl (lv_at hl 3 rfl) ?_
      refine va_iald (D := D) (f := (u 6)) hx hb hK.1 hP 7 1 rfl rfl (vp_in_nI (Nat.lt_of_lt_of_le hlt (by decide)) (by decide)) dX0_ownersOn_14 ?_
      refine W.eq (g2 := F0 m _ ls [.int ((u 6) i)]) (by rw [nI_clamp (Nat.lt_trans hlt (by decide))] <;> rfl) ?_
      refine lv_iload_n hx hb dX0_ownersOn_15 rfl (lv_at hl 1 rfl) ?_
      refine lv_icmp_ne (tgt := 25) hx hb dX0_ownersOn_16 (by decide) (fun c_4 => ?_) (fun c_4 => ?_)
      · refine lv_iinc (v := (nI (i + 1))) (lv' := [(3, .int (nI (i + 1))), (0, .ref (A 0)), (1, .int a1), (2, .int (pX0_ownersOn_L4 u w a1 i))]) hx hb dX0_ownersOn_25 hl (k := 3) rfl (nI_succ i).symm (by decide) rfl (fun ls hl => ?_)
        refine lv_goto (tgt := 4) hx hb dX0_ownersOn_28 (by decide) ?_
        have e8 : pX0_ownersOn_L4 u w a1 (i + 1) = (pX0_ownersOn_L4 u w a1 i) := by rw [pX0_ownersOn_L4_s] <;> simp only [if_neg c_4]
        exact ih_4 (i + 1) (by omega) ls (by rw [e8]; exact lv_sub hl [1, 2, 3, 0] rfl)
      · refine lv_iload_n hx hb dX0_ownersOn_19 rfl (lv_at hl 2 rfl) ?_
        refine lv_iconst (v := 1) hx hb dX0_ownersOn_20 (by decide) ?_
        refine lv_iload_n hx hb dX0_ownersOn_21 rfl (lv_at hl 3 rfl) ?_
        refine lv_ishl hx hb dX0_ownersOn_22 ?_
        refine lv_ior hx hb dX0_ownersOn_23 ?_
        refine lv_istore_n (lv' := [(2, .int ((pX0_ownersOn_L4 u w a1 i) ||| ((1 : Int32) <<< ((nI i) &&& 31)))), (0, .ref (A 0)), (1, .int a1), (3, .int (nI i))]) hx hb dX0_ownersOn_24 rfl hl (by decide) rfl (fun ls hl => ?_)
        refine lv_iinc (v := (nI (i + 1))) (lv' := [(3, .int (nI (i + 1))), (2, .int ((pX0_ownersOn_L4 u w a1 i) ||| ((1 : Int32) <<< ((nI i) &&& 31)))), (0, .ref (A 0)), (1, .int a1)]) hx hb dX0_ownersOn_25 hl (k := 3) rfl (nI_succ i).symm (by decide) rfl (fun ls hl => ?_)
        refine lv_goto (tgt := 4) hx hb dX0_ownersOn_28 (by decide) ?_
        have e8 : pX0_ownersOn_L4 u w a1 (i + 1) = ((pX0_ownersOn_L4 u w a1 i) ||| ((1 : Int32) <<< ((nI i) &&& 31))) := by rw [pX0_ownersOn_L4_s] <;> simp only [if_pos c_4]
        exact ih_4 (i + 1) (by omega) ls (by rw [e8]; exact lv_sub hl [2, 3, 1, 0] rfl)
  exact key_4 4 0 (Nat.zero_add 4) ls (lv_sub hl [2, 3, 1, 0] rfl)
theorem bV_X0_ownersOn : BV RX0 yX0_ownersOn cX0_ownersOn 4 (some .int) 1 := ⟨wcd_X0_ownersOn, wim_X0_ownersOn, wse_X0_ownersOn, win_RX0, by decide +kernel⟩
def pX0_walksOpenTo_L4 (u : (Nat → Nat → Int32)) (w : (Nat → Int32)) (a1 : Int32) : Nat → Int32 := fo (fun i x_i => (if (pX0_standsAt u w a1 (nI i)) = 0 then x_i else (if (pX0_reasonNotToWalk u w a1 (nI i) (pX4_otherRoof (nI i) ((u 6) (a1).toNatClampNeg))) = 0 then (x_i + (1 : Int32)) else x_i))) 0
theorem pX0_walksOpenTo_L4_s (u : (Nat → Nat → Int32)) (w : (Nat → Int32)) (a1 : Int32) (i : Nat) : pX0_walksOpenTo_L4 u w a1 (i + 1) = (if (pX0_standsAt u w a1 (nI i)) = 0 then (pX0_walksOpenTo_L4 u w a1 i) else (if (pX0_reasonNotToWalk u w a1 (nI i) (pX4_otherRoof (nI i) ((u 6) (a1).toNatClampNeg))) = 0 then ((pX0_walksOpenTo_L4 u w a1 i) + (1 : Int32)) else (pX0_walksOpenTo_L4 u w a1 i))) := rfl
theorem pX0_walksOpenTo_L4_0 (u : (Nat → Nat → Int32)) (w : (Nat → Int32)) (a1 : Int32) : pX0_walksOpenTo_L4 u w a1 0 = 0 := rfl
def pX0_walksOpenTo (u : (Nat → Nat → Int32)) (w : (Nat → Int32)) (a1 : Int32) : Int32 := (pX0_walksOpenTo_L4 u w a1 28)
set_option maxHeartbeats 4000000 in
set_option maxRecDepth 100000 in
theorem kX0_walksOpenTo (l : Launch) (D : va_G) (cyC cyI cyO : ClassId) (A : Nat → Nat) (u : (Nat → Nat → Int32)) (w : (Nat → Int32)) (a1 : Int32) (ho : vp_in a1 4) : RO l yX0_walksOpenTo (Ty yX0_walksOpenTo cX0_walksOpenTo 5 (some .int)) ({ frames := 4, cells := 0, slots := 0, locals := 82 } : Room) D cyC cyI cyO (wC cyI A u w) [.ref (A 0), .int a1] (pX0_walksOpenTo u w a1) := by
  refine Met.ofW (cc := cX0_walksOpenTo) (maxL := 5) (ret := (some .int)) (by decide) rfl ?_
  intro p e s m args below meth cd s₁ B hml hv
  obtain ⟨rfl, hP, hK⟩ := hv
  have hx := B.exec
  have hb := B.bytes
  have hr := B.returns
  have hts : ∀ w ∈ TB, w.before ([.ref (A 0), .int a1] : List Value).toArray s = true := fun w h => atoms_spec (ws := (Ty yX0_walksOpenTo cX0_walksOpenTo 5 (some .int))) B.pre w (List.mem_cons_of_mem _ h)
  have hown : s.vm.findClass RX0 = some m.cls := findClass_of_methodNamed B.named
  have hlocks := B.notSynchronized
  have hl := lv_entry ([.ref (A 0), .int a1]) (n := 5) (Nat.le_of_ble_eq_true rfl)
  rw [lg_entry_eq]
  generalize (lg_sl ([.ref (A 0), .int a1]) ++ List.replicate (5 - (lg_sl ([.ref (A 0), .int a1])).length) Slot.unset).toArray = ls at hl ⊢
  have hl : lv_has ls 5 [(0, .ref (A 0)), (1, .int a1)] := hl
  refine lv_iconst (v := 0) hx hb dX0_walksOpenTo_0 (by decide) ?_
  refine lv_istore_n (lv' := [(2, .int 0), (0, .ref (A 0)), (1, .int a1)]) hx hb dX0_walksOpenTo_1 rfl hl (by decide) rfl (fun ls hl => ?_)
  refine lv_iconst (v := 0) hx hb dX0_walksOpenTo_2 (by decide) ?_
  refine lv_istore_n (lv' := [(3, .int 0), (2, .int 0), (0, .ref (A 0)), (1, .int a1)]) hx hb dX0_walksOpenTo_3 rfl hl (by decide) rfl (fun ls hl => ?_)
  have key_4 : ∀ k i : Nat, i + k = 28 → ∀ (ls : Array Slot), lv_has ls 5 [(0, .ref (A 0)), (1, .int a1), (2, .int (pX0_walksOpenTo_L4 u w a1 i)), (3, .int (nI i))] → W p l e (headSpec (Ty yX0_walksOpenTo cX0_walksOpenTo 5 (some .int)) ({ frames := 4, cells := 0, slots := 0, locals := 82 } : Room)).room s m ([.ref (A 0), .int a1] : List Value).toArray below meth cd s.heap [] 0 0 (MQ below (vp_Si (fun x => x = (pX0_walksOpenTo u w a1))) ([.ref (A 0), .int a1] : List Value).toArray s 0 0 (fun _ => False)) (F0 m 4 ls []) := by
    intro k
    induction k with
    | zero =>
      intro i hi ls hl
      obtain rfl : i = 28 := hi
      obtain ⟨z_1, hz_1⟩ : ∃ q, q = (pX0_walksOpenTo_L4 u w a1 28) := ⟨_, rfl⟩
      rw [← hz_1] at hl
      refine lv_iload_n hx hb dX0_walksOpenTo_4 rfl (lv_at hl 3 rfl) ?_
      refine lv_bipush (v := 28) hx hb dX0_walksOpenTo_5 (by decide) ?_
      refine lv_icmp_ge (tgt := 51) hx hb dX0_walksOpenTo_7 (by decide) (fun c_2 => ?_) (fun c_2 => absurd (le_of (C := 28) (N := 28) (by decide)) c_2)
      refine lv_iload_n hx hb dX0_walksOpenTo_51 rfl (lv_at hl 2 rfl) ?_
      have e9 : z_1 = (pX0_walksOpenTo u w a1) := by simp only [pX0_walksOpenTo, ← hz_1]
      exact W.iret (v := z_1) hx hb hr (fun t ht hW => ⟨_, rfl, e9, ht⟩) (fun _ h => absurd h List.not_mem_nil) dX0_walksOpenTo_52
    | succ k ih_4 =>
      intro i hi ls hl
      have hlt : i < 28 := by omega
      refine lv_iload_n hx hb dX0_walksOpenTo_4 rfl (lv_at hl 3 rfl) ?_
      refine lv_bipush (v := 28) hx hb dX0_walksOpenTo_5 (by decide) ?_
      refine lv_icmp_ge (tgt := 51) hx hb dX0_walksOpenTo_7 (by decide) (fun c_3 => absurd c_3 (nle_of (C := 28) (N := 28) (by decide) hlt (by decide))) (fun c_3 => ?_)
      refine lv_iload_n hx hb dX0_walksOpenTo_10 rfl (lv_at hl 3 rfl) ?_
      refine lv_aload_n hx hb dX0_walksOpenTo_11 rfl (lv_at hl 0 rfl) ?_
      refine va_get (D := D) (ci := 0) (v := .ref (A 7)) (C := RX0) (T := TX0) (N := 19) hx hb hts inT_X0 hown hK.1 hP 0 rfl rfl 6 (by decide) (hts _ wfl_RX0_30) (fun _ h9 => h9) rfl dX0_walksOpenTo_12 ?_
      refine lv_iload_n hx hb dX0_walksOpenTo_15 rfl (lv_at hl 1 rfl) ?_
      refine va_iald (D := D) (f := (u 6)) hx hb hK.1 hP 7 1 rfl rfl ho dX0_walksOpenTo_16 ?_
      refine rS (As := [.int (nI i), .int ((u 6) (a1).toNatClampNeg)]) (rest := []) hx hb hml hown hts hl.1 (kX4_otherRoof l D cyC cyI cyO (nI i) ((u 6) (a1).toNatClampNeg)) bS_X4_otherRoof  wml_RX0_135 ⟨rfl, rfl⟩ ⟨Nat.le_of_ble_eq_true rfl, Nat.le_of_ble_eq_true rfl, Nat.zero_le _, Nat.zero_le _⟩ [] rfl hP hK rfl rfl (Nat.le_of_ble_eq_true rfl) dX0_walksOpenTo_17 ?_
      refine lv_istore (lv' := [(4, .int (pX4_otherRoof (nI i) ((u 6) (a1).toNatClampNeg))), (0, .ref (A 0)), (1, .int a1), (2, .int (pX0_walksOpenTo_L4 u w a1 i)), (3, .int (nI i))]) hx hb dX0_walksOpenTo_20 hl (by decide) rfl (fun ls hl => ?_)
      refine lv_aload_n hx hb dX0_walksOpenTo_22 rfl (lv_at hl 1 rfl) ?_
      refine lv_iload_n hx hb dX0_walksOpenTo_23 rfl (lv_at hl 2 rfl) ?_
      refine lv_iload_n hx hb dX0_walksOpenTo_24 rfl (lv_at hl 4 rfl) ?_
      refine rV (As := [.int a1, .int (nI i)]) (rest := []) hx hb hml hown hts hl.1 (kX0_standsAt l D cyC cyI cyO A u w a1 (nI i) ho) bV_X0_standsAt  wml_RX0_145 ⟨rfl, rfl⟩ ⟨Nat.le_of_ble_eq_true rfl, Nat.le_of_ble_eq_true rfl, Nat.zero_le _, Nat.zero_le _⟩ [0, 1, 2, 3, 4, 5, 6, 7, 8] rfl hP hK 0 rfl rfl rfl rfl rfl (Nat.le_of_ble_eq_true rfl) dX0_walksOpenTo_25 ?_
      refine lv_if_eq (tgt := 45) hx hb dX0_walksOpenTo_28 (by decide) (fun c_4 => ?_) (fun c_4 => ?_)
      · refine lv_iinc (v := (nI (i + 1))) (lv' := [(3, .int (nI (i + 1))), (4, .int (pX4_otherRoof (nI i) ((u 6) (a1).toNatClampNeg))), (0, .ref (A 0)), (1, .int a1), (2, .int (pX0_walksOpenTo_L4 u w a1 i))]) hx hb dX0_walksOpenTo_45 hl (k := 4) rfl (nI_succ i).symm (by decide) rfl (fun ls hl => ?_)
        refine lv_goto (tgt := 4) hx hb dX0_walksOpenTo_48 (by decide) ?_
        have e8 : pX0_walksOpenTo_L4 u w a1 (i + 1) = (pX0_walksOpenTo_L4 u w a1 i) := by rw [pX0_walksOpenTo_L4_s] <;> simp only [if_pos c_4]
        exact ih_4 (i + 1) (by omega) ls (by rw [e8]; exact lv_sub hl [2, 3, 4, 0] rfl)
      · refine lv_aload_n hx hb dX0_walksOpenTo_31 rfl (lv_at hl 1 rfl) ?_
        refine lv_iload_n hx hb dX0_walksOpenTo_32 rfl (lv_at hl 2 rfl) ?_
        refine lv_iload_n hx hb dX0_walksOpenTo_33 rfl (lv_at hl 4 rfl) ?_
        refine lv_iload hx hb dX0_walksOpenTo_34 (lv_at hl 0 rfl) ?_
        refine rV (As := [.int a1, .int (nI i), .int (pX4_otherRoof (nI i) ((u 6) (a1).toNatClampNeg))]) (rest := []) hx hb hml hown hts hl.1 (kX0_reasonNotToWalk l D cyC cyI cyO A u w a1 (nI i) (pX4_otherRoof (nI i) ((u 6) (a1).toNatClampNeg)) ho (vp_in_nI (Nat.lt_of_lt_of_le hlt (by decide)) (by decide))) bV_X0_reasonNotToWalk  wml_RX0_138 ⟨rfl, rfl⟩ ⟨Nat.le_of_ble_eq_true rfl, Nat.le_of_ble_eq_true rfl, Nat.zero_le _, Nat.zero_le _⟩ [0, 1, 2, 3, 4, 5, 6, 7, 8] rfl hP hK 0 rfl rfl rfl rfl rfl (Nat.le_of_ble_eq_true rfl) dX0_walksOpenTo_36 ?_
        refine lv_if_ne (tgt := 45) hx hb dX0_walksOpenTo_39 (by decide) (fun c_5 => ?_) (fun c_5 => ?_)
        · refine lv_iinc (v := (nI (i + 1))) (lv' := [(3, .int (nI (i + 1))), (4, .int (pX4_otherRoof (nI i) ((u 6) (a1).toNatClampNeg))), (0, .ref (A 0)), (1, .int a1), (2, .int (pX0_walksOpenTo_L4 u w a1 i))]) hx hb dX0_walksOpenTo_45 hl (k := 4) rfl (nI_succ i).symm (by decide) rfl (fun ls hl => ?_)
          refine lv_goto (tgt := 4) hx hb dX0_walksOpenTo_48 (by decide) ?_
          have e8 : pX0_walksOpenTo_L4 u w a1 (i + 1) = (pX0_walksOpenTo_L4 u w a1 i) := by rw [pX0_walksOpenTo_L4_s] <;> simp only [if_neg c_4, if_neg c_5]
          exact ih_4 (i + 1) (by omega) ls (by rw [e8]; exact lv_sub hl [2, 3, 4, 0] rfl)
        · refine lv_iinc (v := ((pX0_walksOpenTo_L4 u w a1 i) + (1 : Int32))) (lv' := [(2, .int ((pX0_walksOpenTo_L4 u w a1 i) + (1 : Int32))), (4, .int (pX4_otherRoof (nI i) ((u 6) (a1).toNatClampNeg))), (0, .ref (A 0)), (1, .int a1), (3, .int (nI i))]) hx hb dX0_walksOpenTo_42 hl (k := 3) rfl rfl (by decide) rfl (fun ls hl => ?_)
          refine lv_iinc (v := (nI (i + 1))) (lv' := [(3, .int (nI (i + 1))), (2, .int ((pX0_walksOpenTo_L4 u w a1 i) + (1 : Int32))), (4, .int (pX4_otherRoof (nI i) ((u 6) (a1).toNatClampNeg))), (0, .ref (A 0)), (1, .int a1)]) hx hb dX0_walksOpenTo_45 hl (k := 4) rfl (nI_succ i).symm (by decide) rfl (fun ls hl => ?_)
          refine lv_goto (tgt := 4) hx hb dX0_walksOpenTo_48 (by decide) ?_
          have e8 : pX0_walksOpenTo_L4 u w a1 (i + 1) = ((pX0_walksOpenTo_L4 u w a1 i) + (1 : Int32)) := by rw [pX0_walksOpenTo_L4_s] <;> simp only [if_neg c_4, if_pos c_5]
          exact ih_4 (i + 1) (by omega) ls (by rw [e8]; exact lv_sub hl [3, 4, 1, 0] rfl)
  exact key_4 28 0 (Nat.zero_add 28) ls (lv_sub hl [2, 3, 1, 0] rfl)
theorem bV_X0_walksOpenTo : BV RX0 yX0_walksOpenTo cX0_walksOpenTo 5 (some .int) 1 := ⟨wcd_X0_walksOpenTo, wim_X0_walksOpenTo, wse_X0_walksOpenTo, win_RX0, by decide +kernel⟩
def pX0_hangingsOpenTo_L4 (u : (Nat → Nat → Int32)) (w : (Nat → Int32)) (a1 : Int32) : Nat → Int32 := fo (fun i x_i => (if (pX0_reasonNotToHang u w a1 (nI i)) = 0 then (x_i + (1 : Int32)) else x_i)) 0
theorem pX0_hangingsOpenTo_L4_s (u : (Nat → Nat → Int32)) (w : (Nat → Int32)) (a1 : Int32) (i : Nat) : pX0_hangingsOpenTo_L4 u w a1 (i + 1) = (if (pX0_reasonNotToHang u w a1 (nI i)) = 0 then ((pX0_hangingsOpenTo_L4 u w a1 i) + (1 : Int32)) else (pX0_hangingsOpenTo_L4 u w a1 i)) := rfl
theorem pX0_hangingsOpenTo_L4_0 (u : (Nat → Nat → Int32)) (w : (Nat → Int32)) (a1 : Int32) : pX0_hangingsOpenTo_L4 u w a1 0 = 0 := rfl
def pX0_hangingsOpenTo (u : (Nat → Nat → Int32)) (w : (Nat → Int32)) (a1 : Int32) : Int32 := (pX0_hangingsOpenTo_L4 u w a1 28)
set_option maxHeartbeats 4000000 in
set_option maxRecDepth 100000 in
theorem kX0_hangingsOpenTo (l : Launch) (D : va_G) (cyC cyI cyO : ClassId) (A : Nat → Nat) (u : (Nat → Nat → Int32)) (w : (Nat → Int32)) (a1 : Int32) (ho : vp_in a1 4) (hq : (w 12) < 4) : RO l yX0_hangingsOpenTo (Ty yX0_hangingsOpenTo cX0_hangingsOpenTo 4 (some .int)) ({ frames := 4, cells := 0, slots := 0, locals := 92 } : Room) D cyC cyI cyO (wC cyI A u w) [.ref (A 0), .int a1] (pX0_hangingsOpenTo u w a1) := by
  refine Met.ofW (cc := cX0_hangingsOpenTo) (maxL := 4) (ret := (some .int)) (by decide) rfl ?_
  intro p e s m args below meth cd s₁ B hml hv
  obtain ⟨rfl, hP, hK⟩ := hv
  have hx := B.exec
  have hb := B.bytes
  have hr := B.returns
  have hts : ∀ w ∈ TB, w.before ([.ref (A 0), .int a1] : List Value).toArray s = true := fun w h => atoms_spec (ws := (Ty yX0_hangingsOpenTo cX0_hangingsOpenTo 4 (some .int))) B.pre w (List.mem_cons_of_mem _ h)
  have hown : s.vm.findClass RX0 = some m.cls := findClass_of_methodNamed B.named
  have hlocks := B.notSynchronized
  have hl := lv_entry ([.ref (A 0), .int a1]) (n := 4) (Nat.le_of_ble_eq_true rfl)
  rw [lg_entry_eq]
  generalize (lg_sl ([.ref (A 0), .int a1]) ++ List.replicate (4 - (lg_sl ([.ref (A 0), .int a1])).length) Slot.unset).toArray = ls at hl ⊢
  have hl : lv_has ls 4 [(0, .ref (A 0)), (1, .int a1)] := hl
  refine lv_iconst (v := 0) hx hb dX0_hangingsOpenTo_0 (by decide) ?_
  refine lv_istore_n (lv' := [(2, .int 0), (0, .ref (A 0)), (1, .int a1)]) hx hb dX0_hangingsOpenTo_1 rfl hl (by decide) rfl (fun ls hl => ?_)
  refine lv_iconst (v := 0) hx hb dX0_hangingsOpenTo_2 (by decide) ?_
  refine lv_istore_n (lv' := [(3, .int 0), (2, .int 0), (0, .ref (A 0)), (1, .int a1)]) hx hb dX0_hangingsOpenTo_3 rfl hl (by decide) rfl (fun ls hl => ?_)
  have key_4 : ∀ k i : Nat, i + k = 28 → ∀ (ls : Array Slot), lv_has ls 4 [(0, .ref (A 0)), (1, .int a1), (2, .int (pX0_hangingsOpenTo_L4 u w a1 i)), (3, .int (nI i))] → W p l e (headSpec (Ty yX0_hangingsOpenTo cX0_hangingsOpenTo 4 (some .int)) ({ frames := 4, cells := 0, slots := 0, locals := 92 } : Room)).room s m ([.ref (A 0), .int a1] : List Value).toArray below meth cd s.heap [] 0 0 (MQ below (vp_Si (fun x => x = (pX0_hangingsOpenTo u w a1))) ([.ref (A 0), .int a1] : List Value).toArray s 0 0 (fun _ => False)) (F0 m 4 ls []) := by
    intro k
    induction k with
    | zero =>
      intro i hi ls hl
      obtain rfl : i = 28 := hi
      obtain ⟨z_1, hz_1⟩ : ∃ q, q = (pX0_hangingsOpenTo_L4 u w a1 28) := ⟨_, rfl⟩
      rw [← hz_1] at hl
      refine lv_iload_n hx hb dX0_hangingsOpenTo_4 rfl (lv_at hl 3 rfl) ?_
      refine lv_bipush (v := 28) hx hb dX0_hangingsOpenTo_5 (by decide) ?_
      refine lv_icmp_ge (tgt := 28) hx hb dX0_hangingsOpenTo_7 (by decide) (fun c_2 => ?_) (fun c_2 => absurd (le_of (C := 28) (N := 28) (by decide)) c_2)
      refine lv_iload_n hx hb dX0_hangingsOpenTo_28 rfl (lv_at hl 2 rfl) ?_
      have e9 : z_1 = (pX0_hangingsOpenTo u w a1) := by simp only [pX0_hangingsOpenTo, ← hz_1]
      exact W.iret (v := z_1) hx hb hr (fun t ht hW => ⟨_, rfl, e9, ht⟩) (fun _ h => absurd h List.not_mem_nil) dX0_hangingsOpenTo_29
    | succ k ih_4 =>
      intro i hi ls hl
      have hlt : i < 28 := by omega
      refine lv_iload_n hx hb dX0_hangingsOpenTo_4 rfl (lv_at hl 3 rfl) ?_
      refine lv_bipush (v := 28) hx hb dX0_hangingsOpenTo_5 (by decide) ?_
      refine lv_icmp_ge (tgt := 28) hx hb dX0_hangingsOpenTo_7 (by decide) (fun c_3 => absurd c_3 (nle_of (C := 28) (N := 28) (by decide) hlt (by decide))) (fun c_3 => ?_)
      refine lv_aload_n hx hb dX0_hangingsOpenTo_10 rfl (lv_at hl 0 rfl) ?_
      refine lv_iload_n hx hb dX0_hangingsOpenTo_11 rfl (lv_at hl 1 rfl) ?_
      refine lv_iload_n hx hb dX0_hangingsOpenTo_12 rfl (lv_at hl 3 rfl) ?_
      refine rV (As := [.int a1, .int (nI i)]) (rest := []) hx hb hml hown hts hl.1 (kX0_reasonNotToHang l D cyC cyI cyO A u w a1 (nI i) ho (vp_in_nI (Nat.lt_of_lt_of_le hlt (by decide)) (by decide)) hq) bV_X0_reasonNotToHang  wml_RX0_122 ⟨rfl, rfl⟩ ⟨Nat.le_of_ble_eq_true rfl, Nat.le_of_ble_eq_true rfl, Nat.zero_le _, Nat.zero_le _⟩ [0, 1, 2, 3, 4, 5, 6, 7, 8] rfl hP hK 0 rfl rfl rfl rfl rfl (Nat.le_of_ble_eq_true rfl) dX0_hangingsOpenTo_13 ?_
      refine lv_if_ne (tgt := 22) hx hb dX0_hangingsOpenTo_16 (by decide) (fun c_4 => ?_) (fun c_4 => ?_)
      · refine lv_iinc (v := (nI (i + 1))) (lv' := [(3, .int (nI (i + 1))), (0, .ref (A 0)), (1, .int a1), (2, .int (pX0_hangingsOpenTo_L4 u w a1 i))]) hx hb dX0_hangingsOpenTo_22 hl (k := 3) rfl (nI_succ i).symm (by decide) rfl (fun ls hl => ?_)
        refine lv_goto (tgt := 4) hx hb dX0_hangingsOpenTo_25 (by decide) ?_
        have e8 : pX0_hangingsOpenTo_L4 u w a1 (i + 1) = (pX0_hangingsOpenTo_L4 u w a1 i) := by rw [pX0_hangingsOpenTo_L4_s] <;> simp only [if_neg c_4]
        exact ih_4 (i + 1) (by omega) ls (by rw [e8]; exact lv_sub hl [1, 2, 3, 0] rfl)
      · refine lv_iinc (v := ((pX0_hangingsOpenTo_L4 u w a1 i) + (1 : Int32))) (lv' := [(2, .int ((pX0_hangingsOpenTo_L4 u w a1 i) + (1 : Int32))), (0, .ref (A 0)), (1, .int a1), (3, .int (nI i))]) hx hb dX0_hangingsOpenTo_19 hl (k := 2) rfl rfl (by decide) rfl (fun ls hl => ?_)
        refine lv_iinc (v := (nI (i + 1))) (lv' := [(3, .int (nI (i + 1))), (2, .int ((pX0_hangingsOpenTo_L4 u w a1 i) + (1 : Int32))), (0, .ref (A 0)), (1, .int a1)]) hx hb dX0_hangingsOpenTo_22 hl (k := 3) rfl (nI_succ i).symm (by decide) rfl (fun ls hl => ?_)
        refine lv_goto (tgt := 4) hx hb dX0_hangingsOpenTo_25 (by decide) ?_
        have e8 : pX0_hangingsOpenTo_L4 u w a1 (i + 1) = ((pX0_hangingsOpenTo_L4 u w a1 i) + (1 : Int32)) := by rw [pX0_hangingsOpenTo_L4_s] <;> simp only [if_pos c_4]
        exact ih_4 (i + 1) (by omega) ls (by rw [e8]; exact lv_sub hl [2, 3, 1, 0] rfl)
  exact key_4 28 0 (Nat.zero_add 28) ls (lv_sub hl [2, 3, 1, 0] rfl)
theorem bV_X0_hangingsOpenTo : BV RX0 yX0_hangingsOpenTo cX0_hangingsOpenTo 4 (some .int) 1 := ⟨wcd_X0_hangingsOpenTo, wim_X0_hangingsOpenTo, wse_X0_hangingsOpenTo, win_RX0, by decide +kernel⟩
def pX0_numberOfNow (u : (Nat → Nat → Int32)) (w : (Nat → Int32)) (a1 : Int32) : Int32 := (if a1 = 0 then (w 13) else (if a1 = 1 then (w 11) else (if a1 = 2 then (pJ6_bitCount_0f7a4 (w 9)) else (if a1 = 3 then (pJ6_bitCount_0f7a4 (pX0_smokeBlown u w (w 11))) else (if a1 = 4 then (pJ6_bitCount_0f7a4 (w 10)) else (if a1 = 5 then (pJ6_bitCount_0f7a4 (pX0_allLines u w)) else (if a1 = 6 then (pJ6_bitCount_0f7a4 (pX0_cleanLines u w)) else (if a1 = 7 then (pX0_sumOverLines_3 u w) else (if a1 = 8 then (pX0_sumOverLines_4 u w) else (pX0_linesSmokedBy u w (w 11)))))))))))
set_option maxHeartbeats 4000000 in
set_option maxRecDepth 100000 in
theorem kX0_numberOfNow (l : Launch) (D : va_G) (cyC cyI cyO : ClassId) (A : Nat → Nat) (u : (Nat → Nat → Int32)) (w : (Nat → Int32)) (a1 : Int32) (hq : (w 12) < 4) : RO l yX0_numberOfNow (Ty yX0_numberOfNow cX0_numberOfNow 2 (some .int)) ({ frames := 4, cells := 0, slots := 0, locals := 93 } : Room) D cyC cyI cyO (wC cyI A u w) [.ref (A 0), .int a1] (pX0_numberOfNow u w a1) := by
  refine Met.ofW (cc := cX0_numberOfNow) (maxL := 2) (ret := (some .int)) (by decide) rfl ?_
  intro p e s m args below meth cd s₁ B hml hv
  obtain ⟨rfl, hP, hK⟩ := hv
  have hx := B.exec
  have hb := B.bytes
  have hr := B.returns
  have hts : ∀ w ∈ TB, w.before ([.ref (A 0), .int a1] : List Value).toArray s = true := fun w h => atoms_spec (ws := (Ty yX0_numberOfNow cX0_numberOfNow 2 (some .int))) B.pre w (List.mem_cons_of_mem _ h)
  have hown : s.vm.findClass RX0 = some m.cls := findClass_of_methodNamed B.named
  have hlocks := B.notSynchronized
  have hl := lv_entry ([.ref (A 0), .int a1]) (n := 2) (Nat.le_of_ble_eq_true rfl)
  rw [lg_entry_eq]
  generalize (lg_sl ([.ref (A 0), .int a1]) ++ List.replicate (2 - (lg_sl ([.ref (A 0), .int a1])).length) Slot.unset).toArray = ls at hl ⊢
  have hl : lv_has ls 2 [(0, .ref (A 0)), (1, .int a1)] := hl
  refine lv_iload_n hx hb dX0_numberOfNow_0 rfl (lv_at hl 1 rfl) ?_
  by_cases c_1 : a1 = 0
  · refine lv_tableIn (off := 51) (tgt := 52) hx hb dX0_numberOfNow_1 (by rw [c_1]; decide) (by rw [c_1]; decide) (by rw [c_1]; rfl) (by decide) ?_
    refine lv_aload_n hx hb dX0_numberOfNow_52 rfl (lv_at hl 0 rfl) ?_
    refine va_get (D := D) (ci := 0) (v := .int (w 13)) (C := RX0) (T := TX0) (N := 19) hx hb hts inT_X0 hown hK.1 hP 0 rfl rfl 13 (by decide) (hts _ wfl_RX0_74) (fun _ h9 => h9) rfl dX0_numberOfNow_53 ?_
    have e9 : (w 13) = (pX0_numberOfNow u w a1) := by simp only [pX0_numberOfNow, if_pos c_1]
    exact W.iret (v := (w 13)) hx hb hr (fun t ht hW => ⟨_, rfl, e9, ht⟩) (fun _ h => absurd h List.not_mem_nil) dX0_numberOfNow_56
  · by_cases c_2 : a1 = 1
    · refine lv_tableIn (off := 56) (tgt := 57) hx hb dX0_numberOfNow_1 (by rw [c_2]; decide) (by rw [c_2]; decide) (by rw [c_2]; rfl) (by decide) ?_
      refine lv_aload_n hx hb dX0_numberOfNow_57 rfl (lv_at hl 0 rfl) ?_
      refine va_get (D := D) (ci := 0) (v := .int (w 11)) (C := RX0) (T := TX0) (N := 19) hx hb hts inT_X0 hown hK.1 hP 0 rfl rfl 11 (by decide) (hts _ wfl_RX0_36) (fun _ h9 => h9) rfl dX0_numberOfNow_58 ?_
      have e9 : (w 11) = (pX0_numberOfNow u w a1) := by simp only [pX0_numberOfNow, if_neg c_1, if_pos c_2]
      exact W.iret (v := (w 11)) hx hb hr (fun t ht hW => ⟨_, rfl, e9, ht⟩) (fun _ h => absurd h List.not_mem_nil) dX0_numberOfNow_61
    · by_cases c_3 : a1 = 2
      · refine lv_tableIn (off := 61) (tgt := 62) hx hb dX0_numberOfNow_1 (by rw [c_3]; decide) (by rw [c_3]; decide) (by rw [c_3]; rfl) (by decide) ?_
        refine lv_aload_n hx hb dX0_numberOfNow_62 rfl (lv_at hl 0 rfl) ?_
        refine va_get (D := D) (ci := 0) (v := .int (w 9)) (C := RX0) (T := TX0) (N := 19) hx hb hts inT_X0 hown hK.1 hP 0 rfl rfl 9 (by decide) (hts _ wfl_RX0_68) (fun _ h9 => h9) rfl dX0_numberOfNow_63 ?_
        refine rS (As := [.int (w 9)]) (rest := []) hx hb hml hown hts hl.1 (kJ6_bitCount_0f7a4 l D cyC cyI cyO (w 9)) bS_J6_bitCount_0f7a4  wml_RX0_130 ⟨rfl, rfl⟩ ⟨Nat.le_of_ble_eq_true rfl, Nat.le_of_ble_eq_true rfl, Nat.zero_le _, Nat.zero_le _⟩ [] rfl hP hK rfl rfl (Nat.le_of_ble_eq_true rfl) dX0_numberOfNow_66 ?_
        have e9 : (pJ6_bitCount_0f7a4 (w 9)) = (pX0_numberOfNow u w a1) := by simp only [pX0_numberOfNow, if_neg c_1, if_neg c_2, if_pos c_3]
        exact W.iret (v := (pJ6_bitCount_0f7a4 (w 9))) hx hb hr (fun t ht hW => ⟨_, rfl, e9, ht⟩) (fun _ h => absurd h List.not_mem_nil) dX0_numberOfNow_69
      · by_cases c_4 : a1 = 3
        · refine lv_tableIn (off := 69) (tgt := 70) hx hb dX0_numberOfNow_1 (by rw [c_4]; decide) (by rw [c_4]; decide) (by rw [c_4]; rfl) (by decide) ?_
          refine lv_aload_n hx hb dX0_numberOfNow_70 rfl (lv_at hl 0 rfl) ?_
          refine lv_aload_n hx hb dX0_numberOfNow_71 rfl (lv_at hl 0 rfl) ?_
          refine va_get (D := D) (ci := 0) (v := .int (w 11)) (C := RX0) (T := TX0) (N := 19) hx hb hts inT_X0 hown hK.1 hP 0 rfl rfl 11 (by decide) (hts _ wfl_RX0_36) (fun _ h9 => h9) rfl dX0_numberOfNow_72 ?_
          refine rV (As := [.int (w 11)]) (rest := []) hx hb hml hown hts hl.1 (kX0_smokeBlown l D cyC cyI cyO A u w (w 11) hq) bV_X0_smokeBlown  wml_RX0_100 ⟨rfl, rfl⟩ ⟨Nat.le_of_ble_eq_true rfl, Nat.le_of_ble_eq_true rfl, Nat.zero_le _, Nat.zero_le _⟩ [0, 1, 2, 3, 4, 5, 6, 7, 8] rfl hP hK 0 rfl rfl rfl rfl rfl (Nat.le_of_ble_eq_true rfl) dX0_numberOfNow_75 ?_
          refine rS (As := [.int (pX0_smokeBlown u w (w 11))]) (rest := []) hx hb hml hown hts hl.1 (kJ6_bitCount_0f7a4 l D cyC cyI cyO (pX0_smokeBlown u w (w 11))) bS_J6_bitCount_0f7a4  wml_RX0_130 ⟨rfl, rfl⟩ ⟨Nat.le_of_ble_eq_true rfl, Nat.le_of_ble_eq_true rfl, Nat.zero_le _, Nat.zero_le _⟩ [] rfl hP hK rfl rfl (Nat.le_of_ble_eq_true rfl) dX0_numberOfNow_78 ?_
          have e9 : (pJ6_bitCount_0f7a4 (pX0_smokeBlown u w (w 11))) = (pX0_numberOfNow u w a1) := by simp only [pX0_numberOfNow, if_neg c_1, if_neg c_2, if_neg c_3, if_pos c_4]
          exact W.iret (v := (pJ6_bitCount_0f7a4 (pX0_smokeBlown u w (w 11)))) hx hb hr (fun t ht hW => ⟨_, rfl, e9, ht⟩) (fun _ h => absurd h List.not_mem_nil) dX0_numberOfNow_81
        · by_cases c_5 : a1 = 4
          · refine lv_tableIn (off := 81) (tgt := 82) hx hb dX0_numberOfNow_1 (by rw [c_5]; decide) (by rw [c_5]; decide) (by rw [c_5]; rfl) (by decide) ?_
            refine lv_aload_n hx hb dX0_numberOfNow_82 rfl (lv_at hl 0 rfl) ?_
            refine va_get (D := D) (ci := 0) (v := .int (w 10)) (C := RX0) (T := TX0) (N := 19) hx hb hts inT_X0 hown hK.1 hP 0 rfl rfl 10 (by decide) (hts _ wfl_RX0_71) (fun _ h9 => h9) rfl dX0_numberOfNow_83 ?_
            refine rS (As := [.int (w 10)]) (rest := []) hx hb hml hown hts hl.1 (kJ6_bitCount_0f7a4 l D cyC cyI cyO (w 10)) bS_J6_bitCount_0f7a4  wml_RX0_130 ⟨rfl, rfl⟩ ⟨Nat.le_of_ble_eq_true rfl, Nat.le_of_ble_eq_true rfl, Nat.zero_le _, Nat.zero_le _⟩ [] rfl hP hK rfl rfl (Nat.le_of_ble_eq_true rfl) dX0_numberOfNow_86 ?_
            have e9 : (pJ6_bitCount_0f7a4 (w 10)) = (pX0_numberOfNow u w a1) := by simp only [pX0_numberOfNow, if_neg c_1, if_neg c_2, if_neg c_3, if_neg c_4, if_pos c_5]
            exact W.iret (v := (pJ6_bitCount_0f7a4 (w 10))) hx hb hr (fun t ht hW => ⟨_, rfl, e9, ht⟩) (fun _ h => absurd h List.not_mem_nil) dX0_numberOfNow_89
          · by_cases c_6 : a1 = 5
            · refine lv_tableIn (off := 89) (tgt := 90) hx hb dX0_numberOfNow_1 (by rw [c_6]; decide) (by rw [c_6]; decide) (by rw [c_6]; rfl) (by decide) ?_
              refine lv_aload_n hx hb dX0_numberOfNow_90 rfl (lv_at hl 0 rfl) ?_
              refine rV (As := []) (rest := []) hx hb hml hown hts hl.1 (kX0_allLines l D cyC cyI cyO A u w) bV_X0_allLines  wml_RX0_126 ⟨rfl, rfl⟩ ⟨Nat.le_of_ble_eq_true rfl, Nat.le_of_ble_eq_true rfl, Nat.zero_le _, Nat.zero_le _⟩ [0, 1, 2, 3, 4, 5, 6, 7, 8] rfl hP hK 0 rfl rfl rfl rfl rfl (Nat.le_of_ble_eq_true rfl) dX0_numberOfNow_91 ?_
              refine rS (As := [.int (pX0_allLines u w)]) (rest := []) hx hb hml hown hts hl.1 (kJ6_bitCount_0f7a4 l D cyC cyI cyO (pX0_allLines u w)) bS_J6_bitCount_0f7a4  wml_RX0_130 ⟨rfl, rfl⟩ ⟨Nat.le_of_ble_eq_true rfl, Nat.le_of_ble_eq_true rfl, Nat.zero_le _, Nat.zero_le _⟩ [] rfl hP hK rfl rfl (Nat.le_of_ble_eq_true rfl) dX0_numberOfNow_94 ?_
              have e9 : (pJ6_bitCount_0f7a4 (pX0_allLines u w)) = (pX0_numberOfNow u w a1) := by simp only [pX0_numberOfNow, if_neg c_1, if_neg c_2, if_neg c_3, if_neg c_4, if_neg c_5, if_pos c_6]
              exact W.iret (v := (pJ6_bitCount_0f7a4 (pX0_allLines u w))) hx hb hr (fun t ht hW => ⟨_, rfl, e9, ht⟩) (fun _ h => absurd h List.not_mem_nil) dX0_numberOfNow_97
            · by_cases c_7 : a1 = 6
              · refine lv_tableIn (off := 97) (tgt := 98) hx hb dX0_numberOfNow_1 (by rw [c_7]; decide) (by rw [c_7]; decide) (by rw [c_7]; rfl) (by decide) ?_
                refine lv_aload_n hx hb dX0_numberOfNow_98 rfl (lv_at hl 0 rfl) ?_
                refine rV (As := []) (rest := []) hx hb hml hown hts hl.1 (kX0_cleanLines l D cyC cyI cyO A u w) bV_X0_cleanLines  wml_RX0_148 ⟨rfl, rfl⟩ ⟨Nat.le_of_ble_eq_true rfl, Nat.le_of_ble_eq_true rfl, Nat.zero_le _, Nat.zero_le _⟩ [0, 1, 2, 3, 4, 5, 6, 7, 8] rfl hP hK 0 rfl rfl rfl rfl rfl (Nat.le_of_ble_eq_true rfl) dX0_numberOfNow_99 ?_
                refine rS (As := [.int (pX0_cleanLines u w)]) (rest := []) hx hb hml hown hts hl.1 (kJ6_bitCount_0f7a4 l D cyC cyI cyO (pX0_cleanLines u w)) bS_J6_bitCount_0f7a4  wml_RX0_130 ⟨rfl, rfl⟩ ⟨Nat.le_of_ble_eq_true rfl, Nat.le_of_ble_eq_true rfl, Nat.zero_le _, Nat.zero_le _⟩ [] rfl hP hK rfl rfl (Nat.le_of_ble_eq_true rfl) dX0_numberOfNow_102 ?_
                have e9 : (pJ6_bitCount_0f7a4 (pX0_cleanLines u w)) = (pX0_numberOfNow u w a1) := by simp only [pX0_numberOfNow, if_neg c_1, if_neg c_2, if_neg c_3, if_neg c_4, if_neg c_5, if_neg c_6, if_pos c_7]
                exact W.iret (v := (pJ6_bitCount_0f7a4 (pX0_cleanLines u w))) hx hb hr (fun t ht hW => ⟨_, rfl, e9, ht⟩) (fun _ h => absurd h List.not_mem_nil) dX0_numberOfNow_105
              · by_cases c_8 : a1 = 7
                · refine lv_tableIn (off := 105) (tgt := 106) hx hb dX0_numberOfNow_1 (by rw [c_8]; decide) (by rw [c_8]; decide) (by rw [c_8]; rfl) (by decide) ?_
                  refine lv_aload_n hx hb dX0_numberOfNow_106 rfl (lv_at hl 0 rfl) ?_
                  refine lv_aload_n hx hb dX0_numberOfNow_107 rfl (lv_at hl 0 rfl) ?_
                  refine va_get (D := D) (ci := 0) (v := .ref (A 3)) (C := RX0) (T := TX0) (N := 19) hx hb hts inT_X0 hown hK.1 hP 0 rfl rfl 2 (by decide) (hts _ wfl_RX0_18) (fun _ h9 => h9) rfl dX0_numberOfNow_108 ?_
                  refine rV (As := [.ref (A 3)]) (rest := []) hx hb hml hown hts hl.1 (kX0_sumOverLines_3 l D cyC cyI cyO A u w) bV_X0_sumOverLines  wml_RX0_151 ⟨rfl, rfl⟩ ⟨Nat.le_of_ble_eq_true rfl, Nat.le_of_ble_eq_true rfl, Nat.zero_le _, Nat.zero_le _⟩ [0, 1, 2, 3, 4, 5, 6, 7, 8] rfl hP hK 0 rfl rfl rfl rfl rfl (Nat.le_of_ble_eq_true rfl) dX0_numberOfNow_111 ?_
                  have e9 : (pX0_sumOverLines_3 u w) = (pX0_numberOfNow u w a1) := by simp only [pX0_numberOfNow, if_neg c_1, if_neg c_2, if_neg c_3, if_neg c_4, if_neg c_5, if_neg c_6, if_neg c_7, if_pos c_8]
                  exact W.iret (v := (pX0_sumOverLines_3 u w)) hx hb hr (fun t ht hW => ⟨_, rfl, e9, ht⟩) (fun _ h => absurd h List.not_mem_nil) dX0_numberOfNow_114
                · by_cases c_9 : a1 = 8
                  · refine lv_tableIn (off := 114) (tgt := 115) hx hb dX0_numberOfNow_1 (by rw [c_9]; decide) (by rw [c_9]; decide) (by rw [c_9]; rfl) (by decide) ?_
                    refine lv_aload_n hx hb dX0_numberOfNow_115 rfl (lv_at hl 0 rfl) ?_
                    refine lv_aload_n hx hb dX0_numberOfNow_116 rfl (lv_at hl 0 rfl) ?_
                    refine va_get (D := D) (ci := 0) (v := .ref (A 4)) (C := RX0) (T := TX0) (N := 19) hx hb hts inT_X0 hown hK.1 hP 0 rfl rfl 3 (by decide) (hts _ wfl_RX0_21) (fun _ h9 => h9) rfl dX0_numberOfNow_117 ?_
                    refine rV (As := [.ref (A 4)]) (rest := []) hx hb hml hown hts hl.1 (kX0_sumOverLines_4 l D cyC cyI cyO A u w) bV_X0_sumOverLines  wml_RX0_151 ⟨rfl, rfl⟩ ⟨Nat.le_of_ble_eq_true rfl, Nat.le_of_ble_eq_true rfl, Nat.zero_le _, Nat.zero_le _⟩ [0, 1, 2, 3, 4, 5, 6, 7, 8] rfl hP hK 0 rfl rfl rfl rfl rfl (Nat.le_of_ble_eq_true rfl) dX0_numberOfNow_120 ?_
                    have e9 : (pX0_sumOverLines_4 u w) = (pX0_numberOfNow u w a1) := by simp only [pX0_numberOfNow, if_neg c_1, if_neg c_2, if_neg c_3, if_neg c_4, if_neg c_5, if_neg c_6, if_neg c_7, if_neg c_8, if_pos c_9]
                    exact W.iret (v := (pX0_sumOverLines_4 u w)) hx hb hr (fun t ht hW => ⟨_, rfl, e9, ht⟩) (fun _ h => absurd h List.not_mem_nil) dX0_numberOfNow_123
                  · have nc_1 : (a1 : Int32).toInt ≠ 0 := fun h => c_1 (Int32.toInt_inj.mp (h.trans (by decide)))
                    have nc_2 : (a1 : Int32).toInt ≠ 1 := fun h => c_2 (Int32.toInt_inj.mp (h.trans (by decide)))
                    have nc_3 : (a1 : Int32).toInt ≠ 2 := fun h => c_3 (Int32.toInt_inj.mp (h.trans (by decide)))
                    have nc_4 : (a1 : Int32).toInt ≠ 3 := fun h => c_4 (Int32.toInt_inj.mp (h.trans (by decide)))
                    have nc_5 : (a1 : Int32).toInt ≠ 4 := fun h => c_5 (Int32.toInt_inj.mp (h.trans (by decide)))
                    have nc_6 : (a1 : Int32).toInt ≠ 5 := fun h => c_6 (Int32.toInt_inj.mp (h.trans (by decide)))
                    have nc_7 : (a1 : Int32).toInt ≠ 6 := fun h => c_7 (Int32.toInt_inj.mp (h.trans (by decide)))
                    have nc_8 : (a1 : Int32).toInt ≠ 7 := fun h => c_8 (Int32.toInt_inj.mp (h.trans (by decide)))
                    have nc_9 : (a1 : Int32).toInt ≠ 8 := fun h => c_9 (Int32.toInt_inj.mp (h.trans (by decide)))
                    refine lv_tableOut (tgt := 124) hx hb dX0_numberOfNow_1 (by omega) (by decide) ?_
                    refine lv_aload_n hx hb dX0_numberOfNow_124 rfl (lv_at hl 0 rfl) ?_
                    refine lv_aload_n hx hb dX0_numberOfNow_125 rfl (lv_at hl 0 rfl) ?_
                    refine va_get (D := D) (ci := 0) (v := .int (w 11)) (C := RX0) (T := TX0) (N := 19) hx hb hts inT_X0 hown hK.1 hP 0 rfl rfl 11 (by decide) (hts _ wfl_RX0_36) (fun _ h9 => h9) rfl dX0_numberOfNow_126 ?_
                    refine rV (As := [.int (w 11)]) (rest := []) hx hb hml hown hts hl.1 (kX0_linesSmokedBy l D cyC cyI cyO A u w (w 11) hq) bV_X0_linesSmokedBy  wml_RX0_155 ⟨rfl, rfl⟩ ⟨Nat.le_of_ble_eq_true rfl, Nat.le_of_ble_eq_true rfl, Nat.zero_le _, Nat.zero_le _⟩ [0, 1, 2, 3, 4, 5, 6, 7, 8] rfl hP hK 0 rfl rfl rfl rfl rfl (Nat.le_of_ble_eq_true rfl) dX0_numberOfNow_129 ?_
                    have e9 : (pX0_linesSmokedBy u w (w 11)) = (pX0_numberOfNow u w a1) := by simp only [pX0_numberOfNow, if_neg c_1, if_neg c_2, if_neg c_3, if_neg c_4, if_neg c_5, if_neg c_6, if_neg c_7, if_neg c_8, if_neg c_9]
                    exact W.iret (v := (pX0_linesSmokedBy u w (w 11))) hx hb hr (fun t ht hW => ⟨_, rfl, e9, ht⟩) (fun _ h => absurd h List.not_mem_nil) dX0_numberOfNow_132
theorem bV_X0_numberOfNow : BV RX0 yX0_numberOfNow cX0_numberOfNow 2 (some .int) 1 := ⟨wcd_X0_numberOfNow, wim_X0_numberOfNow, wse_X0_numberOfNow, win_RX0, by decide +kernel⟩
def pX0_numberSoFar (u : (Nat → Nat → Int32)) (w : (Nat → Int32)) (a1 : Int32) : Int32 := (if a1 = 10 then (w 15) else (if a1 = 11 then (w 16) else (if a1 = 12 then (w 17) else (if a1 = 13 then (w 18) else (if a1 = 14 then (w 12) else (w 14))))))
set_option maxHeartbeats 4000000 in
set_option maxRecDepth 100000 in
theorem kX0_numberSoFar (l : Launch) (D : va_G) (cyC cyI cyO : ClassId) (A : Nat → Nat) (u : (Nat → Nat → Int32)) (w : (Nat → Int32)) (a1 : Int32) : RO l yX0_numberSoFar (Ty yX0_numberSoFar cX0_numberSoFar 2 (some .int)) ({ frames := 0, cells := 0, slots := 0, locals := 0 } : Room) D cyC cyI cyO (wC cyI A u w) [.ref (A 0), .int a1] (pX0_numberSoFar u w a1) := by
  refine Met.ofW (cc := cX0_numberSoFar) (maxL := 2) (ret := (some .int)) (by decide) rfl ?_
  intro p e s m args below meth cd s₁ B hml hv
  obtain ⟨rfl, hP, hK⟩ := hv
  have hx := B.exec
  have hb := B.bytes
  have hr := B.returns
  have hts : ∀ w ∈ TB, w.before ([.ref (A 0), .int a1] : List Value).toArray s = true := fun w h => atoms_spec (ws := (Ty yX0_numberSoFar cX0_numberSoFar 2 (some .int))) B.pre w (List.mem_cons_of_mem _ h)
  have hown : s.vm.findClass RX0 = some m.cls := findClass_of_methodNamed B.named
  have hlocks := B.notSynchronized
  have hl := lv_entry ([.ref (A 0), .int a1]) (n := 2) (Nat.le_of_ble_eq_true rfl)
  rw [lg_entry_eq]
  generalize (lg_sl ([.ref (A 0), .int a1]) ++ List.replicate (2 - (lg_sl ([.ref (A 0), .int a1])).length) Slot.unset).toArray = ls at hl ⊢
  have hl : lv_has ls 2 [(0, .ref (A 0)), (1, .int a1)] := hl
  refine lv_iload_n hx hb dX0_numberSoFar_0 rfl (lv_at hl 1 rfl) ?_
  by_cases c_1 : a1 = 10
  · refine lv_tableIn (off := 35) (tgt := 36) hx hb dX0_numberSoFar_1 (by rw [c_1]; decide) (by rw [c_1]; decide) (by rw [c_1]; rfl) (by decide) ?_
    refine lv_aload_n hx hb dX0_numberSoFar_36 rfl (lv_at hl 0 rfl) ?_
    refine va_get (D := D) (ci := 0) (v := .int (w 15)) (C := RX0) (T := TX0) (N := 19) hx hb hts inT_X0 hown hK.1 hP 0 rfl rfl 15 (by decide) (hts _ wfl_RX0_77) (fun _ h9 => h9) rfl dX0_numberSoFar_37 ?_
    have e9 : (w 15) = (pX0_numberSoFar u w a1) := by simp only [pX0_numberSoFar, if_pos c_1]
    exact W.iret (v := (w 15)) hx hb hr (fun t ht hW => ⟨_, rfl, e9, ht⟩) (fun _ h => absurd h List.not_mem_nil) dX0_numberSoFar_40
  · by_cases c_2 : a1 = 11
    · refine lv_tableIn (off := 40) (tgt := 41) hx hb dX0_numberSoFar_1 (by rw [c_2]; decide) (by rw [c_2]; decide) (by rw [c_2]; rfl) (by decide) ?_
      refine lv_aload_n hx hb dX0_numberSoFar_41 rfl (lv_at hl 0 rfl) ?_
      refine va_get (D := D) (ci := 0) (v := .int (w 16)) (C := RX0) (T := TX0) (N := 19) hx hb hts inT_X0 hown hK.1 hP 0 rfl rfl 16 (by decide) (hts _ wfl_RX0_80) (fun _ h9 => h9) rfl dX0_numberSoFar_42 ?_
      have e9 : (w 16) = (pX0_numberSoFar u w a1) := by simp only [pX0_numberSoFar, if_neg c_1, if_pos c_2]
      exact W.iret (v := (w 16)) hx hb hr (fun t ht hW => ⟨_, rfl, e9, ht⟩) (fun _ h => absurd h List.not_mem_nil) dX0_numberSoFar_45
    · by_cases c_3 : a1 = 12
      · refine lv_tableIn (off := 45) (tgt := 46) hx hb dX0_numberSoFar_1 (by rw [c_3]; decide) (by rw [c_3]; decide) (by rw [c_3]; rfl) (by decide) ?_
        refine lv_aload_n hx hb dX0_numberSoFar_46 rfl (lv_at hl 0 rfl) ?_
        refine va_get (D := D) (ci := 0) (v := .int (w 17)) (C := RX0) (T := TX0) (N := 19) hx hb hts inT_X0 hown hK.1 hP 0 rfl rfl 17 (by decide) (hts _ wfl_RX0_83) (fun _ h9 => h9) rfl dX0_numberSoFar_47 ?_
        have e9 : (w 17) = (pX0_numberSoFar u w a1) := by simp only [pX0_numberSoFar, if_neg c_1, if_neg c_2, if_pos c_3]
        exact W.iret (v := (w 17)) hx hb hr (fun t ht hW => ⟨_, rfl, e9, ht⟩) (fun _ h => absurd h List.not_mem_nil) dX0_numberSoFar_50
      · by_cases c_4 : a1 = 13
        · refine lv_tableIn (off := 50) (tgt := 51) hx hb dX0_numberSoFar_1 (by rw [c_4]; decide) (by rw [c_4]; decide) (by rw [c_4]; rfl) (by decide) ?_
          refine lv_aload_n hx hb dX0_numberSoFar_51 rfl (lv_at hl 0 rfl) ?_
          refine va_get (D := D) (ci := 0) (v := .int (w 18)) (C := RX0) (T := TX0) (N := 19) hx hb hts inT_X0 hown hK.1 hP 0 rfl rfl 18 (by decide) (hts _ wfl_RX0_86) (fun _ h9 => h9) rfl dX0_numberSoFar_52 ?_
          have e9 : (w 18) = (pX0_numberSoFar u w a1) := by simp only [pX0_numberSoFar, if_neg c_1, if_neg c_2, if_neg c_3, if_pos c_4]
          exact W.iret (v := (w 18)) hx hb hr (fun t ht hW => ⟨_, rfl, e9, ht⟩) (fun _ h => absurd h List.not_mem_nil) dX0_numberSoFar_55
        · by_cases c_5 : a1 = 14
          · refine lv_tableIn (off := 55) (tgt := 56) hx hb dX0_numberSoFar_1 (by rw [c_5]; decide) (by rw [c_5]; decide) (by rw [c_5]; rfl) (by decide) ?_
            refine lv_aload_n hx hb dX0_numberSoFar_56 rfl (lv_at hl 0 rfl) ?_
            refine va_get (D := D) (ci := 0) (v := .int (w 12)) (C := RX0) (T := TX0) (N := 19) hx hb hts inT_X0 hown hK.1 hP 0 rfl rfl 12 (by decide) (hts _ wfl_RX0_40) (fun _ h9 => h9) rfl dX0_numberSoFar_57 ?_
            have e9 : (w 12) = (pX0_numberSoFar u w a1) := by simp only [pX0_numberSoFar, if_neg c_1, if_neg c_2, if_neg c_3, if_neg c_4, if_pos c_5]
            exact W.iret (v := (w 12)) hx hb hr (fun t ht hW => ⟨_, rfl, e9, ht⟩) (fun _ h => absurd h List.not_mem_nil) dX0_numberSoFar_60
          · have nc_1 : (a1 : Int32).toInt ≠ 10 := fun h => c_1 (Int32.toInt_inj.mp (h.trans (by decide)))
            have nc_2 : (a1 : Int32).toInt ≠ 11 := fun h => c_2 (Int32.toInt_inj.mp (h.trans (by decide)))
            have nc_3 : (a1 : Int32).toInt ≠ 12 := fun h => c_3 (Int32.toInt_inj.mp (h.trans (by decide)))
            have nc_4 : (a1 : Int32).toInt ≠ 13 := fun h => c_4 (Int32.toInt_inj.mp (h.trans (by decide)))
            have nc_5 : (a1 : Int32).toInt ≠ 14 := fun h => c_5 (Int32.toInt_inj.mp (h.trans (by decide)))
            refine lv_tableOut (tgt := 61) hx hb dX0_numberSoFar_1 (by omega) (by decide) ?_
            refine lv_aload_n hx hb dX0_numberSoFar_61 rfl (lv_at hl 0 rfl) ?_
            refine va_get (D := D) (ci := 0) (v := .int (w 14)) (C := RX0) (T := TX0) (N := 19) hx hb hts inT_X0 hown hK.1 hP 0 rfl rfl 14 (by decide) (hts _ wfl_RX0_43) (fun _ h9 => h9) rfl dX0_numberSoFar_62 ?_
            have e9 : (w 14) = (pX0_numberSoFar u w a1) := by simp only [pX0_numberSoFar, if_neg c_1, if_neg c_2, if_neg c_3, if_neg c_4, if_neg c_5]
            exact W.iret (v := (w 14)) hx hb hr (fun t ht hW => ⟨_, rfl, e9, ht⟩) (fun _ h => absurd h List.not_mem_nil) dX0_numberSoFar_65
theorem bV_X0_numberSoFar : BV RX0 yX0_numberSoFar cX0_numberSoFar 2 (some .int) 1 := ⟨wcd_X0_numberSoFar, wim_X0_numberSoFar, wse_X0_numberSoFar, win_RX0, by decide +kernel⟩
